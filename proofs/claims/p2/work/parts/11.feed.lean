theorem t_533 : (Jvm.Cond.fieldLink "MakerStarts" (9 : Nat) "MakerStarts" "tape" "[B") ∈ TB := inTB 533 (by decide +kernel) (by decide +kernel)
theorem dX11_feed_0 : decode cX11_feed 0 = .ok (.iload_n 3, 1) := by decide +kernel
theorem dX11_feed_1 : decode cX11_feed 1 = .ok (.iconst 1, 1) := by decide +kernel
theorem dX11_feed_2 : decode cX11_feed 2 = .ok (.if_icmp .lt 9, 3) := by decide +kernel
theorem dX11_feed_5 : decode cX11_feed 5 = .ok (.iload_n 3, 1) := by decide +kernel
theorem dX11_feed_6 : decode cX11_feed 6 = .ok (.bipush 8, 2) := by decide +kernel
theorem dX11_feed_8 : decode cX11_feed 8 = .ok (.if_icmp .le 6, 3) := by decide +kernel
theorem dX11_feed_11 : decode cX11_feed 11 = .ok (.bipush (-2), 2) := by decide +kernel
theorem dX11_feed_13 : decode cX11_feed 13 = .ok (.ireturn, 1) := by decide +kernel
theorem dX11_feed_14 : decode cX11_feed 14 = .ok (.aload_n 0, 1) := by decide +kernel
theorem dX11_feed_15 : decode cX11_feed 15 = .ok (.getfield 13, 3) := by decide +kernel
theorem dX11_feed_18 : decode cX11_feed 18 = .ok (.iload_n 3, 1) := by decide +kernel
theorem dX11_feed_19 : decode cX11_feed 19 = .ok (.iadd, 1) := by decide +kernel
theorem dX11_feed_20 : decode cX11_feed 20 = .ok (.sipush 1600, 3) := by decide +kernel
theorem dX11_feed_23 : decode cX11_feed 23 = .ok (.if_icmp .le 6, 3) := by decide +kernel
theorem dX11_feed_29 : decode cX11_feed 29 = .ok (.iload_n 3, 1) := by decide +kernel
theorem dX11_feed_30 : decode cX11_feed 30 = .ok (.iconst 1, 1) := by decide +kernel
theorem dX11_feed_31 : decode cX11_feed 31 = .ok (.isub, 1) := by decide +kernel
theorem dX11_feed_32 : decode cX11_feed 32 = .ok (.istore 4, 2) := by decide +kernel
theorem dX11_feed_34 : decode cX11_feed 34 = .ok (.iload 4, 2) := by decide +kernel
theorem dX11_feed_36 : decode cX11_feed 36 = .ok (.ifCond .lt 37, 3) := by decide +kernel
theorem dX11_feed_39 : decode cX11_feed 39 = .ok (.aload_n 0, 1) := by decide +kernel
theorem dX11_feed_40 : decode cX11_feed 40 = .ok (.getfield 9, 3) := by decide +kernel
theorem dX11_feed_43 : decode cX11_feed 43 = .ok (.aload_n 0, 1) := by decide +kernel
theorem dX11_feed_44 : decode cX11_feed 44 = .ok (.getfield 13, 3) := by decide +kernel
theorem dX11_feed_47 : decode cX11_feed 47 = .ok (.lload_n 1, 1) := by decide +kernel
theorem dX11_feed_48 : decode cX11_feed 48 = .ok (.bipush 8, 2) := by decide +kernel
theorem dX11_feed_50 : decode cX11_feed 50 = .ok (.iload 4, 2) := by decide +kernel
theorem dX11_feed_52 : decode cX11_feed 52 = .ok (.imul, 1) := by decide +kernel
theorem dX11_feed_53 : decode cX11_feed 53 = .ok (.lushr, 1) := by decide +kernel
theorem dX11_feed_54 : decode cX11_feed 54 = .ok (.l2i, 1) := by decide +kernel
theorem dX11_feed_55 : decode cX11_feed 55 = .ok (.i2b, 1) := by decide +kernel
theorem dX11_feed_56 : decode cX11_feed 56 = .ok (.bastore, 1) := by decide +kernel
theorem dX11_feed_57 : decode cX11_feed 57 = .ok (.aload_n 0, 1) := by decide +kernel
theorem dX11_feed_58 : decode cX11_feed 58 = .ok (.dup, 1) := by decide +kernel
theorem dX11_feed_59 : decode cX11_feed 59 = .ok (.getfield 13, 3) := by decide +kernel
theorem dX11_feed_62 : decode cX11_feed 62 = .ok (.iconst 1, 1) := by decide +kernel
theorem dX11_feed_63 : decode cX11_feed 63 = .ok (.iadd, 1) := by decide +kernel
theorem dX11_feed_64 : decode cX11_feed 64 = .ok (.putfield 13, 3) := by decide +kernel
theorem dX11_feed_67 : decode cX11_feed 67 = .ok (.iinc 4 (-1), 3) := by decide +kernel
theorem dX11_feed_70 : decode cX11_feed 70 = .ok (.goto (-36), 3) := by decide +kernel
theorem dX11_feed_73 : decode cX11_feed 73 = .ok (.aload_n 0, 1) := by decide +kernel
theorem dX11_feed_74 : decode cX11_feed 74 = .ok (.getfield 13, 3) := by decide +kernel
theorem dX11_feed_77 : decode cX11_feed 77 = .ok (.ireturn, 1) := by decide +kernel
theorem dX12_feed_0 : decode cX12_feed 0 = .ok (.aload_n 0, 1) := by decide +kernel
theorem dX12_feed_1 : decode cX12_feed 1 = .ok (.iconst 0, 1) := by decide +kernel
theorem dX12_feed_2 : decode cX12_feed 2 = .ok (.putfield 177, 3) := by decide +kernel
theorem dX12_feed_5 : decode cX12_feed 5 = .ok (.iload_n 3, 1) := by decide +kernel
theorem dX12_feed_6 : decode cX12_feed 6 = .ok (.iconst 1, 1) := by decide +kernel
theorem dX12_feed_7 : decode cX12_feed 7 = .ok (.if_icmp .lt 9, 3) := by decide +kernel
theorem dX12_feed_10 : decode cX12_feed 10 = .ok (.iload_n 3, 1) := by decide +kernel
theorem dX12_feed_11 : decode cX12_feed 11 = .ok (.bipush 8, 2) := by decide +kernel
theorem dX12_feed_13 : decode cX12_feed 13 = .ok (.if_icmp .le 6, 3) := by decide +kernel
theorem dX12_feed_16 : decode cX12_feed 16 = .ok (.bipush (-2), 2) := by decide +kernel
theorem dX12_feed_18 : decode cX12_feed 18 = .ok (.ireturn, 1) := by decide +kernel
theorem dX12_feed_19 : decode cX12_feed 19 = .ok (.aload_n 0, 1) := by decide +kernel
theorem dX12_feed_20 : decode cX12_feed 20 = .ok (.getfield 180, 3) := by decide +kernel
theorem dX12_feed_23 : decode cX12_feed 23 = .ok (.iload_n 3, 1) := by decide +kernel
theorem dX12_feed_24 : decode cX12_feed 24 = .ok (.iadd, 1) := by decide +kernel
theorem dX12_feed_25 : decode cX12_feed 25 = .ok (.sipush 1600, 3) := by decide +kernel
theorem dX12_feed_28 : decode cX12_feed 28 = .ok (.if_icmp .le 6, 3) := by decide +kernel
theorem dX12_feed_34 : decode cX12_feed 34 = .ok (.iload_n 3, 1) := by decide +kernel
theorem dX12_feed_35 : decode cX12_feed 35 = .ok (.iconst 1, 1) := by decide +kernel
theorem dX12_feed_36 : decode cX12_feed 36 = .ok (.isub, 1) := by decide +kernel
theorem dX12_feed_37 : decode cX12_feed 37 = .ok (.istore 4, 2) := by decide +kernel
theorem dX12_feed_39 : decode cX12_feed 39 = .ok (.iload 4, 2) := by decide +kernel
theorem dX12_feed_41 : decode cX12_feed 41 = .ok (.ifCond .lt 37, 3) := by decide +kernel
theorem dX12_feed_44 : decode cX12_feed 44 = .ok (.aload_n 0, 1) := by decide +kernel
theorem dX12_feed_45 : decode cX12_feed 45 = .ok (.getfield 7, 3) := by decide +kernel
theorem dX12_feed_48 : decode cX12_feed 48 = .ok (.aload_n 0, 1) := by decide +kernel
theorem dX12_feed_49 : decode cX12_feed 49 = .ok (.getfield 180, 3) := by decide +kernel
theorem dX12_feed_52 : decode cX12_feed 52 = .ok (.lload_n 1, 1) := by decide +kernel
theorem dX12_feed_53 : decode cX12_feed 53 = .ok (.bipush 8, 2) := by decide +kernel
theorem dX12_feed_55 : decode cX12_feed 55 = .ok (.iload 4, 2) := by decide +kernel
theorem dX12_feed_57 : decode cX12_feed 57 = .ok (.imul, 1) := by decide +kernel
theorem dX12_feed_58 : decode cX12_feed 58 = .ok (.lshr, 1) := by decide +kernel
theorem dX12_feed_59 : decode cX12_feed 59 = .ok (.l2i, 1) := by decide +kernel
theorem dX12_feed_60 : decode cX12_feed 60 = .ok (.i2b, 1) := by decide +kernel
theorem dX12_feed_61 : decode cX12_feed 61 = .ok (.bastore, 1) := by decide +kernel
theorem dX12_feed_62 : decode cX12_feed 62 = .ok (.aload_n 0, 1) := by decide +kernel
theorem dX12_feed_63 : decode cX12_feed 63 = .ok (.dup, 1) := by decide +kernel
theorem dX12_feed_64 : decode cX12_feed 64 = .ok (.getfield 180, 3) := by decide +kernel
theorem dX12_feed_67 : decode cX12_feed 67 = .ok (.iconst 1, 1) := by decide +kernel
theorem dX12_feed_68 : decode cX12_feed 68 = .ok (.iadd, 1) := by decide +kernel
theorem dX12_feed_69 : decode cX12_feed 69 = .ok (.putfield 180, 3) := by decide +kernel
theorem dX12_feed_72 : decode cX12_feed 72 = .ok (.iinc 4 (-1), 3) := by decide +kernel
theorem dX12_feed_75 : decode cX12_feed 75 = .ok (.goto (-36), 3) := by decide +kernel
theorem dX12_feed_78 : decode cX12_feed 78 = .ok (.aload_n 0, 1) := by decide +kernel
theorem dX12_feed_79 : decode cX12_feed 79 = .ok (.getfield 180, 3) := by decide +kernel
theorem dX12_feed_82 : decode cX12_feed 82 = .ok (.ireturn, 1) := by decide +kernel
def fd (x : Int32) : Int32 := if x < 1 then -2 else if 8 < x then -2 else x
theorem fd_n {x : Int32} (h : x < 0) : x < 1 := by
  have := Int32.lt_iff_toInt_lt.mp h
  apply Int32.lt_iff_toInt_lt.mpr
  have e0 : (0 : Int32).toInt = 0 := by decide
  have e1 : (1 : Int32).toInt = 1 := by decide
  omega
theorem fd_nv {x : Int32} (h : x < 0) : fd x = -2 := by unfold fd; rw [if_pos (fd_n h)]
theorem fd_b1 {x : Int32} (h : nI 9 ≤ x) : ¬ x < 1 := by
  intro h2
  have a := tb_big (n := 9) (by decide) h
  have b := Int32.lt_iff_toInt_lt.mp h2
  have e1 : (1 : Int32).toInt = 1 := by decide
  omega
theorem fd_b8 {x : Int32} (h : nI 9 ≤ x) : 8 < x := by
  have a := tb_big (n := 9) (by decide) h
  apply Int32.lt_iff_toInt_lt.mpr
  have e1 : (8 : Int32).toInt = 8 := by decide
  omega
theorem fd_bv {x : Int32} (h : nI 9 ≤ x) : fd x = -2 := by unfold fd; rw [if_neg (fd_b1 h), if_pos (fd_b8 h)]

set_option maxHeartbeats 4000000 in
set_option maxRecDepth 100000 in
theorem c_feed (l : Launch) (D : va_G) (cy : Nat → ClassId) (sz : Nat) (hx0 : Nat) (xa : Nat → Nat) (p0 : Int64) (p1 : Int32) : Met l yX11_feed (.code yX11_feed cX11_feed 5 (some .int) :: TB) ({ frames := 0, cells := 0, slots := 0, locals := 0 }) (va_Pc [.ref hx0, .long p0, .int p1] (fun U => U.heap.size = sz ∧ va_P D vwCl [(hx0, .inr (11, [.ref (xa 0), .int 0, .int (-1), .ref (xa 1), .ref (xa 2), .ref (xa 3), .ref (xa 4), .ref (xa 5)])), ((xa 0), .inl (cy 0, 1600, .inl (fun _ => 0)))] U.heap ∧ va_K D vwCl (TY cy) U ∧ va_D (fun _ => True) [(hx0, .inr (11, [.ref (xa 0), .int 0, .int (-1), .ref (xa 1), .ref (xa 2), .ref (xa 3), .ref (xa 4), .ref (xa 5)])), ((xa 0), .inl (cy 0, 1600, .inl (fun _ => 0)))])) (va_Qi (fun (r : Int32) (u : Unit) => r = fd p1) (fun (u : Unit) t => va_P D vwCl [] t.heap ∧ va_D (va_A [(hx0, .inr (11, [.ref (xa 0), .int 0, .int (-1), .ref (xa 1), .ref (xa 2), .ref (xa 3), .ref (xa 4), .ref (xa 5)])), ((xa 0), .inl (cy 0, 1600, .inl (fun _ => 0)))] sz) []) (va_A [(hx0, .inr (11, [.ref (xa 0), .int 0, .int (-1), .ref (xa 1), .ref (xa 2), .ref (xa 3), .ref (xa 4), .ref (xa 5)])), ((xa 0), .inl (cy 0, 1600, .inl (fun _ => 0)))] sz)) 0 0 (va_A [(hx0, .inr (11, [.ref (xa 0), .int 0, .int (-1), .ref (xa 1), .ref (xa 2), .ref (xa 3), .ref (xa 4), .ref (xa 5)])), ((xa 0), .inl (cy 0, 1600, .inl (fun _ => 0)))] sz) := by
  refine Met.ofW (cc := cX11_feed) (maxL := 5) (ret := (some .int)) (by decide) rfl ?_
  intro p e s m args below meth c s₁ B hml hv
  obtain ⟨rfl, hsz, hP, hK, hD0⟩ := hv
  have hx := B.exec
  have hb := B.bytes
  have hr := B.returns
  have hts := atoms_spec (ws := .code yX11_feed cX11_feed 5 (some .int) :: TB) B.pre
  have hT : ∀ w ∈ TB, w.before _ s = true := fun w h => hts w (List.mem_cons_of_mem _ h)
  have hown : s.vm.findClass "MakerStarts" = some m.cls := findClass_of_methodNamed B.named
  have hlocks := B.notSynchronized
  subst hsz
  have hD := hD0.self (sz := s.heap.size)
  generalize hAe : va_A [(hx0, .inr (11, [.ref (xa 0), .int 0, .int (-1), .ref (xa 1), .ref (xa 2), .ref (xa 3), .ref (xa 4), .ref (xa 5)])), ((xa 0), .inl (cy 0, 1600, .inl (fun _ => 0)))] s.heap.size = A at hD  ⊢
  have hA : ∀ q : Nat, s.heap.size ≤ q → A q := fun q h => by rw [← hAe]; exact Or.inr h
  have hS : va_S A s.heap s.heap [] := va_S.rf
  have hP : va_P D vwCl [(hx0, .inr (11, [.ref (xa 0), .int 0, .int (-1), .ref (xa 1), .ref (xa 2), .ref (xa 3), .ref (xa 4), .ref (xa 5)])), ((xa 0), .inl (cy 0, 1600, .inl (fun _ => 0)))] s.heap := hP
  have hl := lv_entry ([.ref hx0, .long p0, .int p1]) (n := 5) (Nat.le_of_ble_eq_true rfl)
  rw [lg_entry_eq]
  generalize (lg_sl ([.ref hx0, .long p0, .int p1]) ++ List.replicate (5 - (lg_sl ([.ref hx0, .long p0, .int p1])).length) Slot.unset).toArray = ls at hl ⊢
  have hl : lv_has ls 5 [(0, .ref hx0), (1, .long p0), (3, .int p1)] := hl
  rcases pk_ix p1 (n := 9) (by decide) with h9 | h9 | ⟨j9, hj9, rfl⟩
  · refine lv_iload_n hx hb dX11_feed_0 rfl (lv_at hl 2 rfl) ?_
    refine lv_iconst (v := 1) hx hb dX11_feed_1 (by decide) ?_
    refine lv_icmp_lt (tgt := 11) hx hb dX11_feed_2 (by decide) (fun _ => ?_) (fun c9 => absurd (fd_n h9) c9)
    refine lv_bipush (v := (-2)) hx hb dX11_feed_11 (by decide) ?_
    have hP9 := hP.sub (ws' := []) [] rfl
    have hD9 := hD.sub (ws' := []) [] (by decide) rfl
    refine W.widen (k := 0) (n := 0) (Nat.le_of_ble_eq_true rfl) (Nat.le_of_ble_eq_true rfl) ?_
    exact W.iret (v := (-2)) hx hb hr (fun t ht hW => ⟨⟨(-2), (), rfl, (fd_nv h9).symm, by rw [ht]; exact hP9, hD9⟩, hS.F ht⟩) hS.2.2 dX11_feed_13
  · refine lv_iload_n hx hb dX11_feed_0 rfl (lv_at hl 2 rfl) ?_
    refine lv_iconst (v := 1) hx hb dX11_feed_1 (by decide) ?_
    refine lv_icmp_lt (tgt := 11) hx hb dX11_feed_2 (by decide) (fun c9 => absurd c9 (fd_b1 h9)) (fun _ => ?_)
    refine lv_iload_n hx hb dX11_feed_5 rfl (lv_at hl 2 rfl) ?_
    refine lv_bipush (v := 8) hx hb dX11_feed_6 (by decide) ?_
    refine lv_icmp_le (tgt := 14) hx hb dX11_feed_8 (by decide) (fun c9 => absurd c9 (Int32.not_le.mpr (fd_b8 h9))) (fun _ => ?_)
    refine lv_bipush (v := (-2)) hx hb dX11_feed_11 (by decide) ?_
    have hP9 := hP.sub (ws' := []) [] rfl
    have hD9 := hD.sub (ws' := []) [] (by decide) rfl
    refine W.widen (k := 0) (n := 0) (Nat.le_of_ble_eq_true rfl) (Nat.le_of_ble_eq_true rfl) ?_
    exact W.iret (v := (-2)) hx hb hr (fun t ht hW => ⟨⟨(-2), (), rfl, (fd_bv h9).symm, by rw [ht]; exact hP9, hD9⟩, hS.F ht⟩) hS.2.2 dX11_feed_13
  · rcases (show j9 = 0 ∨ j9 = 1 ∨ j9 = 2 ∨ j9 = 3 ∨ j9 = 4 ∨ j9 = 5 ∨ j9 = 6 ∨ j9 = 7 ∨ j9 = 8 by omega) with rfl | rfl | rfl | rfl | rfl | rfl | rfl | rfl | rfl
    · refine lv_iload_n hx hb dX11_feed_0 rfl (lv_at hl 2 rfl) ?_
      refine lv_iconst (v := 1) hx hb dX11_feed_1 (by decide) ?_
      refine lv_icmp_lt (tgt := 11) hx hb dX11_feed_2 (by decide) (fun _ => ?_) (fun c9 => absurd (by decide) c9)
      refine lv_bipush (v := (-2)) hx hb dX11_feed_11 (by decide) ?_
      have hP9 := hP.sub (ws' := []) [] rfl
      have hD9 := hD.sub (ws' := []) [] (by decide) rfl
      refine W.widen (k := 0) (n := 0) (Nat.le_of_ble_eq_true rfl) (Nat.le_of_ble_eq_true rfl) ?_
      exact W.iret (v := (-2)) hx hb hr (fun t ht hW => ⟨⟨(-2), (), rfl, (by decide), by rw [ht]; exact hP9, hD9⟩, hS.F ht⟩) hS.2.2 dX11_feed_13
    · refine lv_iload_n hx hb dX11_feed_0 rfl (lv_at hl 2 rfl) ?_
      refine lv_iconst (v := 1) hx hb dX11_feed_1 (by decide) ?_
      refine lv_icmp_lt (tgt := 11) hx hb dX11_feed_2 (by decide) (fun c9 => absurd c9 (by decide)) (fun _ => ?_)
      refine lv_iload_n hx hb dX11_feed_5 rfl (lv_at hl 2 rfl) ?_
      refine lv_bipush (v := 8) hx hb dX11_feed_6 (by decide) ?_
      refine lv_icmp_le (tgt := 14) hx hb dX11_feed_8 (by decide) (fun _ => ?_) (fun c9 => absurd (by decide) c9)
      refine lv_aload_n hx hb dX11_feed_14 rfl (lv_at hl 0 rfl) ?_
      refine va_get (D := D) (ci := 11) (v := .int 0) (C := RX11) (T := TX11) (N := 8) hx hb hT i_TX11 hown hK hP 0 rfl rfl 1 (by decide) (hT _ t_534) (fun _ h9 => h9) rfl dX11_feed_15 ?_
      refine lv_iload_n hx hb dX11_feed_18 rfl (lv_at hl 2 rfl) ?_
      refine lv_iadd hx hb dX11_feed_19 ?_
      refine lv_topi (fun z1 e2 => ?_)
      obtain rfl : z1 = 1 := e2.trans (by first | decide | rfl)
      refine lv_sipush (v := 1600) hx hb dX11_feed_20 (by decide) ?_
      refine lv_icmp_le (tgt := 29) hx hb dX11_feed_23 (by decide) (fun _ => ?_) (fun c9 => absurd (by decide) c9)
      refine lv_iload_n hx hb dX11_feed_29 rfl (lv_at hl 2 rfl) ?_
      refine lv_iconst (v := 1) hx hb dX11_feed_30 (by decide) ?_
      refine lv_isub hx hb dX11_feed_31 ?_
      refine lv_topi (fun z3 e4 => ?_)
      obtain rfl : z3 = 0 := e4.trans (by first | decide | rfl)
      refine lv_istore (lv' := [(4, .int 0), (0, .ref hx0), (1, .long p0), (3, .int (nI 1))]) hx hb dX11_feed_32 hl (by decide) rfl (fun ls hl => ?_)
      refine lv_iload hx hb dX11_feed_34 (lv_at hl 0 rfl) ?_
      refine lv_if_lt (tgt := 73) hx hb dX11_feed_36 (by decide) (fun c9 => absurd c9 (by decide)) (fun _ => ?_)
      refine lv_aload_n hx hb dX11_feed_39 rfl (lv_at hl 1 rfl) ?_
      refine va_get (D := D) (ci := 11) (v := .ref (xa 0)) (C := RX11) (T := TX11) (N := 8) hx hb hT i_TX11 hown hK hP 0 rfl rfl 0 (by decide) (hT _ t_533) (fun _ h9 => h9) rfl dX11_feed_40 ?_
      refine lv_aload_n hx hb dX11_feed_43 rfl (lv_at hl 1 rfl) ?_
      refine va_get (D := D) (ci := 11) (v := .int 0) (C := RX11) (T := TX11) (N := 8) hx hb hT i_TX11 hown hK hP 0 rfl rfl 1 (by decide) (hT _ t_534) (fun _ h9 => h9) rfl dX11_feed_44 ?_
      refine lv_lload_n hx hb dX11_feed_47 rfl (lv_at hl 2 rfl) ?_
      refine lv_bipush (v := 8) hx hb dX11_feed_48 (by decide) ?_
      refine lv_iload hx hb dX11_feed_50 (lv_at hl 0 rfl) ?_
      refine lv_imul hx hb dX11_feed_52 ?_
      refine lv_topi (fun z5 e6 => ?_)
      obtain rfl : z5 = 0 := e6.trans (by first | decide | rfl)
      refine lv_lushr hx hb dX11_feed_53 rfl ?_
      refine lv_topl (fun z7 e8 => ?_)
      refine lv_l2i hx hb dX11_feed_54 rfl ?_
      refine lv_topi (fun z9 e10 => ?_)
      refine lv_i2b hx hb dX11_feed_55 rfl ?_
      refine lv_topi (fun z11 e12 => ?_)
      refine va_bast hx hb hK hP hD hS 1 0 rfl rfl (vp_in_iff.mpr (by decide)) dX11_feed_56 (fun H locs hP hD hS => ?_)
      have hP : va_P D vwCl [(hx0, .inr (11, [.ref (xa 0), .int 0, .int (-1), .ref (xa 1), .ref (xa 2), .ref (xa 3), .ref (xa 4), .ref (xa 5)])), ((xa 0), .inl (cy 0, 1600, .inl (upd (fun _ => 0) (0 : Int32).toNatClampNeg (vp_nar .byte z11))))] H := hP
      have hD : va_D A [(hx0, .inr (11, [.ref (xa 0), .int 0, .int (-1), .ref (xa 1), .ref (xa 2), .ref (xa 3), .ref (xa 4), .ref (xa 5)])), ((xa 0), .inl (cy 0, 1600, .inl (upd (fun _ => 0) (0 : Int32).toNatClampNeg (vp_nar .byte z11))))] := hD
      generalize hff13 : (upd (fun _ => 0) (0 : Int32).toNatClampNeg (vp_nar .byte z11)) = f13 at hP hD
      refine lv_aload_n hx hb dX11_feed_57 rfl (lv_at hl 1 rfl) ?_
      refine lv_dup hx hb dX11_feed_58 rfl ?_
      refine va_get (D := D) (ci := 11) (v := .int 0) (C := RX11) (T := TX11) (N := 8) hx hb hT i_TX11 hown hK hP 0 rfl rfl 1 (by decide) (hT _ t_534) (fun _ h9 => h9) rfl dX11_feed_59 ?_
      refine lv_iconst (v := 1) hx hb dX11_feed_62 (by decide) ?_
      refine lv_iadd hx hb dX11_feed_63 ?_
      refine lv_topi (fun z14 e15 => ?_)
      obtain rfl : z14 = 1 := e15.trans (by first | decide | rfl)
      refine va_put (D := D) (ci := 11) (v := .int 1) (ty := .int) (C := RX11) (T := TX11) (N := 8) hx hb hT i_TX11 tyX11 tyX11_ok nmX11 hown hK hP hD hS 0 rfl rfl 1 (by decide) (hT _ t_534) (fun _ h9 => h9) rfl (by decide +kernel) rfl rfl (Nat.le_of_ble_eq_true rfl) dX11_feed_64 (fun H locs hP hD hS => ?_)
      have hP : va_P D vwCl [(hx0, .inr (11, [.ref (xa 0), .int 1, .int (-1), .ref (xa 1), .ref (xa 2), .ref (xa 3), .ref (xa 4), .ref (xa 5)])), ((xa 0), .inl (cy 0, 1600, .inl f13))] H := hP
      have hD : va_D A [(hx0, .inr (11, [.ref (xa 0), .int 1, .int (-1), .ref (xa 1), .ref (xa 2), .ref (xa 3), .ref (xa 4), .ref (xa 5)])), ((xa 0), .inl (cy 0, 1600, .inl f13))] := hD
      refine lv_iinc (v := (-1)) (lv' := [(4, .int (-1)), (0, .ref hx0), (1, .long p0), (3, .int (nI 1))]) hx hb dX11_feed_67 hl (k := 0) rfl (by decide) (by decide) rfl (fun ls hl => ?_)
      refine lv_goto (tgt := 34) hx hb dX11_feed_70 (by decide) ?_
      refine lv_iload hx hb dX11_feed_34 (lv_at hl 0 rfl) ?_
      refine lv_if_lt (tgt := 73) hx hb dX11_feed_36 (by decide) (fun _ => ?_) (fun c9 => absurd (by decide) c9)
      refine lv_aload_n hx hb dX11_feed_73 rfl (lv_at hl 1 rfl) ?_
      refine va_get (D := D) (ci := 11) (v := .int 1) (C := RX11) (T := TX11) (N := 8) hx hb hT i_TX11 hown hK hP 0 rfl rfl 1 (by decide) (hT _ t_534) (fun _ h9 => h9) rfl dX11_feed_74 ?_
      have hP9 := hP.sub (ws' := []) [] rfl
      have hD9 := hD.sub (ws' := []) [] (by decide) rfl
      refine W.widen (k := 0) (n := 0) (Nat.le_of_ble_eq_true rfl) (Nat.le_of_ble_eq_true rfl) ?_
      exact W.iret (v := 1) hx hb hr (fun t ht hW => ⟨⟨1, (), rfl, (by decide), by rw [ht]; exact hP9, hD9⟩, hS.F ht⟩) hS.2.2 dX11_feed_77
    · refine lv_iload_n hx hb dX11_feed_0 rfl (lv_at hl 2 rfl) ?_
      refine lv_iconst (v := 1) hx hb dX11_feed_1 (by decide) ?_
      refine lv_icmp_lt (tgt := 11) hx hb dX11_feed_2 (by decide) (fun c9 => absurd c9 (by decide)) (fun _ => ?_)
      refine lv_iload_n hx hb dX11_feed_5 rfl (lv_at hl 2 rfl) ?_
      refine lv_bipush (v := 8) hx hb dX11_feed_6 (by decide) ?_
      refine lv_icmp_le (tgt := 14) hx hb dX11_feed_8 (by decide) (fun _ => ?_) (fun c9 => absurd (by decide) c9)
      refine lv_aload_n hx hb dX11_feed_14 rfl (lv_at hl 0 rfl) ?_
      refine va_get (D := D) (ci := 11) (v := .int 0) (C := RX11) (T := TX11) (N := 8) hx hb hT i_TX11 hown hK hP 0 rfl rfl 1 (by decide) (hT _ t_534) (fun _ h9 => h9) rfl dX11_feed_15 ?_
      refine lv_iload_n hx hb dX11_feed_18 rfl (lv_at hl 2 rfl) ?_
      refine lv_iadd hx hb dX11_feed_19 ?_
      refine lv_topi (fun z16 e17 => ?_)
      obtain rfl : z16 = 2 := e17.trans (by first | decide | rfl)
      refine lv_sipush (v := 1600) hx hb dX11_feed_20 (by decide) ?_
      refine lv_icmp_le (tgt := 29) hx hb dX11_feed_23 (by decide) (fun _ => ?_) (fun c9 => absurd (by decide) c9)
      refine lv_iload_n hx hb dX11_feed_29 rfl (lv_at hl 2 rfl) ?_
      refine lv_iconst (v := 1) hx hb dX11_feed_30 (by decide) ?_
      refine lv_isub hx hb dX11_feed_31 ?_
      refine lv_topi (fun z18 e19 => ?_)
      obtain rfl : z18 = 1 := e19.trans (by first | decide | rfl)
      refine lv_istore (lv' := [(4, .int 1), (0, .ref hx0), (1, .long p0), (3, .int (nI 2))]) hx hb dX11_feed_32 hl (by decide) rfl (fun ls hl => ?_)
      refine lv_iload hx hb dX11_feed_34 (lv_at hl 0 rfl) ?_
      refine lv_if_lt (tgt := 73) hx hb dX11_feed_36 (by decide) (fun c9 => absurd c9 (by decide)) (fun _ => ?_)
      refine lv_aload_n hx hb dX11_feed_39 rfl (lv_at hl 1 rfl) ?_
      refine va_get (D := D) (ci := 11) (v := .ref (xa 0)) (C := RX11) (T := TX11) (N := 8) hx hb hT i_TX11 hown hK hP 0 rfl rfl 0 (by decide) (hT _ t_533) (fun _ h9 => h9) rfl dX11_feed_40 ?_
      refine lv_aload_n hx hb dX11_feed_43 rfl (lv_at hl 1 rfl) ?_
      refine va_get (D := D) (ci := 11) (v := .int 0) (C := RX11) (T := TX11) (N := 8) hx hb hT i_TX11 hown hK hP 0 rfl rfl 1 (by decide) (hT _ t_534) (fun _ h9 => h9) rfl dX11_feed_44 ?_
      refine lv_lload_n hx hb dX11_feed_47 rfl (lv_at hl 2 rfl) ?_
      refine lv_bipush (v := 8) hx hb dX11_feed_48 (by decide) ?_
      refine lv_iload hx hb dX11_feed_50 (lv_at hl 0 rfl) ?_
      refine lv_imul hx hb dX11_feed_52 ?_
      refine lv_topi (fun z20 e21 => ?_)
      obtain rfl : z20 = 8 := e21.trans (by first | decide | rfl)
      refine lv_lushr hx hb dX11_feed_53 rfl ?_
      refine lv_topl (fun z22 e23 => ?_)
      refine lv_l2i hx hb dX11_feed_54 rfl ?_
      refine lv_topi (fun z24 e25 => ?_)
      refine lv_i2b hx hb dX11_feed_55 rfl ?_
      refine lv_topi (fun z26 e27 => ?_)
      refine va_bast hx hb hK hP hD hS 1 0 rfl rfl (vp_in_iff.mpr (by decide)) dX11_feed_56 (fun H locs hP hD hS => ?_)
      have hP : va_P D vwCl [(hx0, .inr (11, [.ref (xa 0), .int 0, .int (-1), .ref (xa 1), .ref (xa 2), .ref (xa 3), .ref (xa 4), .ref (xa 5)])), ((xa 0), .inl (cy 0, 1600, .inl (upd (fun _ => 0) (0 : Int32).toNatClampNeg (vp_nar .byte z26))))] H := hP
      have hD : va_D A [(hx0, .inr (11, [.ref (xa 0), .int 0, .int (-1), .ref (xa 1), .ref (xa 2), .ref (xa 3), .ref (xa 4), .ref (xa 5)])), ((xa 0), .inl (cy 0, 1600, .inl (upd (fun _ => 0) (0 : Int32).toNatClampNeg (vp_nar .byte z26))))] := hD
      generalize hff28 : (upd (fun _ => 0) (0 : Int32).toNatClampNeg (vp_nar .byte z26)) = f28 at hP hD
      refine lv_aload_n hx hb dX11_feed_57 rfl (lv_at hl 1 rfl) ?_
      refine lv_dup hx hb dX11_feed_58 rfl ?_
      refine va_get (D := D) (ci := 11) (v := .int 0) (C := RX11) (T := TX11) (N := 8) hx hb hT i_TX11 hown hK hP 0 rfl rfl 1 (by decide) (hT _ t_534) (fun _ h9 => h9) rfl dX11_feed_59 ?_
      refine lv_iconst (v := 1) hx hb dX11_feed_62 (by decide) ?_
      refine lv_iadd hx hb dX11_feed_63 ?_
      refine lv_topi (fun z29 e30 => ?_)
      obtain rfl : z29 = 1 := e30.trans (by first | decide | rfl)
      refine va_put (D := D) (ci := 11) (v := .int 1) (ty := .int) (C := RX11) (T := TX11) (N := 8) hx hb hT i_TX11 tyX11 tyX11_ok nmX11 hown hK hP hD hS 0 rfl rfl 1 (by decide) (hT _ t_534) (fun _ h9 => h9) rfl (by decide +kernel) rfl rfl (Nat.le_of_ble_eq_true rfl) dX11_feed_64 (fun H locs hP hD hS => ?_)
      have hP : va_P D vwCl [(hx0, .inr (11, [.ref (xa 0), .int 1, .int (-1), .ref (xa 1), .ref (xa 2), .ref (xa 3), .ref (xa 4), .ref (xa 5)])), ((xa 0), .inl (cy 0, 1600, .inl f28))] H := hP
      have hD : va_D A [(hx0, .inr (11, [.ref (xa 0), .int 1, .int (-1), .ref (xa 1), .ref (xa 2), .ref (xa 3), .ref (xa 4), .ref (xa 5)])), ((xa 0), .inl (cy 0, 1600, .inl f28))] := hD
      refine lv_iinc (v := 0) (lv' := [(4, .int 0), (0, .ref hx0), (1, .long p0), (3, .int (nI 2))]) hx hb dX11_feed_67 hl (k := 0) rfl (by decide) (by decide) rfl (fun ls hl => ?_)
      refine lv_goto (tgt := 34) hx hb dX11_feed_70 (by decide) ?_
      refine lv_iload hx hb dX11_feed_34 (lv_at hl 0 rfl) ?_
      refine lv_if_lt (tgt := 73) hx hb dX11_feed_36 (by decide) (fun c9 => absurd c9 (by decide)) (fun _ => ?_)
      refine lv_aload_n hx hb dX11_feed_39 rfl (lv_at hl 1 rfl) ?_
      refine va_get (D := D) (ci := 11) (v := .ref (xa 0)) (C := RX11) (T := TX11) (N := 8) hx hb hT i_TX11 hown hK hP 0 rfl rfl 0 (by decide) (hT _ t_533) (fun _ h9 => h9) rfl dX11_feed_40 ?_
      refine lv_aload_n hx hb dX11_feed_43 rfl (lv_at hl 1 rfl) ?_
      refine va_get (D := D) (ci := 11) (v := .int 1) (C := RX11) (T := TX11) (N := 8) hx hb hT i_TX11 hown hK hP 0 rfl rfl 1 (by decide) (hT _ t_534) (fun _ h9 => h9) rfl dX11_feed_44 ?_
      refine lv_lload_n hx hb dX11_feed_47 rfl (lv_at hl 2 rfl) ?_
      refine lv_bipush (v := 8) hx hb dX11_feed_48 (by decide) ?_
      refine lv_iload hx hb dX11_feed_50 (lv_at hl 0 rfl) ?_
      refine lv_imul hx hb dX11_feed_52 ?_
      refine lv_topi (fun z31 e32 => ?_)
      obtain rfl : z31 = 0 := e32.trans (by first | decide | rfl)
      refine lv_lushr hx hb dX11_feed_53 rfl ?_
      refine lv_topl (fun z33 e34 => ?_)
      refine lv_l2i hx hb dX11_feed_54 rfl ?_
      refine lv_topi (fun z35 e36 => ?_)
      refine lv_i2b hx hb dX11_feed_55 rfl ?_
      refine lv_topi (fun z37 e38 => ?_)
      refine va_bast hx hb hK hP hD hS 1 0 rfl rfl (vp_in_iff.mpr (by decide)) dX11_feed_56 (fun H locs hP hD hS => ?_)
      have hP : va_P D vwCl [(hx0, .inr (11, [.ref (xa 0), .int 1, .int (-1), .ref (xa 1), .ref (xa 2), .ref (xa 3), .ref (xa 4), .ref (xa 5)])), ((xa 0), .inl (cy 0, 1600, .inl (upd f28 (1 : Int32).toNatClampNeg (vp_nar .byte z37))))] H := hP
      have hD : va_D A [(hx0, .inr (11, [.ref (xa 0), .int 1, .int (-1), .ref (xa 1), .ref (xa 2), .ref (xa 3), .ref (xa 4), .ref (xa 5)])), ((xa 0), .inl (cy 0, 1600, .inl (upd f28 (1 : Int32).toNatClampNeg (vp_nar .byte z37))))] := hD
      generalize hff39 : (upd f28 (1 : Int32).toNatClampNeg (vp_nar .byte z37)) = f39 at hP hD
      refine lv_aload_n hx hb dX11_feed_57 rfl (lv_at hl 1 rfl) ?_
      refine lv_dup hx hb dX11_feed_58 rfl ?_
      refine va_get (D := D) (ci := 11) (v := .int 1) (C := RX11) (T := TX11) (N := 8) hx hb hT i_TX11 hown hK hP 0 rfl rfl 1 (by decide) (hT _ t_534) (fun _ h9 => h9) rfl dX11_feed_59 ?_
      refine lv_iconst (v := 1) hx hb dX11_feed_62 (by decide) ?_
      refine lv_iadd hx hb dX11_feed_63 ?_
      refine lv_topi (fun z40 e41 => ?_)
      obtain rfl : z40 = 2 := e41.trans (by first | decide | rfl)
      refine va_put (D := D) (ci := 11) (v := .int 2) (ty := .int) (C := RX11) (T := TX11) (N := 8) hx hb hT i_TX11 tyX11 tyX11_ok nmX11 hown hK hP hD hS 0 rfl rfl 1 (by decide) (hT _ t_534) (fun _ h9 => h9) rfl (by decide +kernel) rfl rfl (Nat.le_of_ble_eq_true rfl) dX11_feed_64 (fun H locs hP hD hS => ?_)
      have hP : va_P D vwCl [(hx0, .inr (11, [.ref (xa 0), .int 2, .int (-1), .ref (xa 1), .ref (xa 2), .ref (xa 3), .ref (xa 4), .ref (xa 5)])), ((xa 0), .inl (cy 0, 1600, .inl f39))] H := hP
      have hD : va_D A [(hx0, .inr (11, [.ref (xa 0), .int 2, .int (-1), .ref (xa 1), .ref (xa 2), .ref (xa 3), .ref (xa 4), .ref (xa 5)])), ((xa 0), .inl (cy 0, 1600, .inl f39))] := hD
      refine lv_iinc (v := (-1)) (lv' := [(4, .int (-1)), (0, .ref hx0), (1, .long p0), (3, .int (nI 2))]) hx hb dX11_feed_67 hl (k := 0) rfl (by decide) (by decide) rfl (fun ls hl => ?_)
      refine lv_goto (tgt := 34) hx hb dX11_feed_70 (by decide) ?_
      refine lv_iload hx hb dX11_feed_34 (lv_at hl 0 rfl) ?_
      refine lv_if_lt (tgt := 73) hx hb dX11_feed_36 (by decide) (fun _ => ?_) (fun c9 => absurd (by decide) c9)
      refine lv_aload_n hx hb dX11_feed_73 rfl (lv_at hl 1 rfl) ?_
      refine va_get (D := D) (ci := 11) (v := .int 2) (C := RX11) (T := TX11) (N := 8) hx hb hT i_TX11 hown hK hP 0 rfl rfl 1 (by decide) (hT _ t_534) (fun _ h9 => h9) rfl dX11_feed_74 ?_
      have hP9 := hP.sub (ws' := []) [] rfl
      have hD9 := hD.sub (ws' := []) [] (by decide) rfl
      refine W.widen (k := 0) (n := 0) (Nat.le_of_ble_eq_true rfl) (Nat.le_of_ble_eq_true rfl) ?_
      exact W.iret (v := 2) hx hb hr (fun t ht hW => ⟨⟨2, (), rfl, (by decide), by rw [ht]; exact hP9, hD9⟩, hS.F ht⟩) hS.2.2 dX11_feed_77
    · refine lv_iload_n hx hb dX11_feed_0 rfl (lv_at hl 2 rfl) ?_
      refine lv_iconst (v := 1) hx hb dX11_feed_1 (by decide) ?_
      refine lv_icmp_lt (tgt := 11) hx hb dX11_feed_2 (by decide) (fun c9 => absurd c9 (by decide)) (fun _ => ?_)
      refine lv_iload_n hx hb dX11_feed_5 rfl (lv_at hl 2 rfl) ?_
      refine lv_bipush (v := 8) hx hb dX11_feed_6 (by decide) ?_
      refine lv_icmp_le (tgt := 14) hx hb dX11_feed_8 (by decide) (fun _ => ?_) (fun c9 => absurd (by decide) c9)
      refine lv_aload_n hx hb dX11_feed_14 rfl (lv_at hl 0 rfl) ?_
      refine va_get (D := D) (ci := 11) (v := .int 0) (C := RX11) (T := TX11) (N := 8) hx hb hT i_TX11 hown hK hP 0 rfl rfl 1 (by decide) (hT _ t_534) (fun _ h9 => h9) rfl dX11_feed_15 ?_
      refine lv_iload_n hx hb dX11_feed_18 rfl (lv_at hl 2 rfl) ?_
      refine lv_iadd hx hb dX11_feed_19 ?_
      refine lv_topi (fun z42 e43 => ?_)
      obtain rfl : z42 = 3 := e43.trans (by first | decide | rfl)
      refine lv_sipush (v := 1600) hx hb dX11_feed_20 (by decide) ?_
      refine lv_icmp_le (tgt := 29) hx hb dX11_feed_23 (by decide) (fun _ => ?_) (fun c9 => absurd (by decide) c9)
      refine lv_iload_n hx hb dX11_feed_29 rfl (lv_at hl 2 rfl) ?_
      refine lv_iconst (v := 1) hx hb dX11_feed_30 (by decide) ?_
      refine lv_isub hx hb dX11_feed_31 ?_
      refine lv_topi (fun z44 e45 => ?_)
      obtain rfl : z44 = 2 := e45.trans (by first | decide | rfl)
      refine lv_istore (lv' := [(4, .int 2), (0, .ref hx0), (1, .long p0), (3, .int (nI 3))]) hx hb dX11_feed_32 hl (by decide) rfl (fun ls hl => ?_)
      refine lv_iload hx hb dX11_feed_34 (lv_at hl 0 rfl) ?_
      refine lv_if_lt (tgt := 73) hx hb dX11_feed_36 (by decide) (fun c9 => absurd c9 (by decide)) (fun _ => ?_)
      refine lv_aload_n hx hb dX11_feed_39 rfl (lv_at hl 1 rfl) ?_
      refine va_get (D := D) (ci := 11) (v := .ref (xa 0)) (C := RX11) (T := TX11) (N := 8) hx hb hT i_TX11 hown hK hP 0 rfl rfl 0 (by decide) (hT _ t_533) (fun _ h9 => h9) rfl dX11_feed_40 ?_
      refine lv_aload_n hx hb dX11_feed_43 rfl (lv_at hl 1 rfl) ?_
      refine va_get (D := D) (ci := 11) (v := .int 0) (C := RX11) (T := TX11) (N := 8) hx hb hT i_TX11 hown hK hP 0 rfl rfl 1 (by decide) (hT _ t_534) (fun _ h9 => h9) rfl dX11_feed_44 ?_
      refine lv_lload_n hx hb dX11_feed_47 rfl (lv_at hl 2 rfl) ?_
      refine lv_bipush (v := 8) hx hb dX11_feed_48 (by decide) ?_
      refine lv_iload hx hb dX11_feed_50 (lv_at hl 0 rfl) ?_
      refine lv_imul hx hb dX11_feed_52 ?_
      refine lv_topi (fun z46 e47 => ?_)
      obtain rfl : z46 = 16 := e47.trans (by first | decide | rfl)
      refine lv_lushr hx hb dX11_feed_53 rfl ?_
      refine lv_topl (fun z48 e49 => ?_)
      refine lv_l2i hx hb dX11_feed_54 rfl ?_
      refine lv_topi (fun z50 e51 => ?_)
      refine lv_i2b hx hb dX11_feed_55 rfl ?_
      refine lv_topi (fun z52 e53 => ?_)
      refine va_bast hx hb hK hP hD hS 1 0 rfl rfl (vp_in_iff.mpr (by decide)) dX11_feed_56 (fun H locs hP hD hS => ?_)
      have hP : va_P D vwCl [(hx0, .inr (11, [.ref (xa 0), .int 0, .int (-1), .ref (xa 1), .ref (xa 2), .ref (xa 3), .ref (xa 4), .ref (xa 5)])), ((xa 0), .inl (cy 0, 1600, .inl (upd (fun _ => 0) (0 : Int32).toNatClampNeg (vp_nar .byte z52))))] H := hP
      have hD : va_D A [(hx0, .inr (11, [.ref (xa 0), .int 0, .int (-1), .ref (xa 1), .ref (xa 2), .ref (xa 3), .ref (xa 4), .ref (xa 5)])), ((xa 0), .inl (cy 0, 1600, .inl (upd (fun _ => 0) (0 : Int32).toNatClampNeg (vp_nar .byte z52))))] := hD
      generalize hff54 : (upd (fun _ => 0) (0 : Int32).toNatClampNeg (vp_nar .byte z52)) = f54 at hP hD
      refine lv_aload_n hx hb dX11_feed_57 rfl (lv_at hl 1 rfl) ?_
      refine lv_dup hx hb dX11_feed_58 rfl ?_
      refine va_get (D := D) (ci := 11) (v := .int 0) (C := RX11) (T := TX11) (N := 8) hx hb hT i_TX11 hown hK hP 0 rfl rfl 1 (by decide) (hT _ t_534) (fun _ h9 => h9) rfl dX11_feed_59 ?_
      refine lv_iconst (v := 1) hx hb dX11_feed_62 (by decide) ?_
      refine lv_iadd hx hb dX11_feed_63 ?_
      refine lv_topi (fun z55 e56 => ?_)
      obtain rfl : z55 = 1 := e56.trans (by first | decide | rfl)
      refine va_put (D := D) (ci := 11) (v := .int 1) (ty := .int) (C := RX11) (T := TX11) (N := 8) hx hb hT i_TX11 tyX11 tyX11_ok nmX11 hown hK hP hD hS 0 rfl rfl 1 (by decide) (hT _ t_534) (fun _ h9 => h9) rfl (by decide +kernel) rfl rfl (Nat.le_of_ble_eq_true rfl) dX11_feed_64 (fun H locs hP hD hS => ?_)
      have hP : va_P D vwCl [(hx0, .inr (11, [.ref (xa 0), .int 1, .int (-1), .ref (xa 1), .ref (xa 2), .ref (xa 3), .ref (xa 4), .ref (xa 5)])), ((xa 0), .inl (cy 0, 1600, .inl f54))] H := hP
      have hD : va_D A [(hx0, .inr (11, [.ref (xa 0), .int 1, .int (-1), .ref (xa 1), .ref (xa 2), .ref (xa 3), .ref (xa 4), .ref (xa 5)])), ((xa 0), .inl (cy 0, 1600, .inl f54))] := hD
      refine lv_iinc (v := 1) (lv' := [(4, .int 1), (0, .ref hx0), (1, .long p0), (3, .int (nI 3))]) hx hb dX11_feed_67 hl (k := 0) rfl (by decide) (by decide) rfl (fun ls hl => ?_)
      refine lv_goto (tgt := 34) hx hb dX11_feed_70 (by decide) ?_
      refine lv_iload hx hb dX11_feed_34 (lv_at hl 0 rfl) ?_
      refine lv_if_lt (tgt := 73) hx hb dX11_feed_36 (by decide) (fun c9 => absurd c9 (by decide)) (fun _ => ?_)
      refine lv_aload_n hx hb dX11_feed_39 rfl (lv_at hl 1 rfl) ?_
      refine va_get (D := D) (ci := 11) (v := .ref (xa 0)) (C := RX11) (T := TX11) (N := 8) hx hb hT i_TX11 hown hK hP 0 rfl rfl 0 (by decide) (hT _ t_533) (fun _ h9 => h9) rfl dX11_feed_40 ?_
      refine lv_aload_n hx hb dX11_feed_43 rfl (lv_at hl 1 rfl) ?_
      refine va_get (D := D) (ci := 11) (v := .int 1) (C := RX11) (T := TX11) (N := 8) hx hb hT i_TX11 hown hK hP 0 rfl rfl 1 (by decide) (hT _ t_534) (fun _ h9 => h9) rfl dX11_feed_44 ?_
      refine lv_lload_n hx hb dX11_feed_47 rfl (lv_at hl 2 rfl) ?_
      refine lv_bipush (v := 8) hx hb dX11_feed_48 (by decide) ?_
      refine lv_iload hx hb dX11_feed_50 (lv_at hl 0 rfl) ?_
      refine lv_imul hx hb dX11_feed_52 ?_
      refine lv_topi (fun z57 e58 => ?_)
      obtain rfl : z57 = 8 := e58.trans (by first | decide | rfl)
      refine lv_lushr hx hb dX11_feed_53 rfl ?_
      refine lv_topl (fun z59 e60 => ?_)
      refine lv_l2i hx hb dX11_feed_54 rfl ?_
      refine lv_topi (fun z61 e62 => ?_)
      refine lv_i2b hx hb dX11_feed_55 rfl ?_
      refine lv_topi (fun z63 e64 => ?_)
      refine va_bast hx hb hK hP hD hS 1 0 rfl rfl (vp_in_iff.mpr (by decide)) dX11_feed_56 (fun H locs hP hD hS => ?_)
      have hP : va_P D vwCl [(hx0, .inr (11, [.ref (xa 0), .int 1, .int (-1), .ref (xa 1), .ref (xa 2), .ref (xa 3), .ref (xa 4), .ref (xa 5)])), ((xa 0), .inl (cy 0, 1600, .inl (upd f54 (1 : Int32).toNatClampNeg (vp_nar .byte z63))))] H := hP
      have hD : va_D A [(hx0, .inr (11, [.ref (xa 0), .int 1, .int (-1), .ref (xa 1), .ref (xa 2), .ref (xa 3), .ref (xa 4), .ref (xa 5)])), ((xa 0), .inl (cy 0, 1600, .inl (upd f54 (1 : Int32).toNatClampNeg (vp_nar .byte z63))))] := hD
      generalize hff65 : (upd f54 (1 : Int32).toNatClampNeg (vp_nar .byte z63)) = f65 at hP hD
      refine lv_aload_n hx hb dX11_feed_57 rfl (lv_at hl 1 rfl) ?_
      refine lv_dup hx hb dX11_feed_58 rfl ?_
      refine va_get (D := D) (ci := 11) (v := .int 1) (C := RX11) (T := TX11) (N := 8) hx hb hT i_TX11 hown hK hP 0 rfl rfl 1 (by decide) (hT _ t_534) (fun _ h9 => h9) rfl dX11_feed_59 ?_
      refine lv_iconst (v := 1) hx hb dX11_feed_62 (by decide) ?_
      refine lv_iadd hx hb dX11_feed_63 ?_
      refine lv_topi (fun z66 e67 => ?_)
      obtain rfl : z66 = 2 := e67.trans (by first | decide | rfl)
      refine va_put (D := D) (ci := 11) (v := .int 2) (ty := .int) (C := RX11) (T := TX11) (N := 8) hx hb hT i_TX11 tyX11 tyX11_ok nmX11 hown hK hP hD hS 0 rfl rfl 1 (by decide) (hT _ t_534) (fun _ h9 => h9) rfl (by decide +kernel) rfl rfl (Nat.le_of_ble_eq_true rfl) dX11_feed_64 (fun H locs hP hD hS => ?_)
      have hP : va_P D vwCl [(hx0, .inr (11, [.ref (xa 0), .int 2, .int (-1), .ref (xa 1), .ref (xa 2), .ref (xa 3), .ref (xa 4), .ref (xa 5)])), ((xa 0), .inl (cy 0, 1600, .inl f65))] H := hP
      have hD : va_D A [(hx0, .inr (11, [.ref (xa 0), .int 2, .int (-1), .ref (xa 1), .ref (xa 2), .ref (xa 3), .ref (xa 4), .ref (xa 5)])), ((xa 0), .inl (cy 0, 1600, .inl f65))] := hD
      refine lv_iinc (v := 0) (lv' := [(4, .int 0), (0, .ref hx0), (1, .long p0), (3, .int (nI 3))]) hx hb dX11_feed_67 hl (k := 0) rfl (by decide) (by decide) rfl (fun ls hl => ?_)
      refine lv_goto (tgt := 34) hx hb dX11_feed_70 (by decide) ?_
      refine lv_iload hx hb dX11_feed_34 (lv_at hl 0 rfl) ?_
      refine lv_if_lt (tgt := 73) hx hb dX11_feed_36 (by decide) (fun c9 => absurd c9 (by decide)) (fun _ => ?_)
      refine lv_aload_n hx hb dX11_feed_39 rfl (lv_at hl 1 rfl) ?_
      refine va_get (D := D) (ci := 11) (v := .ref (xa 0)) (C := RX11) (T := TX11) (N := 8) hx hb hT i_TX11 hown hK hP 0 rfl rfl 0 (by decide) (hT _ t_533) (fun _ h9 => h9) rfl dX11_feed_40 ?_
      refine lv_aload_n hx hb dX11_feed_43 rfl (lv_at hl 1 rfl) ?_
      refine va_get (D := D) (ci := 11) (v := .int 2) (C := RX11) (T := TX11) (N := 8) hx hb hT i_TX11 hown hK hP 0 rfl rfl 1 (by decide) (hT _ t_534) (fun _ h9 => h9) rfl dX11_feed_44 ?_
      refine lv_lload_n hx hb dX11_feed_47 rfl (lv_at hl 2 rfl) ?_
      refine lv_bipush (v := 8) hx hb dX11_feed_48 (by decide) ?_
      refine lv_iload hx hb dX11_feed_50 (lv_at hl 0 rfl) ?_
      refine lv_imul hx hb dX11_feed_52 ?_
      refine lv_topi (fun z68 e69 => ?_)
      obtain rfl : z68 = 0 := e69.trans (by first | decide | rfl)
      refine lv_lushr hx hb dX11_feed_53 rfl ?_
      refine lv_topl (fun z70 e71 => ?_)
      refine lv_l2i hx hb dX11_feed_54 rfl ?_
      refine lv_topi (fun z72 e73 => ?_)
      refine lv_i2b hx hb dX11_feed_55 rfl ?_
      refine lv_topi (fun z74 e75 => ?_)
      refine va_bast hx hb hK hP hD hS 1 0 rfl rfl (vp_in_iff.mpr (by decide)) dX11_feed_56 (fun H locs hP hD hS => ?_)
      have hP : va_P D vwCl [(hx0, .inr (11, [.ref (xa 0), .int 2, .int (-1), .ref (xa 1), .ref (xa 2), .ref (xa 3), .ref (xa 4), .ref (xa 5)])), ((xa 0), .inl (cy 0, 1600, .inl (upd f65 (2 : Int32).toNatClampNeg (vp_nar .byte z74))))] H := hP
      have hD : va_D A [(hx0, .inr (11, [.ref (xa 0), .int 2, .int (-1), .ref (xa 1), .ref (xa 2), .ref (xa 3), .ref (xa 4), .ref (xa 5)])), ((xa 0), .inl (cy 0, 1600, .inl (upd f65 (2 : Int32).toNatClampNeg (vp_nar .byte z74))))] := hD
      generalize hff76 : (upd f65 (2 : Int32).toNatClampNeg (vp_nar .byte z74)) = f76 at hP hD
      refine lv_aload_n hx hb dX11_feed_57 rfl (lv_at hl 1 rfl) ?_
      refine lv_dup hx hb dX11_feed_58 rfl ?_
      refine va_get (D := D) (ci := 11) (v := .int 2) (C := RX11) (T := TX11) (N := 8) hx hb hT i_TX11 hown hK hP 0 rfl rfl 1 (by decide) (hT _ t_534) (fun _ h9 => h9) rfl dX11_feed_59 ?_
      refine lv_iconst (v := 1) hx hb dX11_feed_62 (by decide) ?_
      refine lv_iadd hx hb dX11_feed_63 ?_
      refine lv_topi (fun z77 e78 => ?_)
      obtain rfl : z77 = 3 := e78.trans (by first | decide | rfl)
      refine va_put (D := D) (ci := 11) (v := .int 3) (ty := .int) (C := RX11) (T := TX11) (N := 8) hx hb hT i_TX11 tyX11 tyX11_ok nmX11 hown hK hP hD hS 0 rfl rfl 1 (by decide) (hT _ t_534) (fun _ h9 => h9) rfl (by decide +kernel) rfl rfl (Nat.le_of_ble_eq_true rfl) dX11_feed_64 (fun H locs hP hD hS => ?_)
      have hP : va_P D vwCl [(hx0, .inr (11, [.ref (xa 0), .int 3, .int (-1), .ref (xa 1), .ref (xa 2), .ref (xa 3), .ref (xa 4), .ref (xa 5)])), ((xa 0), .inl (cy 0, 1600, .inl f76))] H := hP
      have hD : va_D A [(hx0, .inr (11, [.ref (xa 0), .int 3, .int (-1), .ref (xa 1), .ref (xa 2), .ref (xa 3), .ref (xa 4), .ref (xa 5)])), ((xa 0), .inl (cy 0, 1600, .inl f76))] := hD
      refine lv_iinc (v := (-1)) (lv' := [(4, .int (-1)), (0, .ref hx0), (1, .long p0), (3, .int (nI 3))]) hx hb dX11_feed_67 hl (k := 0) rfl (by decide) (by decide) rfl (fun ls hl => ?_)
      refine lv_goto (tgt := 34) hx hb dX11_feed_70 (by decide) ?_
      refine lv_iload hx hb dX11_feed_34 (lv_at hl 0 rfl) ?_
      refine lv_if_lt (tgt := 73) hx hb dX11_feed_36 (by decide) (fun _ => ?_) (fun c9 => absurd (by decide) c9)
      refine lv_aload_n hx hb dX11_feed_73 rfl (lv_at hl 1 rfl) ?_
      refine va_get (D := D) (ci := 11) (v := .int 3) (C := RX11) (T := TX11) (N := 8) hx hb hT i_TX11 hown hK hP 0 rfl rfl 1 (by decide) (hT _ t_534) (fun _ h9 => h9) rfl dX11_feed_74 ?_
      have hP9 := hP.sub (ws' := []) [] rfl
      have hD9 := hD.sub (ws' := []) [] (by decide) rfl
      refine W.widen (k := 0) (n := 0) (Nat.le_of_ble_eq_true rfl) (Nat.le_of_ble_eq_true rfl) ?_
      exact W.iret (v := 3) hx hb hr (fun t ht hW => ⟨⟨3, (), rfl, (by decide), by rw [ht]; exact hP9, hD9⟩, hS.F ht⟩) hS.2.2 dX11_feed_77
    · refine lv_iload_n hx hb dX11_feed_0 rfl (lv_at hl 2 rfl) ?_
      refine lv_iconst (v := 1) hx hb dX11_feed_1 (by decide) ?_
      refine lv_icmp_lt (tgt := 11) hx hb dX11_feed_2 (by decide) (fun c9 => absurd c9 (by decide)) (fun _ => ?_)
      refine lv_iload_n hx hb dX11_feed_5 rfl (lv_at hl 2 rfl) ?_
      refine lv_bipush (v := 8) hx hb dX11_feed_6 (by decide) ?_
      refine lv_icmp_le (tgt := 14) hx hb dX11_feed_8 (by decide) (fun _ => ?_) (fun c9 => absurd (by decide) c9)
      refine lv_aload_n hx hb dX11_feed_14 rfl (lv_at hl 0 rfl) ?_
      refine va_get (D := D) (ci := 11) (v := .int 0) (C := RX11) (T := TX11) (N := 8) hx hb hT i_TX11 hown hK hP 0 rfl rfl 1 (by decide) (hT _ t_534) (fun _ h9 => h9) rfl dX11_feed_15 ?_
      refine lv_iload_n hx hb dX11_feed_18 rfl (lv_at hl 2 rfl) ?_
      refine lv_iadd hx hb dX11_feed_19 ?_
      refine lv_topi (fun z79 e80 => ?_)
      obtain rfl : z79 = 4 := e80.trans (by first | decide | rfl)
      refine lv_sipush (v := 1600) hx hb dX11_feed_20 (by decide) ?_
      refine lv_icmp_le (tgt := 29) hx hb dX11_feed_23 (by decide) (fun _ => ?_) (fun c9 => absurd (by decide) c9)
      refine lv_iload_n hx hb dX11_feed_29 rfl (lv_at hl 2 rfl) ?_
      refine lv_iconst (v := 1) hx hb dX11_feed_30 (by decide) ?_
      refine lv_isub hx hb dX11_feed_31 ?_
      refine lv_topi (fun z81 e82 => ?_)
      obtain rfl : z81 = 3 := e82.trans (by first | decide | rfl)
      refine lv_istore (lv' := [(4, .int 3), (0, .ref hx0), (1, .long p0), (3, .int (nI 4))]) hx hb dX11_feed_32 hl (by decide) rfl (fun ls hl => ?_)
      refine lv_iload hx hb dX11_feed_34 (lv_at hl 0 rfl) ?_
      refine lv_if_lt (tgt := 73) hx hb dX11_feed_36 (by decide) (fun c9 => absurd c9 (by decide)) (fun _ => ?_)
      refine lv_aload_n hx hb dX11_feed_39 rfl (lv_at hl 1 rfl) ?_
      refine va_get (D := D) (ci := 11) (v := .ref (xa 0)) (C := RX11) (T := TX11) (N := 8) hx hb hT i_TX11 hown hK hP 0 rfl rfl 0 (by decide) (hT _ t_533) (fun _ h9 => h9) rfl dX11_feed_40 ?_
      refine lv_aload_n hx hb dX11_feed_43 rfl (lv_at hl 1 rfl) ?_
      refine va_get (D := D) (ci := 11) (v := .int 0) (C := RX11) (T := TX11) (N := 8) hx hb hT i_TX11 hown hK hP 0 rfl rfl 1 (by decide) (hT _ t_534) (fun _ h9 => h9) rfl dX11_feed_44 ?_
      refine lv_lload_n hx hb dX11_feed_47 rfl (lv_at hl 2 rfl) ?_
      refine lv_bipush (v := 8) hx hb dX11_feed_48 (by decide) ?_
      refine lv_iload hx hb dX11_feed_50 (lv_at hl 0 rfl) ?_
      refine lv_imul hx hb dX11_feed_52 ?_
      refine lv_topi (fun z83 e84 => ?_)
      obtain rfl : z83 = 24 := e84.trans (by first | decide | rfl)
      refine lv_lushr hx hb dX11_feed_53 rfl ?_
      refine lv_topl (fun z85 e86 => ?_)
      refine lv_l2i hx hb dX11_feed_54 rfl ?_
      refine lv_topi (fun z87 e88 => ?_)
      refine lv_i2b hx hb dX11_feed_55 rfl ?_
      refine lv_topi (fun z89 e90 => ?_)
      refine va_bast hx hb hK hP hD hS 1 0 rfl rfl (vp_in_iff.mpr (by decide)) dX11_feed_56 (fun H locs hP hD hS => ?_)
      have hP : va_P D vwCl [(hx0, .inr (11, [.ref (xa 0), .int 0, .int (-1), .ref (xa 1), .ref (xa 2), .ref (xa 3), .ref (xa 4), .ref (xa 5)])), ((xa 0), .inl (cy 0, 1600, .inl (upd (fun _ => 0) (0 : Int32).toNatClampNeg (vp_nar .byte z89))))] H := hP
      have hD : va_D A [(hx0, .inr (11, [.ref (xa 0), .int 0, .int (-1), .ref (xa 1), .ref (xa 2), .ref (xa 3), .ref (xa 4), .ref (xa 5)])), ((xa 0), .inl (cy 0, 1600, .inl (upd (fun _ => 0) (0 : Int32).toNatClampNeg (vp_nar .byte z89))))] := hD
      generalize hff91 : (upd (fun _ => 0) (0 : Int32).toNatClampNeg (vp_nar .byte z89)) = f91 at hP hD
      refine lv_aload_n hx hb dX11_feed_57 rfl (lv_at hl 1 rfl) ?_
      refine lv_dup hx hb dX11_feed_58 rfl ?_
      refine va_get (D := D) (ci := 11) (v := .int 0) (C := RX11) (T := TX11) (N := 8) hx hb hT i_TX11 hown hK hP 0 rfl rfl 1 (by decide) (hT _ t_534) (fun _ h9 => h9) rfl dX11_feed_59 ?_
      refine lv_iconst (v := 1) hx hb dX11_feed_62 (by decide) ?_
      refine lv_iadd hx hb dX11_feed_63 ?_
      refine lv_topi (fun z92 e93 => ?_)
      obtain rfl : z92 = 1 := e93.trans (by first | decide | rfl)
      refine va_put (D := D) (ci := 11) (v := .int 1) (ty := .int) (C := RX11) (T := TX11) (N := 8) hx hb hT i_TX11 tyX11 tyX11_ok nmX11 hown hK hP hD hS 0 rfl rfl 1 (by decide) (hT _ t_534) (fun _ h9 => h9) rfl (by decide +kernel) rfl rfl (Nat.le_of_ble_eq_true rfl) dX11_feed_64 (fun H locs hP hD hS => ?_)
      have hP : va_P D vwCl [(hx0, .inr (11, [.ref (xa 0), .int 1, .int (-1), .ref (xa 1), .ref (xa 2), .ref (xa 3), .ref (xa 4), .ref (xa 5)])), ((xa 0), .inl (cy 0, 1600, .inl f91))] H := hP
      have hD : va_D A [(hx0, .inr (11, [.ref (xa 0), .int 1, .int (-1), .ref (xa 1), .ref (xa 2), .ref (xa 3), .ref (xa 4), .ref (xa 5)])), ((xa 0), .inl (cy 0, 1600, .inl f91))] := hD
      refine lv_iinc (v := 2) (lv' := [(4, .int 2), (0, .ref hx0), (1, .long p0), (3, .int (nI 4))]) hx hb dX11_feed_67 hl (k := 0) rfl (by decide) (by decide) rfl (fun ls hl => ?_)
      refine lv_goto (tgt := 34) hx hb dX11_feed_70 (by decide) ?_
      refine lv_iload hx hb dX11_feed_34 (lv_at hl 0 rfl) ?_
      refine lv_if_lt (tgt := 73) hx hb dX11_feed_36 (by decide) (fun c9 => absurd c9 (by decide)) (fun _ => ?_)
      refine lv_aload_n hx hb dX11_feed_39 rfl (lv_at hl 1 rfl) ?_
      refine va_get (D := D) (ci := 11) (v := .ref (xa 0)) (C := RX11) (T := TX11) (N := 8) hx hb hT i_TX11 hown hK hP 0 rfl rfl 0 (by decide) (hT _ t_533) (fun _ h9 => h9) rfl dX11_feed_40 ?_
      refine lv_aload_n hx hb dX11_feed_43 rfl (lv_at hl 1 rfl) ?_
      refine va_get (D := D) (ci := 11) (v := .int 1) (C := RX11) (T := TX11) (N := 8) hx hb hT i_TX11 hown hK hP 0 rfl rfl 1 (by decide) (hT _ t_534) (fun _ h9 => h9) rfl dX11_feed_44 ?_
      refine lv_lload_n hx hb dX11_feed_47 rfl (lv_at hl 2 rfl) ?_
      refine lv_bipush (v := 8) hx hb dX11_feed_48 (by decide) ?_
      refine lv_iload hx hb dX11_feed_50 (lv_at hl 0 rfl) ?_
      refine lv_imul hx hb dX11_feed_52 ?_
      refine lv_topi (fun z94 e95 => ?_)
      obtain rfl : z94 = 16 := e95.trans (by first | decide | rfl)
      refine lv_lushr hx hb dX11_feed_53 rfl ?_
      refine lv_topl (fun z96 e97 => ?_)
      refine lv_l2i hx hb dX11_feed_54 rfl ?_
      refine lv_topi (fun z98 e99 => ?_)
      refine lv_i2b hx hb dX11_feed_55 rfl ?_
      refine lv_topi (fun z100 e101 => ?_)
      refine va_bast hx hb hK hP hD hS 1 0 rfl rfl (vp_in_iff.mpr (by decide)) dX11_feed_56 (fun H locs hP hD hS => ?_)
      have hP : va_P D vwCl [(hx0, .inr (11, [.ref (xa 0), .int 1, .int (-1), .ref (xa 1), .ref (xa 2), .ref (xa 3), .ref (xa 4), .ref (xa 5)])), ((xa 0), .inl (cy 0, 1600, .inl (upd f91 (1 : Int32).toNatClampNeg (vp_nar .byte z100))))] H := hP
      have hD : va_D A [(hx0, .inr (11, [.ref (xa 0), .int 1, .int (-1), .ref (xa 1), .ref (xa 2), .ref (xa 3), .ref (xa 4), .ref (xa 5)])), ((xa 0), .inl (cy 0, 1600, .inl (upd f91 (1 : Int32).toNatClampNeg (vp_nar .byte z100))))] := hD
      generalize hff102 : (upd f91 (1 : Int32).toNatClampNeg (vp_nar .byte z100)) = f102 at hP hD
      refine lv_aload_n hx hb dX11_feed_57 rfl (lv_at hl 1 rfl) ?_
      refine lv_dup hx hb dX11_feed_58 rfl ?_
      refine va_get (D := D) (ci := 11) (v := .int 1) (C := RX11) (T := TX11) (N := 8) hx hb hT i_TX11 hown hK hP 0 rfl rfl 1 (by decide) (hT _ t_534) (fun _ h9 => h9) rfl dX11_feed_59 ?_
      refine lv_iconst (v := 1) hx hb dX11_feed_62 (by decide) ?_
      refine lv_iadd hx hb dX11_feed_63 ?_
      refine lv_topi (fun z103 e104 => ?_)
      obtain rfl : z103 = 2 := e104.trans (by first | decide | rfl)
      refine va_put (D := D) (ci := 11) (v := .int 2) (ty := .int) (C := RX11) (T := TX11) (N := 8) hx hb hT i_TX11 tyX11 tyX11_ok nmX11 hown hK hP hD hS 0 rfl rfl 1 (by decide) (hT _ t_534) (fun _ h9 => h9) rfl (by decide +kernel) rfl rfl (Nat.le_of_ble_eq_true rfl) dX11_feed_64 (fun H locs hP hD hS => ?_)
      have hP : va_P D vwCl [(hx0, .inr (11, [.ref (xa 0), .int 2, .int (-1), .ref (xa 1), .ref (xa 2), .ref (xa 3), .ref (xa 4), .ref (xa 5)])), ((xa 0), .inl (cy 0, 1600, .inl f102))] H := hP
      have hD : va_D A [(hx0, .inr (11, [.ref (xa 0), .int 2, .int (-1), .ref (xa 1), .ref (xa 2), .ref (xa 3), .ref (xa 4), .ref (xa 5)])), ((xa 0), .inl (cy 0, 1600, .inl f102))] := hD
      refine lv_iinc (v := 1) (lv' := [(4, .int 1), (0, .ref hx0), (1, .long p0), (3, .int (nI 4))]) hx hb dX11_feed_67 hl (k := 0) rfl (by decide) (by decide) rfl (fun ls hl => ?_)
      refine lv_goto (tgt := 34) hx hb dX11_feed_70 (by decide) ?_
      refine lv_iload hx hb dX11_feed_34 (lv_at hl 0 rfl) ?_
      refine lv_if_lt (tgt := 73) hx hb dX11_feed_36 (by decide) (fun c9 => absurd c9 (by decide)) (fun _ => ?_)
      refine lv_aload_n hx hb dX11_feed_39 rfl (lv_at hl 1 rfl) ?_
      refine va_get (D := D) (ci := 11) (v := .ref (xa 0)) (C := RX11) (T := TX11) (N := 8) hx hb hT i_TX11 hown hK hP 0 rfl rfl 0 (by decide) (hT _ t_533) (fun _ h9 => h9) rfl dX11_feed_40 ?_
      refine lv_aload_n hx hb dX11_feed_43 rfl (lv_at hl 1 rfl) ?_
      refine va_get (D := D) (ci := 11) (v := .int 2) (C := RX11) (T := TX11) (N := 8) hx hb hT i_TX11 hown hK hP 0 rfl rfl 1 (by decide) (hT _ t_534) (fun _ h9 => h9) rfl dX11_feed_44 ?_
      refine lv_lload_n hx hb dX11_feed_47 rfl (lv_at hl 2 rfl) ?_
      refine lv_bipush (v := 8) hx hb dX11_feed_48 (by decide) ?_
      refine lv_iload hx hb dX11_feed_50 (lv_at hl 0 rfl) ?_
      refine lv_imul hx hb dX11_feed_52 ?_
      refine lv_topi (fun z105 e106 => ?_)
      obtain rfl : z105 = 8 := e106.trans (by first | decide | rfl)
      refine lv_lushr hx hb dX11_feed_53 rfl ?_
      refine lv_topl (fun z107 e108 => ?_)
      refine lv_l2i hx hb dX11_feed_54 rfl ?_
      refine lv_topi (fun z109 e110 => ?_)
      refine lv_i2b hx hb dX11_feed_55 rfl ?_
      refine lv_topi (fun z111 e112 => ?_)
      refine va_bast hx hb hK hP hD hS 1 0 rfl rfl (vp_in_iff.mpr (by decide)) dX11_feed_56 (fun H locs hP hD hS => ?_)
      have hP : va_P D vwCl [(hx0, .inr (11, [.ref (xa 0), .int 2, .int (-1), .ref (xa 1), .ref (xa 2), .ref (xa 3), .ref (xa 4), .ref (xa 5)])), ((xa 0), .inl (cy 0, 1600, .inl (upd f102 (2 : Int32).toNatClampNeg (vp_nar .byte z111))))] H := hP
      have hD : va_D A [(hx0, .inr (11, [.ref (xa 0), .int 2, .int (-1), .ref (xa 1), .ref (xa 2), .ref (xa 3), .ref (xa 4), .ref (xa 5)])), ((xa 0), .inl (cy 0, 1600, .inl (upd f102 (2 : Int32).toNatClampNeg (vp_nar .byte z111))))] := hD
      generalize hff113 : (upd f102 (2 : Int32).toNatClampNeg (vp_nar .byte z111)) = f113 at hP hD
      refine lv_aload_n hx hb dX11_feed_57 rfl (lv_at hl 1 rfl) ?_
      refine lv_dup hx hb dX11_feed_58 rfl ?_
      refine va_get (D := D) (ci := 11) (v := .int 2) (C := RX11) (T := TX11) (N := 8) hx hb hT i_TX11 hown hK hP 0 rfl rfl 1 (by decide) (hT _ t_534) (fun _ h9 => h9) rfl dX11_feed_59 ?_
      refine lv_iconst (v := 1) hx hb dX11_feed_62 (by decide) ?_
      refine lv_iadd hx hb dX11_feed_63 ?_
      refine lv_topi (fun z114 e115 => ?_)
      obtain rfl : z114 = 3 := e115.trans (by first | decide | rfl)
      refine va_put (D := D) (ci := 11) (v := .int 3) (ty := .int) (C := RX11) (T := TX11) (N := 8) hx hb hT i_TX11 tyX11 tyX11_ok nmX11 hown hK hP hD hS 0 rfl rfl 1 (by decide) (hT _ t_534) (fun _ h9 => h9) rfl (by decide +kernel) rfl rfl (Nat.le_of_ble_eq_true rfl) dX11_feed_64 (fun H locs hP hD hS => ?_)
      have hP : va_P D vwCl [(hx0, .inr (11, [.ref (xa 0), .int 3, .int (-1), .ref (xa 1), .ref (xa 2), .ref (xa 3), .ref (xa 4), .ref (xa 5)])), ((xa 0), .inl (cy 0, 1600, .inl f113))] H := hP
      have hD : va_D A [(hx0, .inr (11, [.ref (xa 0), .int 3, .int (-1), .ref (xa 1), .ref (xa 2), .ref (xa 3), .ref (xa 4), .ref (xa 5)])), ((xa 0), .inl (cy 0, 1600, .inl f113))] := hD
      refine lv_iinc (v := 0) (lv' := [(4, .int 0), (0, .ref hx0), (1, .long p0), (3, .int (nI 4))]) hx hb dX11_feed_67 hl (k := 0) rfl (by decide) (by decide) rfl (fun ls hl => ?_)
      refine lv_goto (tgt := 34) hx hb dX11_feed_70 (by decide) ?_
      refine lv_iload hx hb dX11_feed_34 (lv_at hl 0 rfl) ?_
      refine lv_if_lt (tgt := 73) hx hb dX11_feed_36 (by decide) (fun c9 => absurd c9 (by decide)) (fun _ => ?_)
      refine lv_aload_n hx hb dX11_feed_39 rfl (lv_at hl 1 rfl) ?_
      refine va_get (D := D) (ci := 11) (v := .ref (xa 0)) (C := RX11) (T := TX11) (N := 8) hx hb hT i_TX11 hown hK hP 0 rfl rfl 0 (by decide) (hT _ t_533) (fun _ h9 => h9) rfl dX11_feed_40 ?_
      refine lv_aload_n hx hb dX11_feed_43 rfl (lv_at hl 1 rfl) ?_
      refine va_get (D := D) (ci := 11) (v := .int 3) (C := RX11) (T := TX11) (N := 8) hx hb hT i_TX11 hown hK hP 0 rfl rfl 1 (by decide) (hT _ t_534) (fun _ h9 => h9) rfl dX11_feed_44 ?_
      refine lv_lload_n hx hb dX11_feed_47 rfl (lv_at hl 2 rfl) ?_
      refine lv_bipush (v := 8) hx hb dX11_feed_48 (by decide) ?_
      refine lv_iload hx hb dX11_feed_50 (lv_at hl 0 rfl) ?_
      refine lv_imul hx hb dX11_feed_52 ?_
      refine lv_topi (fun z116 e117 => ?_)
      obtain rfl : z116 = 0 := e117.trans (by first | decide | rfl)
      refine lv_lushr hx hb dX11_feed_53 rfl ?_
      refine lv_topl (fun z118 e119 => ?_)
      refine lv_l2i hx hb dX11_feed_54 rfl ?_
      refine lv_topi (fun z120 e121 => ?_)
      refine lv_i2b hx hb dX11_feed_55 rfl ?_
      refine lv_topi (fun z122 e123 => ?_)
      refine va_bast hx hb hK hP hD hS 1 0 rfl rfl (vp_in_iff.mpr (by decide)) dX11_feed_56 (fun H locs hP hD hS => ?_)
      have hP : va_P D vwCl [(hx0, .inr (11, [.ref (xa 0), .int 3, .int (-1), .ref (xa 1), .ref (xa 2), .ref (xa 3), .ref (xa 4), .ref (xa 5)])), ((xa 0), .inl (cy 0, 1600, .inl (upd f113 (3 : Int32).toNatClampNeg (vp_nar .byte z122))))] H := hP
      have hD : va_D A [(hx0, .inr (11, [.ref (xa 0), .int 3, .int (-1), .ref (xa 1), .ref (xa 2), .ref (xa 3), .ref (xa 4), .ref (xa 5)])), ((xa 0), .inl (cy 0, 1600, .inl (upd f113 (3 : Int32).toNatClampNeg (vp_nar .byte z122))))] := hD
      generalize hff124 : (upd f113 (3 : Int32).toNatClampNeg (vp_nar .byte z122)) = f124 at hP hD
      refine lv_aload_n hx hb dX11_feed_57 rfl (lv_at hl 1 rfl) ?_
      refine lv_dup hx hb dX11_feed_58 rfl ?_
      refine va_get (D := D) (ci := 11) (v := .int 3) (C := RX11) (T := TX11) (N := 8) hx hb hT i_TX11 hown hK hP 0 rfl rfl 1 (by decide) (hT _ t_534) (fun _ h9 => h9) rfl dX11_feed_59 ?_
      refine lv_iconst (v := 1) hx hb dX11_feed_62 (by decide) ?_
      refine lv_iadd hx hb dX11_feed_63 ?_
      refine lv_topi (fun z125 e126 => ?_)
      obtain rfl : z125 = 4 := e126.trans (by first | decide | rfl)
      refine va_put (D := D) (ci := 11) (v := .int 4) (ty := .int) (C := RX11) (T := TX11) (N := 8) hx hb hT i_TX11 tyX11 tyX11_ok nmX11 hown hK hP hD hS 0 rfl rfl 1 (by decide) (hT _ t_534) (fun _ h9 => h9) rfl (by decide +kernel) rfl rfl (Nat.le_of_ble_eq_true rfl) dX11_feed_64 (fun H locs hP hD hS => ?_)
      have hP : va_P D vwCl [(hx0, .inr (11, [.ref (xa 0), .int 4, .int (-1), .ref (xa 1), .ref (xa 2), .ref (xa 3), .ref (xa 4), .ref (xa 5)])), ((xa 0), .inl (cy 0, 1600, .inl f124))] H := hP
      have hD : va_D A [(hx0, .inr (11, [.ref (xa 0), .int 4, .int (-1), .ref (xa 1), .ref (xa 2), .ref (xa 3), .ref (xa 4), .ref (xa 5)])), ((xa 0), .inl (cy 0, 1600, .inl f124))] := hD
      refine lv_iinc (v := (-1)) (lv' := [(4, .int (-1)), (0, .ref hx0), (1, .long p0), (3, .int (nI 4))]) hx hb dX11_feed_67 hl (k := 0) rfl (by decide) (by decide) rfl (fun ls hl => ?_)
      refine lv_goto (tgt := 34) hx hb dX11_feed_70 (by decide) ?_
      refine lv_iload hx hb dX11_feed_34 (lv_at hl 0 rfl) ?_
      refine lv_if_lt (tgt := 73) hx hb dX11_feed_36 (by decide) (fun _ => ?_) (fun c9 => absurd (by decide) c9)
      refine lv_aload_n hx hb dX11_feed_73 rfl (lv_at hl 1 rfl) ?_
      refine va_get (D := D) (ci := 11) (v := .int 4) (C := RX11) (T := TX11) (N := 8) hx hb hT i_TX11 hown hK hP 0 rfl rfl 1 (by decide) (hT _ t_534) (fun _ h9 => h9) rfl dX11_feed_74 ?_
      have hP9 := hP.sub (ws' := []) [] rfl
      have hD9 := hD.sub (ws' := []) [] (by decide) rfl
      refine W.widen (k := 0) (n := 0) (Nat.le_of_ble_eq_true rfl) (Nat.le_of_ble_eq_true rfl) ?_
      exact W.iret (v := 4) hx hb hr (fun t ht hW => ⟨⟨4, (), rfl, (by decide), by rw [ht]; exact hP9, hD9⟩, hS.F ht⟩) hS.2.2 dX11_feed_77
    · refine lv_iload_n hx hb dX11_feed_0 rfl (lv_at hl 2 rfl) ?_
      refine lv_iconst (v := 1) hx hb dX11_feed_1 (by decide) ?_
      refine lv_icmp_lt (tgt := 11) hx hb dX11_feed_2 (by decide) (fun c9 => absurd c9 (by decide)) (fun _ => ?_)
      refine lv_iload_n hx hb dX11_feed_5 rfl (lv_at hl 2 rfl) ?_
      refine lv_bipush (v := 8) hx hb dX11_feed_6 (by decide) ?_
      refine lv_icmp_le (tgt := 14) hx hb dX11_feed_8 (by decide) (fun _ => ?_) (fun c9 => absurd (by decide) c9)
      refine lv_aload_n hx hb dX11_feed_14 rfl (lv_at hl 0 rfl) ?_
      refine va_get (D := D) (ci := 11) (v := .int 0) (C := RX11) (T := TX11) (N := 8) hx hb hT i_TX11 hown hK hP 0 rfl rfl 1 (by decide) (hT _ t_534) (fun _ h9 => h9) rfl dX11_feed_15 ?_
      refine lv_iload_n hx hb dX11_feed_18 rfl (lv_at hl 2 rfl) ?_
      refine lv_iadd hx hb dX11_feed_19 ?_
      refine lv_topi (fun z127 e128 => ?_)
      obtain rfl : z127 = 5 := e128.trans (by first | decide | rfl)
      refine lv_sipush (v := 1600) hx hb dX11_feed_20 (by decide) ?_
      refine lv_icmp_le (tgt := 29) hx hb dX11_feed_23 (by decide) (fun _ => ?_) (fun c9 => absurd (by decide) c9)
      refine lv_iload_n hx hb dX11_feed_29 rfl (lv_at hl 2 rfl) ?_
      refine lv_iconst (v := 1) hx hb dX11_feed_30 (by decide) ?_
      refine lv_isub hx hb dX11_feed_31 ?_
      refine lv_topi (fun z129 e130 => ?_)
      obtain rfl : z129 = 4 := e130.trans (by first | decide | rfl)
      refine lv_istore (lv' := [(4, .int 4), (0, .ref hx0), (1, .long p0), (3, .int (nI 5))]) hx hb dX11_feed_32 hl (by decide) rfl (fun ls hl => ?_)
      refine lv_iload hx hb dX11_feed_34 (lv_at hl 0 rfl) ?_
      refine lv_if_lt (tgt := 73) hx hb dX11_feed_36 (by decide) (fun c9 => absurd c9 (by decide)) (fun _ => ?_)
      refine lv_aload_n hx hb dX11_feed_39 rfl (lv_at hl 1 rfl) ?_
      refine va_get (D := D) (ci := 11) (v := .ref (xa 0)) (C := RX11) (T := TX11) (N := 8) hx hb hT i_TX11 hown hK hP 0 rfl rfl 0 (by decide) (hT _ t_533) (fun _ h9 => h9) rfl dX11_feed_40 ?_
      refine lv_aload_n hx hb dX11_feed_43 rfl (lv_at hl 1 rfl) ?_
      refine va_get (D := D) (ci := 11) (v := .int 0) (C := RX11) (T := TX11) (N := 8) hx hb hT i_TX11 hown hK hP 0 rfl rfl 1 (by decide) (hT _ t_534) (fun _ h9 => h9) rfl dX11_feed_44 ?_
      refine lv_lload_n hx hb dX11_feed_47 rfl (lv_at hl 2 rfl) ?_
      refine lv_bipush (v := 8) hx hb dX11_feed_48 (by decide) ?_
      refine lv_iload hx hb dX11_feed_50 (lv_at hl 0 rfl) ?_
      refine lv_imul hx hb dX11_feed_52 ?_
      refine lv_topi (fun z131 e132 => ?_)
      obtain rfl : z131 = 32 := e132.trans (by first | decide | rfl)
      refine lv_lushr hx hb dX11_feed_53 rfl ?_
      refine lv_topl (fun z133 e134 => ?_)
      refine lv_l2i hx hb dX11_feed_54 rfl ?_
      refine lv_topi (fun z135 e136 => ?_)
      refine lv_i2b hx hb dX11_feed_55 rfl ?_
      refine lv_topi (fun z137 e138 => ?_)
      refine va_bast hx hb hK hP hD hS 1 0 rfl rfl (vp_in_iff.mpr (by decide)) dX11_feed_56 (fun H locs hP hD hS => ?_)
      have hP : va_P D vwCl [(hx0, .inr (11, [.ref (xa 0), .int 0, .int (-1), .ref (xa 1), .ref (xa 2), .ref (xa 3), .ref (xa 4), .ref (xa 5)])), ((xa 0), .inl (cy 0, 1600, .inl (upd (fun _ => 0) (0 : Int32).toNatClampNeg (vp_nar .byte z137))))] H := hP
      have hD : va_D A [(hx0, .inr (11, [.ref (xa 0), .int 0, .int (-1), .ref (xa 1), .ref (xa 2), .ref (xa 3), .ref (xa 4), .ref (xa 5)])), ((xa 0), .inl (cy 0, 1600, .inl (upd (fun _ => 0) (0 : Int32).toNatClampNeg (vp_nar .byte z137))))] := hD
      generalize hff139 : (upd (fun _ => 0) (0 : Int32).toNatClampNeg (vp_nar .byte z137)) = f139 at hP hD
      refine lv_aload_n hx hb dX11_feed_57 rfl (lv_at hl 1 rfl) ?_
      refine lv_dup hx hb dX11_feed_58 rfl ?_
      refine va_get (D := D) (ci := 11) (v := .int 0) (C := RX11) (T := TX11) (N := 8) hx hb hT i_TX11 hown hK hP 0 rfl rfl 1 (by decide) (hT _ t_534) (fun _ h9 => h9) rfl dX11_feed_59 ?_
      refine lv_iconst (v := 1) hx hb dX11_feed_62 (by decide) ?_
      refine lv_iadd hx hb dX11_feed_63 ?_
      refine lv_topi (fun z140 e141 => ?_)
      obtain rfl : z140 = 1 := e141.trans (by first | decide | rfl)
      refine va_put (D := D) (ci := 11) (v := .int 1) (ty := .int) (C := RX11) (T := TX11) (N := 8) hx hb hT i_TX11 tyX11 tyX11_ok nmX11 hown hK hP hD hS 0 rfl rfl 1 (by decide) (hT _ t_534) (fun _ h9 => h9) rfl (by decide +kernel) rfl rfl (Nat.le_of_ble_eq_true rfl) dX11_feed_64 (fun H locs hP hD hS => ?_)
      have hP : va_P D vwCl [(hx0, .inr (11, [.ref (xa 0), .int 1, .int (-1), .ref (xa 1), .ref (xa 2), .ref (xa 3), .ref (xa 4), .ref (xa 5)])), ((xa 0), .inl (cy 0, 1600, .inl f139))] H := hP
      have hD : va_D A [(hx0, .inr (11, [.ref (xa 0), .int 1, .int (-1), .ref (xa 1), .ref (xa 2), .ref (xa 3), .ref (xa 4), .ref (xa 5)])), ((xa 0), .inl (cy 0, 1600, .inl f139))] := hD
      refine lv_iinc (v := 3) (lv' := [(4, .int 3), (0, .ref hx0), (1, .long p0), (3, .int (nI 5))]) hx hb dX11_feed_67 hl (k := 0) rfl (by decide) (by decide) rfl (fun ls hl => ?_)
      refine lv_goto (tgt := 34) hx hb dX11_feed_70 (by decide) ?_
      refine lv_iload hx hb dX11_feed_34 (lv_at hl 0 rfl) ?_
      refine lv_if_lt (tgt := 73) hx hb dX11_feed_36 (by decide) (fun c9 => absurd c9 (by decide)) (fun _ => ?_)
      refine lv_aload_n hx hb dX11_feed_39 rfl (lv_at hl 1 rfl) ?_
      refine va_get (D := D) (ci := 11) (v := .ref (xa 0)) (C := RX11) (T := TX11) (N := 8) hx hb hT i_TX11 hown hK hP 0 rfl rfl 0 (by decide) (hT _ t_533) (fun _ h9 => h9) rfl dX11_feed_40 ?_
      refine lv_aload_n hx hb dX11_feed_43 rfl (lv_at hl 1 rfl) ?_
      refine va_get (D := D) (ci := 11) (v := .int 1) (C := RX11) (T := TX11) (N := 8) hx hb hT i_TX11 hown hK hP 0 rfl rfl 1 (by decide) (hT _ t_534) (fun _ h9 => h9) rfl dX11_feed_44 ?_
      refine lv_lload_n hx hb dX11_feed_47 rfl (lv_at hl 2 rfl) ?_
      refine lv_bipush (v := 8) hx hb dX11_feed_48 (by decide) ?_
      refine lv_iload hx hb dX11_feed_50 (lv_at hl 0 rfl) ?_
      refine lv_imul hx hb dX11_feed_52 ?_
      refine lv_topi (fun z142 e143 => ?_)
      obtain rfl : z142 = 24 := e143.trans (by first | decide | rfl)
      refine lv_lushr hx hb dX11_feed_53 rfl ?_
      refine lv_topl (fun z144 e145 => ?_)
      refine lv_l2i hx hb dX11_feed_54 rfl ?_
      refine lv_topi (fun z146 e147 => ?_)
      refine lv_i2b hx hb dX11_feed_55 rfl ?_
      refine lv_topi (fun z148 e149 => ?_)
      refine va_bast hx hb hK hP hD hS 1 0 rfl rfl (vp_in_iff.mpr (by decide)) dX11_feed_56 (fun H locs hP hD hS => ?_)
      have hP : va_P D vwCl [(hx0, .inr (11, [.ref (xa 0), .int 1, .int (-1), .ref (xa 1), .ref (xa 2), .ref (xa 3), .ref (xa 4), .ref (xa 5)])), ((xa 0), .inl (cy 0, 1600, .inl (upd f139 (1 : Int32).toNatClampNeg (vp_nar .byte z148))))] H := hP
      have hD : va_D A [(hx0, .inr (11, [.ref (xa 0), .int 1, .int (-1), .ref (xa 1), .ref (xa 2), .ref (xa 3), .ref (xa 4), .ref (xa 5)])), ((xa 0), .inl (cy 0, 1600, .inl (upd f139 (1 : Int32).toNatClampNeg (vp_nar .byte z148))))] := hD
      generalize hff150 : (upd f139 (1 : Int32).toNatClampNeg (vp_nar .byte z148)) = f150 at hP hD
      refine lv_aload_n hx hb dX11_feed_57 rfl (lv_at hl 1 rfl) ?_
      refine lv_dup hx hb dX11_feed_58 rfl ?_
      refine va_get (D := D) (ci := 11) (v := .int 1) (C := RX11) (T := TX11) (N := 8) hx hb hT i_TX11 hown hK hP 0 rfl rfl 1 (by decide) (hT _ t_534) (fun _ h9 => h9) rfl dX11_feed_59 ?_
      refine lv_iconst (v := 1) hx hb dX11_feed_62 (by decide) ?_
      refine lv_iadd hx hb dX11_feed_63 ?_
      refine lv_topi (fun z151 e152 => ?_)
      obtain rfl : z151 = 2 := e152.trans (by first | decide | rfl)
      refine va_put (D := D) (ci := 11) (v := .int 2) (ty := .int) (C := RX11) (T := TX11) (N := 8) hx hb hT i_TX11 tyX11 tyX11_ok nmX11 hown hK hP hD hS 0 rfl rfl 1 (by decide) (hT _ t_534) (fun _ h9 => h9) rfl (by decide +kernel) rfl rfl (Nat.le_of_ble_eq_true rfl) dX11_feed_64 (fun H locs hP hD hS => ?_)
      have hP : va_P D vwCl [(hx0, .inr (11, [.ref (xa 0), .int 2, .int (-1), .ref (xa 1), .ref (xa 2), .ref (xa 3), .ref (xa 4), .ref (xa 5)])), ((xa 0), .inl (cy 0, 1600, .inl f150))] H := hP
      have hD : va_D A [(hx0, .inr (11, [.ref (xa 0), .int 2, .int (-1), .ref (xa 1), .ref (xa 2), .ref (xa 3), .ref (xa 4), .ref (xa 5)])), ((xa 0), .inl (cy 0, 1600, .inl f150))] := hD
      refine lv_iinc (v := 2) (lv' := [(4, .int 2), (0, .ref hx0), (1, .long p0), (3, .int (nI 5))]) hx hb dX11_feed_67 hl (k := 0) rfl (by decide) (by decide) rfl (fun ls hl => ?_)
      refine lv_goto (tgt := 34) hx hb dX11_feed_70 (by decide) ?_
      refine lv_iload hx hb dX11_feed_34 (lv_at hl 0 rfl) ?_
      refine lv_if_lt (tgt := 73) hx hb dX11_feed_36 (by decide) (fun c9 => absurd c9 (by decide)) (fun _ => ?_)
      refine lv_aload_n hx hb dX11_feed_39 rfl (lv_at hl 1 rfl) ?_
      refine va_get (D := D) (ci := 11) (v := .ref (xa 0)) (C := RX11) (T := TX11) (N := 8) hx hb hT i_TX11 hown hK hP 0 rfl rfl 0 (by decide) (hT _ t_533) (fun _ h9 => h9) rfl dX11_feed_40 ?_
      refine lv_aload_n hx hb dX11_feed_43 rfl (lv_at hl 1 rfl) ?_
      refine va_get (D := D) (ci := 11) (v := .int 2) (C := RX11) (T := TX11) (N := 8) hx hb hT i_TX11 hown hK hP 0 rfl rfl 1 (by decide) (hT _ t_534) (fun _ h9 => h9) rfl dX11_feed_44 ?_
      refine lv_lload_n hx hb dX11_feed_47 rfl (lv_at hl 2 rfl) ?_
      refine lv_bipush (v := 8) hx hb dX11_feed_48 (by decide) ?_
      refine lv_iload hx hb dX11_feed_50 (lv_at hl 0 rfl) ?_
      refine lv_imul hx hb dX11_feed_52 ?_
      refine lv_topi (fun z153 e154 => ?_)
      obtain rfl : z153 = 16 := e154.trans (by first | decide | rfl)
      refine lv_lushr hx hb dX11_feed_53 rfl ?_
      refine lv_topl (fun z155 e156 => ?_)
      refine lv_l2i hx hb dX11_feed_54 rfl ?_
      refine lv_topi (fun z157 e158 => ?_)
      refine lv_i2b hx hb dX11_feed_55 rfl ?_
      refine lv_topi (fun z159 e160 => ?_)
      refine va_bast hx hb hK hP hD hS 1 0 rfl rfl (vp_in_iff.mpr (by decide)) dX11_feed_56 (fun H locs hP hD hS => ?_)
      have hP : va_P D vwCl [(hx0, .inr (11, [.ref (xa 0), .int 2, .int (-1), .ref (xa 1), .ref (xa 2), .ref (xa 3), .ref (xa 4), .ref (xa 5)])), ((xa 0), .inl (cy 0, 1600, .inl (upd f150 (2 : Int32).toNatClampNeg (vp_nar .byte z159))))] H := hP
      have hD : va_D A [(hx0, .inr (11, [.ref (xa 0), .int 2, .int (-1), .ref (xa 1), .ref (xa 2), .ref (xa 3), .ref (xa 4), .ref (xa 5)])), ((xa 0), .inl (cy 0, 1600, .inl (upd f150 (2 : Int32).toNatClampNeg (vp_nar .byte z159))))] := hD
      generalize hff161 : (upd f150 (2 : Int32).toNatClampNeg (vp_nar .byte z159)) = f161 at hP hD
      refine lv_aload_n hx hb dX11_feed_57 rfl (lv_at hl 1 rfl) ?_
      refine lv_dup hx hb dX11_feed_58 rfl ?_
      refine va_get (D := D) (ci := 11) (v := .int 2) (C := RX11) (T := TX11) (N := 8) hx hb hT i_TX11 hown hK hP 0 rfl rfl 1 (by decide) (hT _ t_534) (fun _ h9 => h9) rfl dX11_feed_59 ?_
      refine lv_iconst (v := 1) hx hb dX11_feed_62 (by decide) ?_
      refine lv_iadd hx hb dX11_feed_63 ?_
      refine lv_topi (fun z162 e163 => ?_)
      obtain rfl : z162 = 3 := e163.trans (by first | decide | rfl)
      refine va_put (D := D) (ci := 11) (v := .int 3) (ty := .int) (C := RX11) (T := TX11) (N := 8) hx hb hT i_TX11 tyX11 tyX11_ok nmX11 hown hK hP hD hS 0 rfl rfl 1 (by decide) (hT _ t_534) (fun _ h9 => h9) rfl (by decide +kernel) rfl rfl (Nat.le_of_ble_eq_true rfl) dX11_feed_64 (fun H locs hP hD hS => ?_)
      have hP : va_P D vwCl [(hx0, .inr (11, [.ref (xa 0), .int 3, .int (-1), .ref (xa 1), .ref (xa 2), .ref (xa 3), .ref (xa 4), .ref (xa 5)])), ((xa 0), .inl (cy 0, 1600, .inl f161))] H := hP
      have hD : va_D A [(hx0, .inr (11, [.ref (xa 0), .int 3, .int (-1), .ref (xa 1), .ref (xa 2), .ref (xa 3), .ref (xa 4), .ref (xa 5)])), ((xa 0), .inl (cy 0, 1600, .inl f161))] := hD
      refine lv_iinc (v := 1) (lv' := [(4, .int 1), (0, .ref hx0), (1, .long p0), (3, .int (nI 5))]) hx hb dX11_feed_67 hl (k := 0) rfl (by decide) (by decide) rfl (fun ls hl => ?_)
      refine lv_goto (tgt := 34) hx hb dX11_feed_70 (by decide) ?_
      refine lv_iload hx hb dX11_feed_34 (lv_at hl 0 rfl) ?_
      refine lv_if_lt (tgt := 73) hx hb dX11_feed_36 (by decide) (fun c9 => absurd c9 (by decide)) (fun _ => ?_)
      refine lv_aload_n hx hb dX11_feed_39 rfl (lv_at hl 1 rfl) ?_
      refine va_get (D := D) (ci := 11) (v := .ref (xa 0)) (C := RX11) (T := TX11) (N := 8) hx hb hT i_TX11 hown hK hP 0 rfl rfl 0 (by decide) (hT _ t_533) (fun _ h9 => h9) rfl dX11_feed_40 ?_
      refine lv_aload_n hx hb dX11_feed_43 rfl (lv_at hl 1 rfl) ?_
      refine va_get (D := D) (ci := 11) (v := .int 3) (C := RX11) (T := TX11) (N := 8) hx hb hT i_TX11 hown hK hP 0 rfl rfl 1 (by decide) (hT _ t_534) (fun _ h9 => h9) rfl dX11_feed_44 ?_
      refine lv_lload_n hx hb dX11_feed_47 rfl (lv_at hl 2 rfl) ?_
      refine lv_bipush (v := 8) hx hb dX11_feed_48 (by decide) ?_
      refine lv_iload hx hb dX11_feed_50 (lv_at hl 0 rfl) ?_
      refine lv_imul hx hb dX11_feed_52 ?_
      refine lv_topi (fun z164 e165 => ?_)
      obtain rfl : z164 = 8 := e165.trans (by first | decide | rfl)
      refine lv_lushr hx hb dX11_feed_53 rfl ?_
      refine lv_topl (fun z166 e167 => ?_)
      refine lv_l2i hx hb dX11_feed_54 rfl ?_
      refine lv_topi (fun z168 e169 => ?_)
      refine lv_i2b hx hb dX11_feed_55 rfl ?_
      refine lv_topi (fun z170 e171 => ?_)
      refine va_bast hx hb hK hP hD hS 1 0 rfl rfl (vp_in_iff.mpr (by decide)) dX11_feed_56 (fun H locs hP hD hS => ?_)
      have hP : va_P D vwCl [(hx0, .inr (11, [.ref (xa 0), .int 3, .int (-1), .ref (xa 1), .ref (xa 2), .ref (xa 3), .ref (xa 4), .ref (xa 5)])), ((xa 0), .inl (cy 0, 1600, .inl (upd f161 (3 : Int32).toNatClampNeg (vp_nar .byte z170))))] H := hP
      have hD : va_D A [(hx0, .inr (11, [.ref (xa 0), .int 3, .int (-1), .ref (xa 1), .ref (xa 2), .ref (xa 3), .ref (xa 4), .ref (xa 5)])), ((xa 0), .inl (cy 0, 1600, .inl (upd f161 (3 : Int32).toNatClampNeg (vp_nar .byte z170))))] := hD
      generalize hff172 : (upd f161 (3 : Int32).toNatClampNeg (vp_nar .byte z170)) = f172 at hP hD
      refine lv_aload_n hx hb dX11_feed_57 rfl (lv_at hl 1 rfl) ?_
      refine lv_dup hx hb dX11_feed_58 rfl ?_
      refine va_get (D := D) (ci := 11) (v := .int 3) (C := RX11) (T := TX11) (N := 8) hx hb hT i_TX11 hown hK hP 0 rfl rfl 1 (by decide) (hT _ t_534) (fun _ h9 => h9) rfl dX11_feed_59 ?_
      refine lv_iconst (v := 1) hx hb dX11_feed_62 (by decide) ?_
      refine lv_iadd hx hb dX11_feed_63 ?_
      refine lv_topi (fun z173 e174 => ?_)
      obtain rfl : z173 = 4 := e174.trans (by first | decide | rfl)
      refine va_put (D := D) (ci := 11) (v := .int 4) (ty := .int) (C := RX11) (T := TX11) (N := 8) hx hb hT i_TX11 tyX11 tyX11_ok nmX11 hown hK hP hD hS 0 rfl rfl 1 (by decide) (hT _ t_534) (fun _ h9 => h9) rfl (by decide +kernel) rfl rfl (Nat.le_of_ble_eq_true rfl) dX11_feed_64 (fun H locs hP hD hS => ?_)
      have hP : va_P D vwCl [(hx0, .inr (11, [.ref (xa 0), .int 4, .int (-1), .ref (xa 1), .ref (xa 2), .ref (xa 3), .ref (xa 4), .ref (xa 5)])), ((xa 0), .inl (cy 0, 1600, .inl f172))] H := hP
      have hD : va_D A [(hx0, .inr (11, [.ref (xa 0), .int 4, .int (-1), .ref (xa 1), .ref (xa 2), .ref (xa 3), .ref (xa 4), .ref (xa 5)])), ((xa 0), .inl (cy 0, 1600, .inl f172))] := hD
      refine lv_iinc (v := 0) (lv' := [(4, .int 0), (0, .ref hx0), (1, .long p0), (3, .int (nI 5))]) hx hb dX11_feed_67 hl (k := 0) rfl (by decide) (by decide) rfl (fun ls hl => ?_)
      refine lv_goto (tgt := 34) hx hb dX11_feed_70 (by decide) ?_
      refine lv_iload hx hb dX11_feed_34 (lv_at hl 0 rfl) ?_
      refine lv_if_lt (tgt := 73) hx hb dX11_feed_36 (by decide) (fun c9 => absurd c9 (by decide)) (fun _ => ?_)
      refine lv_aload_n hx hb dX11_feed_39 rfl (lv_at hl 1 rfl) ?_
      refine va_get (D := D) (ci := 11) (v := .ref (xa 0)) (C := RX11) (T := TX11) (N := 8) hx hb hT i_TX11 hown hK hP 0 rfl rfl 0 (by decide) (hT _ t_533) (fun _ h9 => h9) rfl dX11_feed_40 ?_
      refine lv_aload_n hx hb dX11_feed_43 rfl (lv_at hl 1 rfl) ?_
      refine va_get (D := D) (ci := 11) (v := .int 4) (C := RX11) (T := TX11) (N := 8) hx hb hT i_TX11 hown hK hP 0 rfl rfl 1 (by decide) (hT _ t_534) (fun _ h9 => h9) rfl dX11_feed_44 ?_
      refine lv_lload_n hx hb dX11_feed_47 rfl (lv_at hl 2 rfl) ?_
      refine lv_bipush (v := 8) hx hb dX11_feed_48 (by decide) ?_
      refine lv_iload hx hb dX11_feed_50 (lv_at hl 0 rfl) ?_
      refine lv_imul hx hb dX11_feed_52 ?_
      refine lv_topi (fun z175 e176 => ?_)
      obtain rfl : z175 = 0 := e176.trans (by first | decide | rfl)
      refine lv_lushr hx hb dX11_feed_53 rfl ?_
      refine lv_topl (fun z177 e178 => ?_)
      refine lv_l2i hx hb dX11_feed_54 rfl ?_
      refine lv_topi (fun z179 e180 => ?_)
      refine lv_i2b hx hb dX11_feed_55 rfl ?_
      refine lv_topi (fun z181 e182 => ?_)
      refine va_bast hx hb hK hP hD hS 1 0 rfl rfl (vp_in_iff.mpr (by decide)) dX11_feed_56 (fun H locs hP hD hS => ?_)
      have hP : va_P D vwCl [(hx0, .inr (11, [.ref (xa 0), .int 4, .int (-1), .ref (xa 1), .ref (xa 2), .ref (xa 3), .ref (xa 4), .ref (xa 5)])), ((xa 0), .inl (cy 0, 1600, .inl (upd f172 (4 : Int32).toNatClampNeg (vp_nar .byte z181))))] H := hP
      have hD : va_D A [(hx0, .inr (11, [.ref (xa 0), .int 4, .int (-1), .ref (xa 1), .ref (xa 2), .ref (xa 3), .ref (xa 4), .ref (xa 5)])), ((xa 0), .inl (cy 0, 1600, .inl (upd f172 (4 : Int32).toNatClampNeg (vp_nar .byte z181))))] := hD
      generalize hff183 : (upd f172 (4 : Int32).toNatClampNeg (vp_nar .byte z181)) = f183 at hP hD
      refine lv_aload_n hx hb dX11_feed_57 rfl (lv_at hl 1 rfl) ?_
      refine lv_dup hx hb dX11_feed_58 rfl ?_
      refine va_get (D := D) (ci := 11) (v := .int 4) (C := RX11) (T := TX11) (N := 8) hx hb hT i_TX11 hown hK hP 0 rfl rfl 1 (by decide) (hT _ t_534) (fun _ h9 => h9) rfl dX11_feed_59 ?_
      refine lv_iconst (v := 1) hx hb dX11_feed_62 (by decide) ?_
      refine lv_iadd hx hb dX11_feed_63 ?_
      refine lv_topi (fun z184 e185 => ?_)
      obtain rfl : z184 = 5 := e185.trans (by first | decide | rfl)
      refine va_put (D := D) (ci := 11) (v := .int 5) (ty := .int) (C := RX11) (T := TX11) (N := 8) hx hb hT i_TX11 tyX11 tyX11_ok nmX11 hown hK hP hD hS 0 rfl rfl 1 (by decide) (hT _ t_534) (fun _ h9 => h9) rfl (by decide +kernel) rfl rfl (Nat.le_of_ble_eq_true rfl) dX11_feed_64 (fun H locs hP hD hS => ?_)
      have hP : va_P D vwCl [(hx0, .inr (11, [.ref (xa 0), .int 5, .int (-1), .ref (xa 1), .ref (xa 2), .ref (xa 3), .ref (xa 4), .ref (xa 5)])), ((xa 0), .inl (cy 0, 1600, .inl f183))] H := hP
      have hD : va_D A [(hx0, .inr (11, [.ref (xa 0), .int 5, .int (-1), .ref (xa 1), .ref (xa 2), .ref (xa 3), .ref (xa 4), .ref (xa 5)])), ((xa 0), .inl (cy 0, 1600, .inl f183))] := hD
      refine lv_iinc (v := (-1)) (lv' := [(4, .int (-1)), (0, .ref hx0), (1, .long p0), (3, .int (nI 5))]) hx hb dX11_feed_67 hl (k := 0) rfl (by decide) (by decide) rfl (fun ls hl => ?_)
      refine lv_goto (tgt := 34) hx hb dX11_feed_70 (by decide) ?_
      refine lv_iload hx hb dX11_feed_34 (lv_at hl 0 rfl) ?_
      refine lv_if_lt (tgt := 73) hx hb dX11_feed_36 (by decide) (fun _ => ?_) (fun c9 => absurd (by decide) c9)
      refine lv_aload_n hx hb dX11_feed_73 rfl (lv_at hl 1 rfl) ?_
      refine va_get (D := D) (ci := 11) (v := .int 5) (C := RX11) (T := TX11) (N := 8) hx hb hT i_TX11 hown hK hP 0 rfl rfl 1 (by decide) (hT _ t_534) (fun _ h9 => h9) rfl dX11_feed_74 ?_
      have hP9 := hP.sub (ws' := []) [] rfl
      have hD9 := hD.sub (ws' := []) [] (by decide) rfl
      refine W.widen (k := 0) (n := 0) (Nat.le_of_ble_eq_true rfl) (Nat.le_of_ble_eq_true rfl) ?_
      exact W.iret (v := 5) hx hb hr (fun t ht hW => ⟨⟨5, (), rfl, (by decide), by rw [ht]; exact hP9, hD9⟩, hS.F ht⟩) hS.2.2 dX11_feed_77
    · refine lv_iload_n hx hb dX11_feed_0 rfl (lv_at hl 2 rfl) ?_
      refine lv_iconst (v := 1) hx hb dX11_feed_1 (by decide) ?_
      refine lv_icmp_lt (tgt := 11) hx hb dX11_feed_2 (by decide) (fun c9 => absurd c9 (by decide)) (fun _ => ?_)
      refine lv_iload_n hx hb dX11_feed_5 rfl (lv_at hl 2 rfl) ?_
      refine lv_bipush (v := 8) hx hb dX11_feed_6 (by decide) ?_
      refine lv_icmp_le (tgt := 14) hx hb dX11_feed_8 (by decide) (fun _ => ?_) (fun c9 => absurd (by decide) c9)
      refine lv_aload_n hx hb dX11_feed_14 rfl (lv_at hl 0 rfl) ?_
      refine va_get (D := D) (ci := 11) (v := .int 0) (C := RX11) (T := TX11) (N := 8) hx hb hT i_TX11 hown hK hP 0 rfl rfl 1 (by decide) (hT _ t_534) (fun _ h9 => h9) rfl dX11_feed_15 ?_
      refine lv_iload_n hx hb dX11_feed_18 rfl (lv_at hl 2 rfl) ?_
      refine lv_iadd hx hb dX11_feed_19 ?_
      refine lv_topi (fun z186 e187 => ?_)
      obtain rfl : z186 = 6 := e187.trans (by first | decide | rfl)
      refine lv_sipush (v := 1600) hx hb dX11_feed_20 (by decide) ?_
      refine lv_icmp_le (tgt := 29) hx hb dX11_feed_23 (by decide) (fun _ => ?_) (fun c9 => absurd (by decide) c9)
      refine lv_iload_n hx hb dX11_feed_29 rfl (lv_at hl 2 rfl) ?_
      refine lv_iconst (v := 1) hx hb dX11_feed_30 (by decide) ?_
      refine lv_isub hx hb dX11_feed_31 ?_
      refine lv_topi (fun z188 e189 => ?_)
      obtain rfl : z188 = 5 := e189.trans (by first | decide | rfl)
      refine lv_istore (lv' := [(4, .int 5), (0, .ref hx0), (1, .long p0), (3, .int (nI 6))]) hx hb dX11_feed_32 hl (by decide) rfl (fun ls hl => ?_)
      refine lv_iload hx hb dX11_feed_34 (lv_at hl 0 rfl) ?_
      refine lv_if_lt (tgt := 73) hx hb dX11_feed_36 (by decide) (fun c9 => absurd c9 (by decide)) (fun _ => ?_)
      refine lv_aload_n hx hb dX11_feed_39 rfl (lv_at hl 1 rfl) ?_
      refine va_get (D := D) (ci := 11) (v := .ref (xa 0)) (C := RX11) (T := TX11) (N := 8) hx hb hT i_TX11 hown hK hP 0 rfl rfl 0 (by decide) (hT _ t_533) (fun _ h9 => h9) rfl dX11_feed_40 ?_
      refine lv_aload_n hx hb dX11_feed_43 rfl (lv_at hl 1 rfl) ?_
      refine va_get (D := D) (ci := 11) (v := .int 0) (C := RX11) (T := TX11) (N := 8) hx hb hT i_TX11 hown hK hP 0 rfl rfl 1 (by decide) (hT _ t_534) (fun _ h9 => h9) rfl dX11_feed_44 ?_
      refine lv_lload_n hx hb dX11_feed_47 rfl (lv_at hl 2 rfl) ?_
      refine lv_bipush (v := 8) hx hb dX11_feed_48 (by decide) ?_
      refine lv_iload hx hb dX11_feed_50 (lv_at hl 0 rfl) ?_
      refine lv_imul hx hb dX11_feed_52 ?_
      refine lv_topi (fun z190 e191 => ?_)
      obtain rfl : z190 = 40 := e191.trans (by first | decide | rfl)
      refine lv_lushr hx hb dX11_feed_53 rfl ?_
      refine lv_topl (fun z192 e193 => ?_)
      refine lv_l2i hx hb dX11_feed_54 rfl ?_
      refine lv_topi (fun z194 e195 => ?_)
      refine lv_i2b hx hb dX11_feed_55 rfl ?_
      refine lv_topi (fun z196 e197 => ?_)
      refine va_bast hx hb hK hP hD hS 1 0 rfl rfl (vp_in_iff.mpr (by decide)) dX11_feed_56 (fun H locs hP hD hS => ?_)
      have hP : va_P D vwCl [(hx0, .inr (11, [.ref (xa 0), .int 0, .int (-1), .ref (xa 1), .ref (xa 2), .ref (xa 3), .ref (xa 4), .ref (xa 5)])), ((xa 0), .inl (cy 0, 1600, .inl (upd (fun _ => 0) (0 : Int32).toNatClampNeg (vp_nar .byte z196))))] H := hP
      have hD : va_D A [(hx0, .inr (11, [.ref (xa 0), .int 0, .int (-1), .ref (xa 1), .ref (xa 2), .ref (xa 3), .ref (xa 4), .ref (xa 5)])), ((xa 0), .inl (cy 0, 1600, .inl (upd (fun _ => 0) (0 : Int32).toNatClampNeg (vp_nar .byte z196))))] := hD
      generalize hff198 : (upd (fun _ => 0) (0 : Int32).toNatClampNeg (vp_nar .byte z196)) = f198 at hP hD
      refine lv_aload_n hx hb dX11_feed_57 rfl (lv_at hl 1 rfl) ?_
      refine lv_dup hx hb dX11_feed_58 rfl ?_
      refine va_get (D := D) (ci := 11) (v := .int 0) (C := RX11) (T := TX11) (N := 8) hx hb hT i_TX11 hown hK hP 0 rfl rfl 1 (by decide) (hT _ t_534) (fun _ h9 => h9) rfl dX11_feed_59 ?_
      refine lv_iconst (v := 1) hx hb dX11_feed_62 (by decide) ?_
      refine lv_iadd hx hb dX11_feed_63 ?_
      refine lv_topi (fun z199 e200 => ?_)
      obtain rfl : z199 = 1 := e200.trans (by first | decide | rfl)
      refine va_put (D := D) (ci := 11) (v := .int 1) (ty := .int) (C := RX11) (T := TX11) (N := 8) hx hb hT i_TX11 tyX11 tyX11_ok nmX11 hown hK hP hD hS 0 rfl rfl 1 (by decide) (hT _ t_534) (fun _ h9 => h9) rfl (by decide +kernel) rfl rfl (Nat.le_of_ble_eq_true rfl) dX11_feed_64 (fun H locs hP hD hS => ?_)
      have hP : va_P D vwCl [(hx0, .inr (11, [.ref (xa 0), .int 1, .int (-1), .ref (xa 1), .ref (xa 2), .ref (xa 3), .ref (xa 4), .ref (xa 5)])), ((xa 0), .inl (cy 0, 1600, .inl f198))] H := hP
      have hD : va_D A [(hx0, .inr (11, [.ref (xa 0), .int 1, .int (-1), .ref (xa 1), .ref (xa 2), .ref (xa 3), .ref (xa 4), .ref (xa 5)])), ((xa 0), .inl (cy 0, 1600, .inl f198))] := hD
      refine lv_iinc (v := 4) (lv' := [(4, .int 4), (0, .ref hx0), (1, .long p0), (3, .int (nI 6))]) hx hb dX11_feed_67 hl (k := 0) rfl (by decide) (by decide) rfl (fun ls hl => ?_)
      refine lv_goto (tgt := 34) hx hb dX11_feed_70 (by decide) ?_
      refine lv_iload hx hb dX11_feed_34 (lv_at hl 0 rfl) ?_
      refine lv_if_lt (tgt := 73) hx hb dX11_feed_36 (by decide) (fun c9 => absurd c9 (by decide)) (fun _ => ?_)
      refine lv_aload_n hx hb dX11_feed_39 rfl (lv_at hl 1 rfl) ?_
      refine va_get (D := D) (ci := 11) (v := .ref (xa 0)) (C := RX11) (T := TX11) (N := 8) hx hb hT i_TX11 hown hK hP 0 rfl rfl 0 (by decide) (hT _ t_533) (fun _ h9 => h9) rfl dX11_feed_40 ?_
      refine lv_aload_n hx hb dX11_feed_43 rfl (lv_at hl 1 rfl) ?_
      refine va_get (D := D) (ci := 11) (v := .int 1) (C := RX11) (T := TX11) (N := 8) hx hb hT i_TX11 hown hK hP 0 rfl rfl 1 (by decide) (hT _ t_534) (fun _ h9 => h9) rfl dX11_feed_44 ?_
      refine lv_lload_n hx hb dX11_feed_47 rfl (lv_at hl 2 rfl) ?_
      refine lv_bipush (v := 8) hx hb dX11_feed_48 (by decide) ?_
      refine lv_iload hx hb dX11_feed_50 (lv_at hl 0 rfl) ?_
      refine lv_imul hx hb dX11_feed_52 ?_
      refine lv_topi (fun z201 e202 => ?_)
      obtain rfl : z201 = 32 := e202.trans (by first | decide | rfl)
      refine lv_lushr hx hb dX11_feed_53 rfl ?_
      refine lv_topl (fun z203 e204 => ?_)
      refine lv_l2i hx hb dX11_feed_54 rfl ?_
      refine lv_topi (fun z205 e206 => ?_)
      refine lv_i2b hx hb dX11_feed_55 rfl ?_
      refine lv_topi (fun z207 e208 => ?_)
      refine va_bast hx hb hK hP hD hS 1 0 rfl rfl (vp_in_iff.mpr (by decide)) dX11_feed_56 (fun H locs hP hD hS => ?_)
      have hP : va_P D vwCl [(hx0, .inr (11, [.ref (xa 0), .int 1, .int (-1), .ref (xa 1), .ref (xa 2), .ref (xa 3), .ref (xa 4), .ref (xa 5)])), ((xa 0), .inl (cy 0, 1600, .inl (upd f198 (1 : Int32).toNatClampNeg (vp_nar .byte z207))))] H := hP
      have hD : va_D A [(hx0, .inr (11, [.ref (xa 0), .int 1, .int (-1), .ref (xa 1), .ref (xa 2), .ref (xa 3), .ref (xa 4), .ref (xa 5)])), ((xa 0), .inl (cy 0, 1600, .inl (upd f198 (1 : Int32).toNatClampNeg (vp_nar .byte z207))))] := hD
      generalize hff209 : (upd f198 (1 : Int32).toNatClampNeg (vp_nar .byte z207)) = f209 at hP hD
      refine lv_aload_n hx hb dX11_feed_57 rfl (lv_at hl 1 rfl) ?_
      refine lv_dup hx hb dX11_feed_58 rfl ?_
      refine va_get (D := D) (ci := 11) (v := .int 1) (C := RX11) (T := TX11) (N := 8) hx hb hT i_TX11 hown hK hP 0 rfl rfl 1 (by decide) (hT _ t_534) (fun _ h9 => h9) rfl dX11_feed_59 ?_
      refine lv_iconst (v := 1) hx hb dX11_feed_62 (by decide) ?_
      refine lv_iadd hx hb dX11_feed_63 ?_
      refine lv_topi (fun z210 e211 => ?_)
      obtain rfl : z210 = 2 := e211.trans (by first | decide | rfl)
      refine va_put (D := D) (ci := 11) (v := .int 2) (ty := .int) (C := RX11) (T := TX11) (N := 8) hx hb hT i_TX11 tyX11 tyX11_ok nmX11 hown hK hP hD hS 0 rfl rfl 1 (by decide) (hT _ t_534) (fun _ h9 => h9) rfl (by decide +kernel) rfl rfl (Nat.le_of_ble_eq_true rfl) dX11_feed_64 (fun H locs hP hD hS => ?_)
      have hP : va_P D vwCl [(hx0, .inr (11, [.ref (xa 0), .int 2, .int (-1), .ref (xa 1), .ref (xa 2), .ref (xa 3), .ref (xa 4), .ref (xa 5)])), ((xa 0), .inl (cy 0, 1600, .inl f209))] H := hP
      have hD : va_D A [(hx0, .inr (11, [.ref (xa 0), .int 2, .int (-1), .ref (xa 1), .ref (xa 2), .ref (xa 3), .ref (xa 4), .ref (xa 5)])), ((xa 0), .inl (cy 0, 1600, .inl f209))] := hD
      refine lv_iinc (v := 3) (lv' := [(4, .int 3), (0, .ref hx0), (1, .long p0), (3, .int (nI 6))]) hx hb dX11_feed_67 hl (k := 0) rfl (by decide) (by decide) rfl (fun ls hl => ?_)
      refine lv_goto (tgt := 34) hx hb dX11_feed_70 (by decide) ?_
      refine lv_iload hx hb dX11_feed_34 (lv_at hl 0 rfl) ?_
      refine lv_if_lt (tgt := 73) hx hb dX11_feed_36 (by decide) (fun c9 => absurd c9 (by decide)) (fun _ => ?_)
      refine lv_aload_n hx hb dX11_feed_39 rfl (lv_at hl 1 rfl) ?_
      refine va_get (D := D) (ci := 11) (v := .ref (xa 0)) (C := RX11) (T := TX11) (N := 8) hx hb hT i_TX11 hown hK hP 0 rfl rfl 0 (by decide) (hT _ t_533) (fun _ h9 => h9) rfl dX11_feed_40 ?_
      refine lv_aload_n hx hb dX11_feed_43 rfl (lv_at hl 1 rfl) ?_
      refine va_get (D := D) (ci := 11) (v := .int 2) (C := RX11) (T := TX11) (N := 8) hx hb hT i_TX11 hown hK hP 0 rfl rfl 1 (by decide) (hT _ t_534) (fun _ h9 => h9) rfl dX11_feed_44 ?_
      refine lv_lload_n hx hb dX11_feed_47 rfl (lv_at hl 2 rfl) ?_
      refine lv_bipush (v := 8) hx hb dX11_feed_48 (by decide) ?_
      refine lv_iload hx hb dX11_feed_50 (lv_at hl 0 rfl) ?_
      refine lv_imul hx hb dX11_feed_52 ?_
      refine lv_topi (fun z212 e213 => ?_)
      obtain rfl : z212 = 24 := e213.trans (by first | decide | rfl)
      refine lv_lushr hx hb dX11_feed_53 rfl ?_
      refine lv_topl (fun z214 e215 => ?_)
      refine lv_l2i hx hb dX11_feed_54 rfl ?_
      refine lv_topi (fun z216 e217 => ?_)
      refine lv_i2b hx hb dX11_feed_55 rfl ?_
      refine lv_topi (fun z218 e219 => ?_)
      refine va_bast hx hb hK hP hD hS 1 0 rfl rfl (vp_in_iff.mpr (by decide)) dX11_feed_56 (fun H locs hP hD hS => ?_)
      have hP : va_P D vwCl [(hx0, .inr (11, [.ref (xa 0), .int 2, .int (-1), .ref (xa 1), .ref (xa 2), .ref (xa 3), .ref (xa 4), .ref (xa 5)])), ((xa 0), .inl (cy 0, 1600, .inl (upd f209 (2 : Int32).toNatClampNeg (vp_nar .byte z218))))] H := hP
      have hD : va_D A [(hx0, .inr (11, [.ref (xa 0), .int 2, .int (-1), .ref (xa 1), .ref (xa 2), .ref (xa 3), .ref (xa 4), .ref (xa 5)])), ((xa 0), .inl (cy 0, 1600, .inl (upd f209 (2 : Int32).toNatClampNeg (vp_nar .byte z218))))] := hD
      generalize hff220 : (upd f209 (2 : Int32).toNatClampNeg (vp_nar .byte z218)) = f220 at hP hD
      refine lv_aload_n hx hb dX11_feed_57 rfl (lv_at hl 1 rfl) ?_
      refine lv_dup hx hb dX11_feed_58 rfl ?_
      refine va_get (D := D) (ci := 11) (v := .int 2) (C := RX11) (T := TX11) (N := 8) hx hb hT i_TX11 hown hK hP 0 rfl rfl 1 (by decide) (hT _ t_534) (fun _ h9 => h9) rfl dX11_feed_59 ?_
      refine lv_iconst (v := 1) hx hb dX11_feed_62 (by decide) ?_
      refine lv_iadd hx hb dX11_feed_63 ?_
      refine lv_topi (fun z221 e222 => ?_)
      obtain rfl : z221 = 3 := e222.trans (by first | decide | rfl)
      refine va_put (D := D) (ci := 11) (v := .int 3) (ty := .int) (C := RX11) (T := TX11) (N := 8) hx hb hT i_TX11 tyX11 tyX11_ok nmX11 hown hK hP hD hS 0 rfl rfl 1 (by decide) (hT _ t_534) (fun _ h9 => h9) rfl (by decide +kernel) rfl rfl (Nat.le_of_ble_eq_true rfl) dX11_feed_64 (fun H locs hP hD hS => ?_)
      have hP : va_P D vwCl [(hx0, .inr (11, [.ref (xa 0), .int 3, .int (-1), .ref (xa 1), .ref (xa 2), .ref (xa 3), .ref (xa 4), .ref (xa 5)])), ((xa 0), .inl (cy 0, 1600, .inl f220))] H := hP
      have hD : va_D A [(hx0, .inr (11, [.ref (xa 0), .int 3, .int (-1), .ref (xa 1), .ref (xa 2), .ref (xa 3), .ref (xa 4), .ref (xa 5)])), ((xa 0), .inl (cy 0, 1600, .inl f220))] := hD
      refine lv_iinc (v := 2) (lv' := [(4, .int 2), (0, .ref hx0), (1, .long p0), (3, .int (nI 6))]) hx hb dX11_feed_67 hl (k := 0) rfl (by decide) (by decide) rfl (fun ls hl => ?_)
      refine lv_goto (tgt := 34) hx hb dX11_feed_70 (by decide) ?_
      refine lv_iload hx hb dX11_feed_34 (lv_at hl 0 rfl) ?_
      refine lv_if_lt (tgt := 73) hx hb dX11_feed_36 (by decide) (fun c9 => absurd c9 (by decide)) (fun _ => ?_)
      refine lv_aload_n hx hb dX11_feed_39 rfl (lv_at hl 1 rfl) ?_
      refine va_get (D := D) (ci := 11) (v := .ref (xa 0)) (C := RX11) (T := TX11) (N := 8) hx hb hT i_TX11 hown hK hP 0 rfl rfl 0 (by decide) (hT _ t_533) (fun _ h9 => h9) rfl dX11_feed_40 ?_
      refine lv_aload_n hx hb dX11_feed_43 rfl (lv_at hl 1 rfl) ?_
      refine va_get (D := D) (ci := 11) (v := .int 3) (C := RX11) (T := TX11) (N := 8) hx hb hT i_TX11 hown hK hP 0 rfl rfl 1 (by decide) (hT _ t_534) (fun _ h9 => h9) rfl dX11_feed_44 ?_
      refine lv_lload_n hx hb dX11_feed_47 rfl (lv_at hl 2 rfl) ?_
      refine lv_bipush (v := 8) hx hb dX11_feed_48 (by decide) ?_
      refine lv_iload hx hb dX11_feed_50 (lv_at hl 0 rfl) ?_
      refine lv_imul hx hb dX11_feed_52 ?_
      refine lv_topi (fun z223 e224 => ?_)
      obtain rfl : z223 = 16 := e224.trans (by first | decide | rfl)
      refine lv_lushr hx hb dX11_feed_53 rfl ?_
      refine lv_topl (fun z225 e226 => ?_)
      refine lv_l2i hx hb dX11_feed_54 rfl ?_
      refine lv_topi (fun z227 e228 => ?_)
      refine lv_i2b hx hb dX11_feed_55 rfl ?_
      refine lv_topi (fun z229 e230 => ?_)
      refine va_bast hx hb hK hP hD hS 1 0 rfl rfl (vp_in_iff.mpr (by decide)) dX11_feed_56 (fun H locs hP hD hS => ?_)
      have hP : va_P D vwCl [(hx0, .inr (11, [.ref (xa 0), .int 3, .int (-1), .ref (xa 1), .ref (xa 2), .ref (xa 3), .ref (xa 4), .ref (xa 5)])), ((xa 0), .inl (cy 0, 1600, .inl (upd f220 (3 : Int32).toNatClampNeg (vp_nar .byte z229))))] H := hP
      have hD : va_D A [(hx0, .inr (11, [.ref (xa 0), .int 3, .int (-1), .ref (xa 1), .ref (xa 2), .ref (xa 3), .ref (xa 4), .ref (xa 5)])), ((xa 0), .inl (cy 0, 1600, .inl (upd f220 (3 : Int32).toNatClampNeg (vp_nar .byte z229))))] := hD
      generalize hff231 : (upd f220 (3 : Int32).toNatClampNeg (vp_nar .byte z229)) = f231 at hP hD
      refine lv_aload_n hx hb dX11_feed_57 rfl (lv_at hl 1 rfl) ?_
      refine lv_dup hx hb dX11_feed_58 rfl ?_
      refine va_get (D := D) (ci := 11) (v := .int 3) (C := RX11) (T := TX11) (N := 8) hx hb hT i_TX11 hown hK hP 0 rfl rfl 1 (by decide) (hT _ t_534) (fun _ h9 => h9) rfl dX11_feed_59 ?_
      refine lv_iconst (v := 1) hx hb dX11_feed_62 (by decide) ?_
      refine lv_iadd hx hb dX11_feed_63 ?_
      refine lv_topi (fun z232 e233 => ?_)
      obtain rfl : z232 = 4 := e233.trans (by first | decide | rfl)
      refine va_put (D := D) (ci := 11) (v := .int 4) (ty := .int) (C := RX11) (T := TX11) (N := 8) hx hb hT i_TX11 tyX11 tyX11_ok nmX11 hown hK hP hD hS 0 rfl rfl 1 (by decide) (hT _ t_534) (fun _ h9 => h9) rfl (by decide +kernel) rfl rfl (Nat.le_of_ble_eq_true rfl) dX11_feed_64 (fun H locs hP hD hS => ?_)
      have hP : va_P D vwCl [(hx0, .inr (11, [.ref (xa 0), .int 4, .int (-1), .ref (xa 1), .ref (xa 2), .ref (xa 3), .ref (xa 4), .ref (xa 5)])), ((xa 0), .inl (cy 0, 1600, .inl f231))] H := hP
      have hD : va_D A [(hx0, .inr (11, [.ref (xa 0), .int 4, .int (-1), .ref (xa 1), .ref (xa 2), .ref (xa 3), .ref (xa 4), .ref (xa 5)])), ((xa 0), .inl (cy 0, 1600, .inl f231))] := hD
      refine lv_iinc (v := 1) (lv' := [(4, .int 1), (0, .ref hx0), (1, .long p0), (3, .int (nI 6))]) hx hb dX11_feed_67 hl (k := 0) rfl (by decide) (by decide) rfl (fun ls hl => ?_)
      refine lv_goto (tgt := 34) hx hb dX11_feed_70 (by decide) ?_
      refine lv_iload hx hb dX11_feed_34 (lv_at hl 0 rfl) ?_
      refine lv_if_lt (tgt := 73) hx hb dX11_feed_36 (by decide) (fun c9 => absurd c9 (by decide)) (fun _ => ?_)
      refine lv_aload_n hx hb dX11_feed_39 rfl (lv_at hl 1 rfl) ?_
      refine va_get (D := D) (ci := 11) (v := .ref (xa 0)) (C := RX11) (T := TX11) (N := 8) hx hb hT i_TX11 hown hK hP 0 rfl rfl 0 (by decide) (hT _ t_533) (fun _ h9 => h9) rfl dX11_feed_40 ?_
      refine lv_aload_n hx hb dX11_feed_43 rfl (lv_at hl 1 rfl) ?_
      refine va_get (D := D) (ci := 11) (v := .int 4) (C := RX11) (T := TX11) (N := 8) hx hb hT i_TX11 hown hK hP 0 rfl rfl 1 (by decide) (hT _ t_534) (fun _ h9 => h9) rfl dX11_feed_44 ?_
      refine lv_lload_n hx hb dX11_feed_47 rfl (lv_at hl 2 rfl) ?_
      refine lv_bipush (v := 8) hx hb dX11_feed_48 (by decide) ?_
      refine lv_iload hx hb dX11_feed_50 (lv_at hl 0 rfl) ?_
      refine lv_imul hx hb dX11_feed_52 ?_
      refine lv_topi (fun z234 e235 => ?_)
      obtain rfl : z234 = 8 := e235.trans (by first | decide | rfl)
      refine lv_lushr hx hb dX11_feed_53 rfl ?_
      refine lv_topl (fun z236 e237 => ?_)
      refine lv_l2i hx hb dX11_feed_54 rfl ?_
      refine lv_topi (fun z238 e239 => ?_)
      refine lv_i2b hx hb dX11_feed_55 rfl ?_
      refine lv_topi (fun z240 e241 => ?_)
      refine va_bast hx hb hK hP hD hS 1 0 rfl rfl (vp_in_iff.mpr (by decide)) dX11_feed_56 (fun H locs hP hD hS => ?_)
      have hP : va_P D vwCl [(hx0, .inr (11, [.ref (xa 0), .int 4, .int (-1), .ref (xa 1), .ref (xa 2), .ref (xa 3), .ref (xa 4), .ref (xa 5)])), ((xa 0), .inl (cy 0, 1600, .inl (upd f231 (4 : Int32).toNatClampNeg (vp_nar .byte z240))))] H := hP
      have hD : va_D A [(hx0, .inr (11, [.ref (xa 0), .int 4, .int (-1), .ref (xa 1), .ref (xa 2), .ref (xa 3), .ref (xa 4), .ref (xa 5)])), ((xa 0), .inl (cy 0, 1600, .inl (upd f231 (4 : Int32).toNatClampNeg (vp_nar .byte z240))))] := hD
      generalize hff242 : (upd f231 (4 : Int32).toNatClampNeg (vp_nar .byte z240)) = f242 at hP hD
      refine lv_aload_n hx hb dX11_feed_57 rfl (lv_at hl 1 rfl) ?_
      refine lv_dup hx hb dX11_feed_58 rfl ?_
      refine va_get (D := D) (ci := 11) (v := .int 4) (C := RX11) (T := TX11) (N := 8) hx hb hT i_TX11 hown hK hP 0 rfl rfl 1 (by decide) (hT _ t_534) (fun _ h9 => h9) rfl dX11_feed_59 ?_
      refine lv_iconst (v := 1) hx hb dX11_feed_62 (by decide) ?_
      refine lv_iadd hx hb dX11_feed_63 ?_
      refine lv_topi (fun z243 e244 => ?_)
      obtain rfl : z243 = 5 := e244.trans (by first | decide | rfl)
      refine va_put (D := D) (ci := 11) (v := .int 5) (ty := .int) (C := RX11) (T := TX11) (N := 8) hx hb hT i_TX11 tyX11 tyX11_ok nmX11 hown hK hP hD hS 0 rfl rfl 1 (by decide) (hT _ t_534) (fun _ h9 => h9) rfl (by decide +kernel) rfl rfl (Nat.le_of_ble_eq_true rfl) dX11_feed_64 (fun H locs hP hD hS => ?_)
      have hP : va_P D vwCl [(hx0, .inr (11, [.ref (xa 0), .int 5, .int (-1), .ref (xa 1), .ref (xa 2), .ref (xa 3), .ref (xa 4), .ref (xa 5)])), ((xa 0), .inl (cy 0, 1600, .inl f242))] H := hP
      have hD : va_D A [(hx0, .inr (11, [.ref (xa 0), .int 5, .int (-1), .ref (xa 1), .ref (xa 2), .ref (xa 3), .ref (xa 4), .ref (xa 5)])), ((xa 0), .inl (cy 0, 1600, .inl f242))] := hD
      refine lv_iinc (v := 0) (lv' := [(4, .int 0), (0, .ref hx0), (1, .long p0), (3, .int (nI 6))]) hx hb dX11_feed_67 hl (k := 0) rfl (by decide) (by decide) rfl (fun ls hl => ?_)
      refine lv_goto (tgt := 34) hx hb dX11_feed_70 (by decide) ?_
      refine lv_iload hx hb dX11_feed_34 (lv_at hl 0 rfl) ?_
      refine lv_if_lt (tgt := 73) hx hb dX11_feed_36 (by decide) (fun c9 => absurd c9 (by decide)) (fun _ => ?_)
      refine lv_aload_n hx hb dX11_feed_39 rfl (lv_at hl 1 rfl) ?_
      refine va_get (D := D) (ci := 11) (v := .ref (xa 0)) (C := RX11) (T := TX11) (N := 8) hx hb hT i_TX11 hown hK hP 0 rfl rfl 0 (by decide) (hT _ t_533) (fun _ h9 => h9) rfl dX11_feed_40 ?_
      refine lv_aload_n hx hb dX11_feed_43 rfl (lv_at hl 1 rfl) ?_
      refine va_get (D := D) (ci := 11) (v := .int 5) (C := RX11) (T := TX11) (N := 8) hx hb hT i_TX11 hown hK hP 0 rfl rfl 1 (by decide) (hT _ t_534) (fun _ h9 => h9) rfl dX11_feed_44 ?_
      refine lv_lload_n hx hb dX11_feed_47 rfl (lv_at hl 2 rfl) ?_
      refine lv_bipush (v := 8) hx hb dX11_feed_48 (by decide) ?_
      refine lv_iload hx hb dX11_feed_50 (lv_at hl 0 rfl) ?_
      refine lv_imul hx hb dX11_feed_52 ?_
      refine lv_topi (fun z245 e246 => ?_)
      obtain rfl : z245 = 0 := e246.trans (by first | decide | rfl)
      refine lv_lushr hx hb dX11_feed_53 rfl ?_
      refine lv_topl (fun z247 e248 => ?_)
      refine lv_l2i hx hb dX11_feed_54 rfl ?_
      refine lv_topi (fun z249 e250 => ?_)
      refine lv_i2b hx hb dX11_feed_55 rfl ?_
      refine lv_topi (fun z251 e252 => ?_)
      refine va_bast hx hb hK hP hD hS 1 0 rfl rfl (vp_in_iff.mpr (by decide)) dX11_feed_56 (fun H locs hP hD hS => ?_)
      have hP : va_P D vwCl [(hx0, .inr (11, [.ref (xa 0), .int 5, .int (-1), .ref (xa 1), .ref (xa 2), .ref (xa 3), .ref (xa 4), .ref (xa 5)])), ((xa 0), .inl (cy 0, 1600, .inl (upd f242 (5 : Int32).toNatClampNeg (vp_nar .byte z251))))] H := hP
      have hD : va_D A [(hx0, .inr (11, [.ref (xa 0), .int 5, .int (-1), .ref (xa 1), .ref (xa 2), .ref (xa 3), .ref (xa 4), .ref (xa 5)])), ((xa 0), .inl (cy 0, 1600, .inl (upd f242 (5 : Int32).toNatClampNeg (vp_nar .byte z251))))] := hD
      generalize hff253 : (upd f242 (5 : Int32).toNatClampNeg (vp_nar .byte z251)) = f253 at hP hD
      refine lv_aload_n hx hb dX11_feed_57 rfl (lv_at hl 1 rfl) ?_
      refine lv_dup hx hb dX11_feed_58 rfl ?_
      refine va_get (D := D) (ci := 11) (v := .int 5) (C := RX11) (T := TX11) (N := 8) hx hb hT i_TX11 hown hK hP 0 rfl rfl 1 (by decide) (hT _ t_534) (fun _ h9 => h9) rfl dX11_feed_59 ?_
      refine lv_iconst (v := 1) hx hb dX11_feed_62 (by decide) ?_
      refine lv_iadd hx hb dX11_feed_63 ?_
      refine lv_topi (fun z254 e255 => ?_)
      obtain rfl : z254 = 6 := e255.trans (by first | decide | rfl)
      refine va_put (D := D) (ci := 11) (v := .int 6) (ty := .int) (C := RX11) (T := TX11) (N := 8) hx hb hT i_TX11 tyX11 tyX11_ok nmX11 hown hK hP hD hS 0 rfl rfl 1 (by decide) (hT _ t_534) (fun _ h9 => h9) rfl (by decide +kernel) rfl rfl (Nat.le_of_ble_eq_true rfl) dX11_feed_64 (fun H locs hP hD hS => ?_)
      have hP : va_P D vwCl [(hx0, .inr (11, [.ref (xa 0), .int 6, .int (-1), .ref (xa 1), .ref (xa 2), .ref (xa 3), .ref (xa 4), .ref (xa 5)])), ((xa 0), .inl (cy 0, 1600, .inl f253))] H := hP
      have hD : va_D A [(hx0, .inr (11, [.ref (xa 0), .int 6, .int (-1), .ref (xa 1), .ref (xa 2), .ref (xa 3), .ref (xa 4), .ref (xa 5)])), ((xa 0), .inl (cy 0, 1600, .inl f253))] := hD
      refine lv_iinc (v := (-1)) (lv' := [(4, .int (-1)), (0, .ref hx0), (1, .long p0), (3, .int (nI 6))]) hx hb dX11_feed_67 hl (k := 0) rfl (by decide) (by decide) rfl (fun ls hl => ?_)
      refine lv_goto (tgt := 34) hx hb dX11_feed_70 (by decide) ?_
      refine lv_iload hx hb dX11_feed_34 (lv_at hl 0 rfl) ?_
      refine lv_if_lt (tgt := 73) hx hb dX11_feed_36 (by decide) (fun _ => ?_) (fun c9 => absurd (by decide) c9)
      refine lv_aload_n hx hb dX11_feed_73 rfl (lv_at hl 1 rfl) ?_
      refine va_get (D := D) (ci := 11) (v := .int 6) (C := RX11) (T := TX11) (N := 8) hx hb hT i_TX11 hown hK hP 0 rfl rfl 1 (by decide) (hT _ t_534) (fun _ h9 => h9) rfl dX11_feed_74 ?_
      have hP9 := hP.sub (ws' := []) [] rfl
      have hD9 := hD.sub (ws' := []) [] (by decide) rfl
      refine W.widen (k := 0) (n := 0) (Nat.le_of_ble_eq_true rfl) (Nat.le_of_ble_eq_true rfl) ?_
      exact W.iret (v := 6) hx hb hr (fun t ht hW => ⟨⟨6, (), rfl, (by decide), by rw [ht]; exact hP9, hD9⟩, hS.F ht⟩) hS.2.2 dX11_feed_77
    · refine lv_iload_n hx hb dX11_feed_0 rfl (lv_at hl 2 rfl) ?_
      refine lv_iconst (v := 1) hx hb dX11_feed_1 (by decide) ?_
      refine lv_icmp_lt (tgt := 11) hx hb dX11_feed_2 (by decide) (fun c9 => absurd c9 (by decide)) (fun _ => ?_)
      refine lv_iload_n hx hb dX11_feed_5 rfl (lv_at hl 2 rfl) ?_
      refine lv_bipush (v := 8) hx hb dX11_feed_6 (by decide) ?_
      refine lv_icmp_le (tgt := 14) hx hb dX11_feed_8 (by decide) (fun _ => ?_) (fun c9 => absurd (by decide) c9)
      refine lv_aload_n hx hb dX11_feed_14 rfl (lv_at hl 0 rfl) ?_
      refine va_get (D := D) (ci := 11) (v := .int 0) (C := RX11) (T := TX11) (N := 8) hx hb hT i_TX11 hown hK hP 0 rfl rfl 1 (by decide) (hT _ t_534) (fun _ h9 => h9) rfl dX11_feed_15 ?_
      refine lv_iload_n hx hb dX11_feed_18 rfl (lv_at hl 2 rfl) ?_
      refine lv_iadd hx hb dX11_feed_19 ?_
      refine lv_topi (fun z256 e257 => ?_)
      obtain rfl : z256 = 7 := e257.trans (by first | decide | rfl)
      refine lv_sipush (v := 1600) hx hb dX11_feed_20 (by decide) ?_
      refine lv_icmp_le (tgt := 29) hx hb dX11_feed_23 (by decide) (fun _ => ?_) (fun c9 => absurd (by decide) c9)
      refine lv_iload_n hx hb dX11_feed_29 rfl (lv_at hl 2 rfl) ?_
      refine lv_iconst (v := 1) hx hb dX11_feed_30 (by decide) ?_
      refine lv_isub hx hb dX11_feed_31 ?_
      refine lv_topi (fun z258 e259 => ?_)
      obtain rfl : z258 = 6 := e259.trans (by first | decide | rfl)
      refine lv_istore (lv' := [(4, .int 6), (0, .ref hx0), (1, .long p0), (3, .int (nI 7))]) hx hb dX11_feed_32 hl (by decide) rfl (fun ls hl => ?_)
      refine lv_iload hx hb dX11_feed_34 (lv_at hl 0 rfl) ?_
      refine lv_if_lt (tgt := 73) hx hb dX11_feed_36 (by decide) (fun c9 => absurd c9 (by decide)) (fun _ => ?_)
      refine lv_aload_n hx hb dX11_feed_39 rfl (lv_at hl 1 rfl) ?_
      refine va_get (D := D) (ci := 11) (v := .ref (xa 0)) (C := RX11) (T := TX11) (N := 8) hx hb hT i_TX11 hown hK hP 0 rfl rfl 0 (by decide) (hT _ t_533) (fun _ h9 => h9) rfl dX11_feed_40 ?_
      refine lv_aload_n hx hb dX11_feed_43 rfl (lv_at hl 1 rfl) ?_
      refine va_get (D := D) (ci := 11) (v := .int 0) (C := RX11) (T := TX11) (N := 8) hx hb hT i_TX11 hown hK hP 0 rfl rfl 1 (by decide) (hT _ t_534) (fun _ h9 => h9) rfl dX11_feed_44 ?_
      refine lv_lload_n hx hb dX11_feed_47 rfl (lv_at hl 2 rfl) ?_
      refine lv_bipush (v := 8) hx hb dX11_feed_48 (by decide) ?_
      refine lv_iload hx hb dX11_feed_50 (lv_at hl 0 rfl) ?_
      refine lv_imul hx hb dX11_feed_52 ?_
      refine lv_topi (fun z260 e261 => ?_)
      obtain rfl : z260 = 48 := e261.trans (by first | decide | rfl)
      refine lv_lushr hx hb dX11_feed_53 rfl ?_
      refine lv_topl (fun z262 e263 => ?_)
      refine lv_l2i hx hb dX11_feed_54 rfl ?_
      refine lv_topi (fun z264 e265 => ?_)
      refine lv_i2b hx hb dX11_feed_55 rfl ?_
      refine lv_topi (fun z266 e267 => ?_)
      refine va_bast hx hb hK hP hD hS 1 0 rfl rfl (vp_in_iff.mpr (by decide)) dX11_feed_56 (fun H locs hP hD hS => ?_)
      have hP : va_P D vwCl [(hx0, .inr (11, [.ref (xa 0), .int 0, .int (-1), .ref (xa 1), .ref (xa 2), .ref (xa 3), .ref (xa 4), .ref (xa 5)])), ((xa 0), .inl (cy 0, 1600, .inl (upd (fun _ => 0) (0 : Int32).toNatClampNeg (vp_nar .byte z266))))] H := hP
      have hD : va_D A [(hx0, .inr (11, [.ref (xa 0), .int 0, .int (-1), .ref (xa 1), .ref (xa 2), .ref (xa 3), .ref (xa 4), .ref (xa 5)])), ((xa 0), .inl (cy 0, 1600, .inl (upd (fun _ => 0) (0 : Int32).toNatClampNeg (vp_nar .byte z266))))] := hD
      generalize hff268 : (upd (fun _ => 0) (0 : Int32).toNatClampNeg (vp_nar .byte z266)) = f268 at hP hD
      refine lv_aload_n hx hb dX11_feed_57 rfl (lv_at hl 1 rfl) ?_
      refine lv_dup hx hb dX11_feed_58 rfl ?_
      refine va_get (D := D) (ci := 11) (v := .int 0) (C := RX11) (T := TX11) (N := 8) hx hb hT i_TX11 hown hK hP 0 rfl rfl 1 (by decide) (hT _ t_534) (fun _ h9 => h9) rfl dX11_feed_59 ?_
      refine lv_iconst (v := 1) hx hb dX11_feed_62 (by decide) ?_
      refine lv_iadd hx hb dX11_feed_63 ?_
      refine lv_topi (fun z269 e270 => ?_)
      obtain rfl : z269 = 1 := e270.trans (by first | decide | rfl)
      refine va_put (D := D) (ci := 11) (v := .int 1) (ty := .int) (C := RX11) (T := TX11) (N := 8) hx hb hT i_TX11 tyX11 tyX11_ok nmX11 hown hK hP hD hS 0 rfl rfl 1 (by decide) (hT _ t_534) (fun _ h9 => h9) rfl (by decide +kernel) rfl rfl (Nat.le_of_ble_eq_true rfl) dX11_feed_64 (fun H locs hP hD hS => ?_)
      have hP : va_P D vwCl [(hx0, .inr (11, [.ref (xa 0), .int 1, .int (-1), .ref (xa 1), .ref (xa 2), .ref (xa 3), .ref (xa 4), .ref (xa 5)])), ((xa 0), .inl (cy 0, 1600, .inl f268))] H := hP
      have hD : va_D A [(hx0, .inr (11, [.ref (xa 0), .int 1, .int (-1), .ref (xa 1), .ref (xa 2), .ref (xa 3), .ref (xa 4), .ref (xa 5)])), ((xa 0), .inl (cy 0, 1600, .inl f268))] := hD
      refine lv_iinc (v := 5) (lv' := [(4, .int 5), (0, .ref hx0), (1, .long p0), (3, .int (nI 7))]) hx hb dX11_feed_67 hl (k := 0) rfl (by decide) (by decide) rfl (fun ls hl => ?_)
      refine lv_goto (tgt := 34) hx hb dX11_feed_70 (by decide) ?_
      refine lv_iload hx hb dX11_feed_34 (lv_at hl 0 rfl) ?_
      refine lv_if_lt (tgt := 73) hx hb dX11_feed_36 (by decide) (fun c9 => absurd c9 (by decide)) (fun _ => ?_)
      refine lv_aload_n hx hb dX11_feed_39 rfl (lv_at hl 1 rfl) ?_
      refine va_get (D := D) (ci := 11) (v := .ref (xa 0)) (C := RX11) (T := TX11) (N := 8) hx hb hT i_TX11 hown hK hP 0 rfl rfl 0 (by decide) (hT _ t_533) (fun _ h9 => h9) rfl dX11_feed_40 ?_
      refine lv_aload_n hx hb dX11_feed_43 rfl (lv_at hl 1 rfl) ?_
      refine va_get (D := D) (ci := 11) (v := .int 1) (C := RX11) (T := TX11) (N := 8) hx hb hT i_TX11 hown hK hP 0 rfl rfl 1 (by decide) (hT _ t_534) (fun _ h9 => h9) rfl dX11_feed_44 ?_
      refine lv_lload_n hx hb dX11_feed_47 rfl (lv_at hl 2 rfl) ?_
      refine lv_bipush (v := 8) hx hb dX11_feed_48 (by decide) ?_
      refine lv_iload hx hb dX11_feed_50 (lv_at hl 0 rfl) ?_
      refine lv_imul hx hb dX11_feed_52 ?_
      refine lv_topi (fun z271 e272 => ?_)
      obtain rfl : z271 = 40 := e272.trans (by first | decide | rfl)
      refine lv_lushr hx hb dX11_feed_53 rfl ?_
      refine lv_topl (fun z273 e274 => ?_)
      refine lv_l2i hx hb dX11_feed_54 rfl ?_
      refine lv_topi (fun z275 e276 => ?_)
      refine lv_i2b hx hb dX11_feed_55 rfl ?_
      refine lv_topi (fun z277 e278 => ?_)
      refine va_bast hx hb hK hP hD hS 1 0 rfl rfl (vp_in_iff.mpr (by decide)) dX11_feed_56 (fun H locs hP hD hS => ?_)
      have hP : va_P D vwCl [(hx0, .inr (11, [.ref (xa 0), .int 1, .int (-1), .ref (xa 1), .ref (xa 2), .ref (xa 3), .ref (xa 4), .ref (xa 5)])), ((xa 0), .inl (cy 0, 1600, .inl (upd f268 (1 : Int32).toNatClampNeg (vp_nar .byte z277))))] H := hP
      have hD : va_D A [(hx0, .inr (11, [.ref (xa 0), .int 1, .int (-1), .ref (xa 1), .ref (xa 2), .ref (xa 3), .ref (xa 4), .ref (xa 5)])), ((xa 0), .inl (cy 0, 1600, .inl (upd f268 (1 : Int32).toNatClampNeg (vp_nar .byte z277))))] := hD
      generalize hff279 : (upd f268 (1 : Int32).toNatClampNeg (vp_nar .byte z277)) = f279 at hP hD
      refine lv_aload_n hx hb dX11_feed_57 rfl (lv_at hl 1 rfl) ?_
      refine lv_dup hx hb dX11_feed_58 rfl ?_
      refine va_get (D := D) (ci := 11) (v := .int 1) (C := RX11) (T := TX11) (N := 8) hx hb hT i_TX11 hown hK hP 0 rfl rfl 1 (by decide) (hT _ t_534) (fun _ h9 => h9) rfl dX11_feed_59 ?_
      refine lv_iconst (v := 1) hx hb dX11_feed_62 (by decide) ?_
      refine lv_iadd hx hb dX11_feed_63 ?_
      refine lv_topi (fun z280 e281 => ?_)
      obtain rfl : z280 = 2 := e281.trans (by first | decide | rfl)
      refine va_put (D := D) (ci := 11) (v := .int 2) (ty := .int) (C := RX11) (T := TX11) (N := 8) hx hb hT i_TX11 tyX11 tyX11_ok nmX11 hown hK hP hD hS 0 rfl rfl 1 (by decide) (hT _ t_534) (fun _ h9 => h9) rfl (by decide +kernel) rfl rfl (Nat.le_of_ble_eq_true rfl) dX11_feed_64 (fun H locs hP hD hS => ?_)
      have hP : va_P D vwCl [(hx0, .inr (11, [.ref (xa 0), .int 2, .int (-1), .ref (xa 1), .ref (xa 2), .ref (xa 3), .ref (xa 4), .ref (xa 5)])), ((xa 0), .inl (cy 0, 1600, .inl f279))] H := hP
      have hD : va_D A [(hx0, .inr (11, [.ref (xa 0), .int 2, .int (-1), .ref (xa 1), .ref (xa 2), .ref (xa 3), .ref (xa 4), .ref (xa 5)])), ((xa 0), .inl (cy 0, 1600, .inl f279))] := hD
      refine lv_iinc (v := 4) (lv' := [(4, .int 4), (0, .ref hx0), (1, .long p0), (3, .int (nI 7))]) hx hb dX11_feed_67 hl (k := 0) rfl (by decide) (by decide) rfl (fun ls hl => ?_)
      refine lv_goto (tgt := 34) hx hb dX11_feed_70 (by decide) ?_
      refine lv_iload hx hb dX11_feed_34 (lv_at hl 0 rfl) ?_
      refine lv_if_lt (tgt := 73) hx hb dX11_feed_36 (by decide) (fun c9 => absurd c9 (by decide)) (fun _ => ?_)
      refine lv_aload_n hx hb dX11_feed_39 rfl (lv_at hl 1 rfl) ?_
      refine va_get (D := D) (ci := 11) (v := .ref (xa 0)) (C := RX11) (T := TX11) (N := 8) hx hb hT i_TX11 hown hK hP 0 rfl rfl 0 (by decide) (hT _ t_533) (fun _ h9 => h9) rfl dX11_feed_40 ?_
      refine lv_aload_n hx hb dX11_feed_43 rfl (lv_at hl 1 rfl) ?_
      refine va_get (D := D) (ci := 11) (v := .int 2) (C := RX11) (T := TX11) (N := 8) hx hb hT i_TX11 hown hK hP 0 rfl rfl 1 (by decide) (hT _ t_534) (fun _ h9 => h9) rfl dX11_feed_44 ?_
      refine lv_lload_n hx hb dX11_feed_47 rfl (lv_at hl 2 rfl) ?_
      refine lv_bipush (v := 8) hx hb dX11_feed_48 (by decide) ?_
      refine lv_iload hx hb dX11_feed_50 (lv_at hl 0 rfl) ?_
      refine lv_imul hx hb dX11_feed_52 ?_
      refine lv_topi (fun z282 e283 => ?_)
      obtain rfl : z282 = 32 := e283.trans (by first | decide | rfl)
      refine lv_lushr hx hb dX11_feed_53 rfl ?_
      refine lv_topl (fun z284 e285 => ?_)
      refine lv_l2i hx hb dX11_feed_54 rfl ?_
      refine lv_topi (fun z286 e287 => ?_)
      refine lv_i2b hx hb dX11_feed_55 rfl ?_
      refine lv_topi (fun z288 e289 => ?_)
      refine va_bast hx hb hK hP hD hS 1 0 rfl rfl (vp_in_iff.mpr (by decide)) dX11_feed_56 (fun H locs hP hD hS => ?_)
      have hP : va_P D vwCl [(hx0, .inr (11, [.ref (xa 0), .int 2, .int (-1), .ref (xa 1), .ref (xa 2), .ref (xa 3), .ref (xa 4), .ref (xa 5)])), ((xa 0), .inl (cy 0, 1600, .inl (upd f279 (2 : Int32).toNatClampNeg (vp_nar .byte z288))))] H := hP
      have hD : va_D A [(hx0, .inr (11, [.ref (xa 0), .int 2, .int (-1), .ref (xa 1), .ref (xa 2), .ref (xa 3), .ref (xa 4), .ref (xa 5)])), ((xa 0), .inl (cy 0, 1600, .inl (upd f279 (2 : Int32).toNatClampNeg (vp_nar .byte z288))))] := hD
      generalize hff290 : (upd f279 (2 : Int32).toNatClampNeg (vp_nar .byte z288)) = f290 at hP hD
      refine lv_aload_n hx hb dX11_feed_57 rfl (lv_at hl 1 rfl) ?_
      refine lv_dup hx hb dX11_feed_58 rfl ?_
      refine va_get (D := D) (ci := 11) (v := .int 2) (C := RX11) (T := TX11) (N := 8) hx hb hT i_TX11 hown hK hP 0 rfl rfl 1 (by decide) (hT _ t_534) (fun _ h9 => h9) rfl dX11_feed_59 ?_
      refine lv_iconst (v := 1) hx hb dX11_feed_62 (by decide) ?_
      refine lv_iadd hx hb dX11_feed_63 ?_
      refine lv_topi (fun z291 e292 => ?_)
      obtain rfl : z291 = 3 := e292.trans (by first | decide | rfl)
      refine va_put (D := D) (ci := 11) (v := .int 3) (ty := .int) (C := RX11) (T := TX11) (N := 8) hx hb hT i_TX11 tyX11 tyX11_ok nmX11 hown hK hP hD hS 0 rfl rfl 1 (by decide) (hT _ t_534) (fun _ h9 => h9) rfl (by decide +kernel) rfl rfl (Nat.le_of_ble_eq_true rfl) dX11_feed_64 (fun H locs hP hD hS => ?_)
      have hP : va_P D vwCl [(hx0, .inr (11, [.ref (xa 0), .int 3, .int (-1), .ref (xa 1), .ref (xa 2), .ref (xa 3), .ref (xa 4), .ref (xa 5)])), ((xa 0), .inl (cy 0, 1600, .inl f290))] H := hP
      have hD : va_D A [(hx0, .inr (11, [.ref (xa 0), .int 3, .int (-1), .ref (xa 1), .ref (xa 2), .ref (xa 3), .ref (xa 4), .ref (xa 5)])), ((xa 0), .inl (cy 0, 1600, .inl f290))] := hD
      refine lv_iinc (v := 3) (lv' := [(4, .int 3), (0, .ref hx0), (1, .long p0), (3, .int (nI 7))]) hx hb dX11_feed_67 hl (k := 0) rfl (by decide) (by decide) rfl (fun ls hl => ?_)
      refine lv_goto (tgt := 34) hx hb dX11_feed_70 (by decide) ?_
      refine lv_iload hx hb dX11_feed_34 (lv_at hl 0 rfl) ?_
      refine lv_if_lt (tgt := 73) hx hb dX11_feed_36 (by decide) (fun c9 => absurd c9 (by decide)) (fun _ => ?_)
      refine lv_aload_n hx hb dX11_feed_39 rfl (lv_at hl 1 rfl) ?_
      refine va_get (D := D) (ci := 11) (v := .ref (xa 0)) (C := RX11) (T := TX11) (N := 8) hx hb hT i_TX11 hown hK hP 0 rfl rfl 0 (by decide) (hT _ t_533) (fun _ h9 => h9) rfl dX11_feed_40 ?_
      refine lv_aload_n hx hb dX11_feed_43 rfl (lv_at hl 1 rfl) ?_
      refine va_get (D := D) (ci := 11) (v := .int 3) (C := RX11) (T := TX11) (N := 8) hx hb hT i_TX11 hown hK hP 0 rfl rfl 1 (by decide) (hT _ t_534) (fun _ h9 => h9) rfl dX11_feed_44 ?_
      refine lv_lload_n hx hb dX11_feed_47 rfl (lv_at hl 2 rfl) ?_
      refine lv_bipush (v := 8) hx hb dX11_feed_48 (by decide) ?_
      refine lv_iload hx hb dX11_feed_50 (lv_at hl 0 rfl) ?_
      refine lv_imul hx hb dX11_feed_52 ?_
      refine lv_topi (fun z293 e294 => ?_)
      obtain rfl : z293 = 24 := e294.trans (by first | decide | rfl)
      refine lv_lushr hx hb dX11_feed_53 rfl ?_
      refine lv_topl (fun z295 e296 => ?_)
      refine lv_l2i hx hb dX11_feed_54 rfl ?_
      refine lv_topi (fun z297 e298 => ?_)
      refine lv_i2b hx hb dX11_feed_55 rfl ?_
      refine lv_topi (fun z299 e300 => ?_)
      refine va_bast hx hb hK hP hD hS 1 0 rfl rfl (vp_in_iff.mpr (by decide)) dX11_feed_56 (fun H locs hP hD hS => ?_)
      have hP : va_P D vwCl [(hx0, .inr (11, [.ref (xa 0), .int 3, .int (-1), .ref (xa 1), .ref (xa 2), .ref (xa 3), .ref (xa 4), .ref (xa 5)])), ((xa 0), .inl (cy 0, 1600, .inl (upd f290 (3 : Int32).toNatClampNeg (vp_nar .byte z299))))] H := hP
      have hD : va_D A [(hx0, .inr (11, [.ref (xa 0), .int 3, .int (-1), .ref (xa 1), .ref (xa 2), .ref (xa 3), .ref (xa 4), .ref (xa 5)])), ((xa 0), .inl (cy 0, 1600, .inl (upd f290 (3 : Int32).toNatClampNeg (vp_nar .byte z299))))] := hD
      generalize hff301 : (upd f290 (3 : Int32).toNatClampNeg (vp_nar .byte z299)) = f301 at hP hD
      refine lv_aload_n hx hb dX11_feed_57 rfl (lv_at hl 1 rfl) ?_
      refine lv_dup hx hb dX11_feed_58 rfl ?_
      refine va_get (D := D) (ci := 11) (v := .int 3) (C := RX11) (T := TX11) (N := 8) hx hb hT i_TX11 hown hK hP 0 rfl rfl 1 (by decide) (hT _ t_534) (fun _ h9 => h9) rfl dX11_feed_59 ?_
      refine lv_iconst (v := 1) hx hb dX11_feed_62 (by decide) ?_
      refine lv_iadd hx hb dX11_feed_63 ?_
      refine lv_topi (fun z302 e303 => ?_)
      obtain rfl : z302 = 4 := e303.trans (by first | decide | rfl)
      refine va_put (D := D) (ci := 11) (v := .int 4) (ty := .int) (C := RX11) (T := TX11) (N := 8) hx hb hT i_TX11 tyX11 tyX11_ok nmX11 hown hK hP hD hS 0 rfl rfl 1 (by decide) (hT _ t_534) (fun _ h9 => h9) rfl (by decide +kernel) rfl rfl (Nat.le_of_ble_eq_true rfl) dX11_feed_64 (fun H locs hP hD hS => ?_)
      have hP : va_P D vwCl [(hx0, .inr (11, [.ref (xa 0), .int 4, .int (-1), .ref (xa 1), .ref (xa 2), .ref (xa 3), .ref (xa 4), .ref (xa 5)])), ((xa 0), .inl (cy 0, 1600, .inl f301))] H := hP
      have hD : va_D A [(hx0, .inr (11, [.ref (xa 0), .int 4, .int (-1), .ref (xa 1), .ref (xa 2), .ref (xa 3), .ref (xa 4), .ref (xa 5)])), ((xa 0), .inl (cy 0, 1600, .inl f301))] := hD
      refine lv_iinc (v := 2) (lv' := [(4, .int 2), (0, .ref hx0), (1, .long p0), (3, .int (nI 7))]) hx hb dX11_feed_67 hl (k := 0) rfl (by decide) (by decide) rfl (fun ls hl => ?_)
      refine lv_goto (tgt := 34) hx hb dX11_feed_70 (by decide) ?_
      refine lv_iload hx hb dX11_feed_34 (lv_at hl 0 rfl) ?_
      refine lv_if_lt (tgt := 73) hx hb dX11_feed_36 (by decide) (fun c9 => absurd c9 (by decide)) (fun _ => ?_)
      refine lv_aload_n hx hb dX11_feed_39 rfl (lv_at hl 1 rfl) ?_
      refine va_get (D := D) (ci := 11) (v := .ref (xa 0)) (C := RX11) (T := TX11) (N := 8) hx hb hT i_TX11 hown hK hP 0 rfl rfl 0 (by decide) (hT _ t_533) (fun _ h9 => h9) rfl dX11_feed_40 ?_
      refine lv_aload_n hx hb dX11_feed_43 rfl (lv_at hl 1 rfl) ?_
      refine va_get (D := D) (ci := 11) (v := .int 4) (C := RX11) (T := TX11) (N := 8) hx hb hT i_TX11 hown hK hP 0 rfl rfl 1 (by decide) (hT _ t_534) (fun _ h9 => h9) rfl dX11_feed_44 ?_
      refine lv_lload_n hx hb dX11_feed_47 rfl (lv_at hl 2 rfl) ?_
      refine lv_bipush (v := 8) hx hb dX11_feed_48 (by decide) ?_
      refine lv_iload hx hb dX11_feed_50 (lv_at hl 0 rfl) ?_
      refine lv_imul hx hb dX11_feed_52 ?_
      refine lv_topi (fun z304 e305 => ?_)
      obtain rfl : z304 = 16 := e305.trans (by first | decide | rfl)
      refine lv_lushr hx hb dX11_feed_53 rfl ?_
      refine lv_topl (fun z306 e307 => ?_)
      refine lv_l2i hx hb dX11_feed_54 rfl ?_
      refine lv_topi (fun z308 e309 => ?_)
      refine lv_i2b hx hb dX11_feed_55 rfl ?_
      refine lv_topi (fun z310 e311 => ?_)
      refine va_bast hx hb hK hP hD hS 1 0 rfl rfl (vp_in_iff.mpr (by decide)) dX11_feed_56 (fun H locs hP hD hS => ?_)
      have hP : va_P D vwCl [(hx0, .inr (11, [.ref (xa 0), .int 4, .int (-1), .ref (xa 1), .ref (xa 2), .ref (xa 3), .ref (xa 4), .ref (xa 5)])), ((xa 0), .inl (cy 0, 1600, .inl (upd f301 (4 : Int32).toNatClampNeg (vp_nar .byte z310))))] H := hP
      have hD : va_D A [(hx0, .inr (11, [.ref (xa 0), .int 4, .int (-1), .ref (xa 1), .ref (xa 2), .ref (xa 3), .ref (xa 4), .ref (xa 5)])), ((xa 0), .inl (cy 0, 1600, .inl (upd f301 (4 : Int32).toNatClampNeg (vp_nar .byte z310))))] := hD
      generalize hff312 : (upd f301 (4 : Int32).toNatClampNeg (vp_nar .byte z310)) = f312 at hP hD
      refine lv_aload_n hx hb dX11_feed_57 rfl (lv_at hl 1 rfl) ?_
      refine lv_dup hx hb dX11_feed_58 rfl ?_
      refine va_get (D := D) (ci := 11) (v := .int 4) (C := RX11) (T := TX11) (N := 8) hx hb hT i_TX11 hown hK hP 0 rfl rfl 1 (by decide) (hT _ t_534) (fun _ h9 => h9) rfl dX11_feed_59 ?_
      refine lv_iconst (v := 1) hx hb dX11_feed_62 (by decide) ?_
      refine lv_iadd hx hb dX11_feed_63 ?_
      refine lv_topi (fun z313 e314 => ?_)
      obtain rfl : z313 = 5 := e314.trans (by first | decide | rfl)
      refine va_put (D := D) (ci := 11) (v := .int 5) (ty := .int) (C := RX11) (T := TX11) (N := 8) hx hb hT i_TX11 tyX11 tyX11_ok nmX11 hown hK hP hD hS 0 rfl rfl 1 (by decide) (hT _ t_534) (fun _ h9 => h9) rfl (by decide +kernel) rfl rfl (Nat.le_of_ble_eq_true rfl) dX11_feed_64 (fun H locs hP hD hS => ?_)
      have hP : va_P D vwCl [(hx0, .inr (11, [.ref (xa 0), .int 5, .int (-1), .ref (xa 1), .ref (xa 2), .ref (xa 3), .ref (xa 4), .ref (xa 5)])), ((xa 0), .inl (cy 0, 1600, .inl f312))] H := hP
      have hD : va_D A [(hx0, .inr (11, [.ref (xa 0), .int 5, .int (-1), .ref (xa 1), .ref (xa 2), .ref (xa 3), .ref (xa 4), .ref (xa 5)])), ((xa 0), .inl (cy 0, 1600, .inl f312))] := hD
      refine lv_iinc (v := 1) (lv' := [(4, .int 1), (0, .ref hx0), (1, .long p0), (3, .int (nI 7))]) hx hb dX11_feed_67 hl (k := 0) rfl (by decide) (by decide) rfl (fun ls hl => ?_)
      refine lv_goto (tgt := 34) hx hb dX11_feed_70 (by decide) ?_
      refine lv_iload hx hb dX11_feed_34 (lv_at hl 0 rfl) ?_
      refine lv_if_lt (tgt := 73) hx hb dX11_feed_36 (by decide) (fun c9 => absurd c9 (by decide)) (fun _ => ?_)
      refine lv_aload_n hx hb dX11_feed_39 rfl (lv_at hl 1 rfl) ?_
      refine va_get (D := D) (ci := 11) (v := .ref (xa 0)) (C := RX11) (T := TX11) (N := 8) hx hb hT i_TX11 hown hK hP 0 rfl rfl 0 (by decide) (hT _ t_533) (fun _ h9 => h9) rfl dX11_feed_40 ?_
      refine lv_aload_n hx hb dX11_feed_43 rfl (lv_at hl 1 rfl) ?_
      refine va_get (D := D) (ci := 11) (v := .int 5) (C := RX11) (T := TX11) (N := 8) hx hb hT i_TX11 hown hK hP 0 rfl rfl 1 (by decide) (hT _ t_534) (fun _ h9 => h9) rfl dX11_feed_44 ?_
      refine lv_lload_n hx hb dX11_feed_47 rfl (lv_at hl 2 rfl) ?_
      refine lv_bipush (v := 8) hx hb dX11_feed_48 (by decide) ?_
      refine lv_iload hx hb dX11_feed_50 (lv_at hl 0 rfl) ?_
      refine lv_imul hx hb dX11_feed_52 ?_
      refine lv_topi (fun z315 e316 => ?_)
      obtain rfl : z315 = 8 := e316.trans (by first | decide | rfl)
      refine lv_lushr hx hb dX11_feed_53 rfl ?_
      refine lv_topl (fun z317 e318 => ?_)
      refine lv_l2i hx hb dX11_feed_54 rfl ?_
      refine lv_topi (fun z319 e320 => ?_)
      refine lv_i2b hx hb dX11_feed_55 rfl ?_
      refine lv_topi (fun z321 e322 => ?_)
      refine va_bast hx hb hK hP hD hS 1 0 rfl rfl (vp_in_iff.mpr (by decide)) dX11_feed_56 (fun H locs hP hD hS => ?_)
      have hP : va_P D vwCl [(hx0, .inr (11, [.ref (xa 0), .int 5, .int (-1), .ref (xa 1), .ref (xa 2), .ref (xa 3), .ref (xa 4), .ref (xa 5)])), ((xa 0), .inl (cy 0, 1600, .inl (upd f312 (5 : Int32).toNatClampNeg (vp_nar .byte z321))))] H := hP
      have hD : va_D A [(hx0, .inr (11, [.ref (xa 0), .int 5, .int (-1), .ref (xa 1), .ref (xa 2), .ref (xa 3), .ref (xa 4), .ref (xa 5)])), ((xa 0), .inl (cy 0, 1600, .inl (upd f312 (5 : Int32).toNatClampNeg (vp_nar .byte z321))))] := hD
      generalize hff323 : (upd f312 (5 : Int32).toNatClampNeg (vp_nar .byte z321)) = f323 at hP hD
      refine lv_aload_n hx hb dX11_feed_57 rfl (lv_at hl 1 rfl) ?_
      refine lv_dup hx hb dX11_feed_58 rfl ?_
      refine va_get (D := D) (ci := 11) (v := .int 5) (C := RX11) (T := TX11) (N := 8) hx hb hT i_TX11 hown hK hP 0 rfl rfl 1 (by decide) (hT _ t_534) (fun _ h9 => h9) rfl dX11_feed_59 ?_
      refine lv_iconst (v := 1) hx hb dX11_feed_62 (by decide) ?_
      refine lv_iadd hx hb dX11_feed_63 ?_
      refine lv_topi (fun z324 e325 => ?_)
      obtain rfl : z324 = 6 := e325.trans (by first | decide | rfl)
      refine va_put (D := D) (ci := 11) (v := .int 6) (ty := .int) (C := RX11) (T := TX11) (N := 8) hx hb hT i_TX11 tyX11 tyX11_ok nmX11 hown hK hP hD hS 0 rfl rfl 1 (by decide) (hT _ t_534) (fun _ h9 => h9) rfl (by decide +kernel) rfl rfl (Nat.le_of_ble_eq_true rfl) dX11_feed_64 (fun H locs hP hD hS => ?_)
      have hP : va_P D vwCl [(hx0, .inr (11, [.ref (xa 0), .int 6, .int (-1), .ref (xa 1), .ref (xa 2), .ref (xa 3), .ref (xa 4), .ref (xa 5)])), ((xa 0), .inl (cy 0, 1600, .inl f323))] H := hP
      have hD : va_D A [(hx0, .inr (11, [.ref (xa 0), .int 6, .int (-1), .ref (xa 1), .ref (xa 2), .ref (xa 3), .ref (xa 4), .ref (xa 5)])), ((xa 0), .inl (cy 0, 1600, .inl f323))] := hD
      refine lv_iinc (v := 0) (lv' := [(4, .int 0), (0, .ref hx0), (1, .long p0), (3, .int (nI 7))]) hx hb dX11_feed_67 hl (k := 0) rfl (by decide) (by decide) rfl (fun ls hl => ?_)
      refine lv_goto (tgt := 34) hx hb dX11_feed_70 (by decide) ?_
      refine lv_iload hx hb dX11_feed_34 (lv_at hl 0 rfl) ?_
      refine lv_if_lt (tgt := 73) hx hb dX11_feed_36 (by decide) (fun c9 => absurd c9 (by decide)) (fun _ => ?_)
      refine lv_aload_n hx hb dX11_feed_39 rfl (lv_at hl 1 rfl) ?_
      refine va_get (D := D) (ci := 11) (v := .ref (xa 0)) (C := RX11) (T := TX11) (N := 8) hx hb hT i_TX11 hown hK hP 0 rfl rfl 0 (by decide) (hT _ t_533) (fun _ h9 => h9) rfl dX11_feed_40 ?_
      refine lv_aload_n hx hb dX11_feed_43 rfl (lv_at hl 1 rfl) ?_
      refine va_get (D := D) (ci := 11) (v := .int 6) (C := RX11) (T := TX11) (N := 8) hx hb hT i_TX11 hown hK hP 0 rfl rfl 1 (by decide) (hT _ t_534) (fun _ h9 => h9) rfl dX11_feed_44 ?_
      refine lv_lload_n hx hb dX11_feed_47 rfl (lv_at hl 2 rfl) ?_
      refine lv_bipush (v := 8) hx hb dX11_feed_48 (by decide) ?_
      refine lv_iload hx hb dX11_feed_50 (lv_at hl 0 rfl) ?_
      refine lv_imul hx hb dX11_feed_52 ?_
      refine lv_topi (fun z326 e327 => ?_)
      obtain rfl : z326 = 0 := e327.trans (by first | decide | rfl)
      refine lv_lushr hx hb dX11_feed_53 rfl ?_
      refine lv_topl (fun z328 e329 => ?_)
      refine lv_l2i hx hb dX11_feed_54 rfl ?_
      refine lv_topi (fun z330 e331 => ?_)
      refine lv_i2b hx hb dX11_feed_55 rfl ?_
      refine lv_topi (fun z332 e333 => ?_)
      refine va_bast hx hb hK hP hD hS 1 0 rfl rfl (vp_in_iff.mpr (by decide)) dX11_feed_56 (fun H locs hP hD hS => ?_)
      have hP : va_P D vwCl [(hx0, .inr (11, [.ref (xa 0), .int 6, .int (-1), .ref (xa 1), .ref (xa 2), .ref (xa 3), .ref (xa 4), .ref (xa 5)])), ((xa 0), .inl (cy 0, 1600, .inl (upd f323 (6 : Int32).toNatClampNeg (vp_nar .byte z332))))] H := hP
      have hD : va_D A [(hx0, .inr (11, [.ref (xa 0), .int 6, .int (-1), .ref (xa 1), .ref (xa 2), .ref (xa 3), .ref (xa 4), .ref (xa 5)])), ((xa 0), .inl (cy 0, 1600, .inl (upd f323 (6 : Int32).toNatClampNeg (vp_nar .byte z332))))] := hD
      generalize hff334 : (upd f323 (6 : Int32).toNatClampNeg (vp_nar .byte z332)) = f334 at hP hD
      refine lv_aload_n hx hb dX11_feed_57 rfl (lv_at hl 1 rfl) ?_
      refine lv_dup hx hb dX11_feed_58 rfl ?_
      refine va_get (D := D) (ci := 11) (v := .int 6) (C := RX11) (T := TX11) (N := 8) hx hb hT i_TX11 hown hK hP 0 rfl rfl 1 (by decide) (hT _ t_534) (fun _ h9 => h9) rfl dX11_feed_59 ?_
      refine lv_iconst (v := 1) hx hb dX11_feed_62 (by decide) ?_
      refine lv_iadd hx hb dX11_feed_63 ?_
      refine lv_topi (fun z335 e336 => ?_)
      obtain rfl : z335 = 7 := e336.trans (by first | decide | rfl)
      refine va_put (D := D) (ci := 11) (v := .int 7) (ty := .int) (C := RX11) (T := TX11) (N := 8) hx hb hT i_TX11 tyX11 tyX11_ok nmX11 hown hK hP hD hS 0 rfl rfl 1 (by decide) (hT _ t_534) (fun _ h9 => h9) rfl (by decide +kernel) rfl rfl (Nat.le_of_ble_eq_true rfl) dX11_feed_64 (fun H locs hP hD hS => ?_)
      have hP : va_P D vwCl [(hx0, .inr (11, [.ref (xa 0), .int 7, .int (-1), .ref (xa 1), .ref (xa 2), .ref (xa 3), .ref (xa 4), .ref (xa 5)])), ((xa 0), .inl (cy 0, 1600, .inl f334))] H := hP
      have hD : va_D A [(hx0, .inr (11, [.ref (xa 0), .int 7, .int (-1), .ref (xa 1), .ref (xa 2), .ref (xa 3), .ref (xa 4), .ref (xa 5)])), ((xa 0), .inl (cy 0, 1600, .inl f334))] := hD
      refine lv_iinc (v := (-1)) (lv' := [(4, .int (-1)), (0, .ref hx0), (1, .long p0), (3, .int (nI 7))]) hx hb dX11_feed_67 hl (k := 0) rfl (by decide) (by decide) rfl (fun ls hl => ?_)
      refine lv_goto (tgt := 34) hx hb dX11_feed_70 (by decide) ?_
      refine lv_iload hx hb dX11_feed_34 (lv_at hl 0 rfl) ?_
      refine lv_if_lt (tgt := 73) hx hb dX11_feed_36 (by decide) (fun _ => ?_) (fun c9 => absurd (by decide) c9)
      refine lv_aload_n hx hb dX11_feed_73 rfl (lv_at hl 1 rfl) ?_
      refine va_get (D := D) (ci := 11) (v := .int 7) (C := RX11) (T := TX11) (N := 8) hx hb hT i_TX11 hown hK hP 0 rfl rfl 1 (by decide) (hT _ t_534) (fun _ h9 => h9) rfl dX11_feed_74 ?_
      have hP9 := hP.sub (ws' := []) [] rfl
      have hD9 := hD.sub (ws' := []) [] (by decide) rfl
      refine W.widen (k := 0) (n := 0) (Nat.le_of_ble_eq_true rfl) (Nat.le_of_ble_eq_true rfl) ?_
      exact W.iret (v := 7) hx hb hr (fun t ht hW => ⟨⟨7, (), rfl, (by decide), by rw [ht]; exact hP9, hD9⟩, hS.F ht⟩) hS.2.2 dX11_feed_77
    · refine lv_iload_n hx hb dX11_feed_0 rfl (lv_at hl 2 rfl) ?_
      refine lv_iconst (v := 1) hx hb dX11_feed_1 (by decide) ?_
      refine lv_icmp_lt (tgt := 11) hx hb dX11_feed_2 (by decide) (fun c9 => absurd c9 (by decide)) (fun _ => ?_)
      refine lv_iload_n hx hb dX11_feed_5 rfl (lv_at hl 2 rfl) ?_
      refine lv_bipush (v := 8) hx hb dX11_feed_6 (by decide) ?_
      refine lv_icmp_le (tgt := 14) hx hb dX11_feed_8 (by decide) (fun _ => ?_) (fun c9 => absurd (by decide) c9)
      refine lv_aload_n hx hb dX11_feed_14 rfl (lv_at hl 0 rfl) ?_
      refine va_get (D := D) (ci := 11) (v := .int 0) (C := RX11) (T := TX11) (N := 8) hx hb hT i_TX11 hown hK hP 0 rfl rfl 1 (by decide) (hT _ t_534) (fun _ h9 => h9) rfl dX11_feed_15 ?_
      refine lv_iload_n hx hb dX11_feed_18 rfl (lv_at hl 2 rfl) ?_
      refine lv_iadd hx hb dX11_feed_19 ?_
      refine lv_topi (fun z337 e338 => ?_)
      obtain rfl : z337 = 8 := e338.trans (by first | decide | rfl)
      refine lv_sipush (v := 1600) hx hb dX11_feed_20 (by decide) ?_
      refine lv_icmp_le (tgt := 29) hx hb dX11_feed_23 (by decide) (fun _ => ?_) (fun c9 => absurd (by decide) c9)
      refine lv_iload_n hx hb dX11_feed_29 rfl (lv_at hl 2 rfl) ?_
      refine lv_iconst (v := 1) hx hb dX11_feed_30 (by decide) ?_
      refine lv_isub hx hb dX11_feed_31 ?_
      refine lv_topi (fun z339 e340 => ?_)
      obtain rfl : z339 = 7 := e340.trans (by first | decide | rfl)
      refine lv_istore (lv' := [(4, .int 7), (0, .ref hx0), (1, .long p0), (3, .int (nI 8))]) hx hb dX11_feed_32 hl (by decide) rfl (fun ls hl => ?_)
      refine lv_iload hx hb dX11_feed_34 (lv_at hl 0 rfl) ?_
      refine lv_if_lt (tgt := 73) hx hb dX11_feed_36 (by decide) (fun c9 => absurd c9 (by decide)) (fun _ => ?_)
      refine lv_aload_n hx hb dX11_feed_39 rfl (lv_at hl 1 rfl) ?_
      refine va_get (D := D) (ci := 11) (v := .ref (xa 0)) (C := RX11) (T := TX11) (N := 8) hx hb hT i_TX11 hown hK hP 0 rfl rfl 0 (by decide) (hT _ t_533) (fun _ h9 => h9) rfl dX11_feed_40 ?_
      refine lv_aload_n hx hb dX11_feed_43 rfl (lv_at hl 1 rfl) ?_
      refine va_get (D := D) (ci := 11) (v := .int 0) (C := RX11) (T := TX11) (N := 8) hx hb hT i_TX11 hown hK hP 0 rfl rfl 1 (by decide) (hT _ t_534) (fun _ h9 => h9) rfl dX11_feed_44 ?_
      refine lv_lload_n hx hb dX11_feed_47 rfl (lv_at hl 2 rfl) ?_
      refine lv_bipush (v := 8) hx hb dX11_feed_48 (by decide) ?_
      refine lv_iload hx hb dX11_feed_50 (lv_at hl 0 rfl) ?_
      refine lv_imul hx hb dX11_feed_52 ?_
      refine lv_topi (fun z341 e342 => ?_)
      obtain rfl : z341 = 56 := e342.trans (by first | decide | rfl)
      refine lv_lushr hx hb dX11_feed_53 rfl ?_
      refine lv_topl (fun z343 e344 => ?_)
      refine lv_l2i hx hb dX11_feed_54 rfl ?_
      refine lv_topi (fun z345 e346 => ?_)
      refine lv_i2b hx hb dX11_feed_55 rfl ?_
      refine lv_topi (fun z347 e348 => ?_)
      refine va_bast hx hb hK hP hD hS 1 0 rfl rfl (vp_in_iff.mpr (by decide)) dX11_feed_56 (fun H locs hP hD hS => ?_)
      have hP : va_P D vwCl [(hx0, .inr (11, [.ref (xa 0), .int 0, .int (-1), .ref (xa 1), .ref (xa 2), .ref (xa 3), .ref (xa 4), .ref (xa 5)])), ((xa 0), .inl (cy 0, 1600, .inl (upd (fun _ => 0) (0 : Int32).toNatClampNeg (vp_nar .byte z347))))] H := hP
      have hD : va_D A [(hx0, .inr (11, [.ref (xa 0), .int 0, .int (-1), .ref (xa 1), .ref (xa 2), .ref (xa 3), .ref (xa 4), .ref (xa 5)])), ((xa 0), .inl (cy 0, 1600, .inl (upd (fun _ => 0) (0 : Int32).toNatClampNeg (vp_nar .byte z347))))] := hD
      generalize hff349 : (upd (fun _ => 0) (0 : Int32).toNatClampNeg (vp_nar .byte z347)) = f349 at hP hD
      refine lv_aload_n hx hb dX11_feed_57 rfl (lv_at hl 1 rfl) ?_
      refine lv_dup hx hb dX11_feed_58 rfl ?_
      refine va_get (D := D) (ci := 11) (v := .int 0) (C := RX11) (T := TX11) (N := 8) hx hb hT i_TX11 hown hK hP 0 rfl rfl 1 (by decide) (hT _ t_534) (fun _ h9 => h9) rfl dX11_feed_59 ?_
      refine lv_iconst (v := 1) hx hb dX11_feed_62 (by decide) ?_
      refine lv_iadd hx hb dX11_feed_63 ?_
      refine lv_topi (fun z350 e351 => ?_)
      obtain rfl : z350 = 1 := e351.trans (by first | decide | rfl)
      refine va_put (D := D) (ci := 11) (v := .int 1) (ty := .int) (C := RX11) (T := TX11) (N := 8) hx hb hT i_TX11 tyX11 tyX11_ok nmX11 hown hK hP hD hS 0 rfl rfl 1 (by decide) (hT _ t_534) (fun _ h9 => h9) rfl (by decide +kernel) rfl rfl (Nat.le_of_ble_eq_true rfl) dX11_feed_64 (fun H locs hP hD hS => ?_)
      have hP : va_P D vwCl [(hx0, .inr (11, [.ref (xa 0), .int 1, .int (-1), .ref (xa 1), .ref (xa 2), .ref (xa 3), .ref (xa 4), .ref (xa 5)])), ((xa 0), .inl (cy 0, 1600, .inl f349))] H := hP
      have hD : va_D A [(hx0, .inr (11, [.ref (xa 0), .int 1, .int (-1), .ref (xa 1), .ref (xa 2), .ref (xa 3), .ref (xa 4), .ref (xa 5)])), ((xa 0), .inl (cy 0, 1600, .inl f349))] := hD
      refine lv_iinc (v := 6) (lv' := [(4, .int 6), (0, .ref hx0), (1, .long p0), (3, .int (nI 8))]) hx hb dX11_feed_67 hl (k := 0) rfl (by decide) (by decide) rfl (fun ls hl => ?_)
      refine lv_goto (tgt := 34) hx hb dX11_feed_70 (by decide) ?_
      refine lv_iload hx hb dX11_feed_34 (lv_at hl 0 rfl) ?_
      refine lv_if_lt (tgt := 73) hx hb dX11_feed_36 (by decide) (fun c9 => absurd c9 (by decide)) (fun _ => ?_)
      refine lv_aload_n hx hb dX11_feed_39 rfl (lv_at hl 1 rfl) ?_
      refine va_get (D := D) (ci := 11) (v := .ref (xa 0)) (C := RX11) (T := TX11) (N := 8) hx hb hT i_TX11 hown hK hP 0 rfl rfl 0 (by decide) (hT _ t_533) (fun _ h9 => h9) rfl dX11_feed_40 ?_
      refine lv_aload_n hx hb dX11_feed_43 rfl (lv_at hl 1 rfl) ?_
      refine va_get (D := D) (ci := 11) (v := .int 1) (C := RX11) (T := TX11) (N := 8) hx hb hT i_TX11 hown hK hP 0 rfl rfl 1 (by decide) (hT _ t_534) (fun _ h9 => h9) rfl dX11_feed_44 ?_
      refine lv_lload_n hx hb dX11_feed_47 rfl (lv_at hl 2 rfl) ?_
      refine lv_bipush (v := 8) hx hb dX11_feed_48 (by decide) ?_
      refine lv_iload hx hb dX11_feed_50 (lv_at hl 0 rfl) ?_
      refine lv_imul hx hb dX11_feed_52 ?_
      refine lv_topi (fun z352 e353 => ?_)
      obtain rfl : z352 = 48 := e353.trans (by first | decide | rfl)
      refine lv_lushr hx hb dX11_feed_53 rfl ?_
      refine lv_topl (fun z354 e355 => ?_)
      refine lv_l2i hx hb dX11_feed_54 rfl ?_
      refine lv_topi (fun z356 e357 => ?_)
      refine lv_i2b hx hb dX11_feed_55 rfl ?_
      refine lv_topi (fun z358 e359 => ?_)
      refine va_bast hx hb hK hP hD hS 1 0 rfl rfl (vp_in_iff.mpr (by decide)) dX11_feed_56 (fun H locs hP hD hS => ?_)
      have hP : va_P D vwCl [(hx0, .inr (11, [.ref (xa 0), .int 1, .int (-1), .ref (xa 1), .ref (xa 2), .ref (xa 3), .ref (xa 4), .ref (xa 5)])), ((xa 0), .inl (cy 0, 1600, .inl (upd f349 (1 : Int32).toNatClampNeg (vp_nar .byte z358))))] H := hP
      have hD : va_D A [(hx0, .inr (11, [.ref (xa 0), .int 1, .int (-1), .ref (xa 1), .ref (xa 2), .ref (xa 3), .ref (xa 4), .ref (xa 5)])), ((xa 0), .inl (cy 0, 1600, .inl (upd f349 (1 : Int32).toNatClampNeg (vp_nar .byte z358))))] := hD
      generalize hff360 : (upd f349 (1 : Int32).toNatClampNeg (vp_nar .byte z358)) = f360 at hP hD
      refine lv_aload_n hx hb dX11_feed_57 rfl (lv_at hl 1 rfl) ?_
      refine lv_dup hx hb dX11_feed_58 rfl ?_
      refine va_get (D := D) (ci := 11) (v := .int 1) (C := RX11) (T := TX11) (N := 8) hx hb hT i_TX11 hown hK hP 0 rfl rfl 1 (by decide) (hT _ t_534) (fun _ h9 => h9) rfl dX11_feed_59 ?_
      refine lv_iconst (v := 1) hx hb dX11_feed_62 (by decide) ?_
      refine lv_iadd hx hb dX11_feed_63 ?_
      refine lv_topi (fun z361 e362 => ?_)
      obtain rfl : z361 = 2 := e362.trans (by first | decide | rfl)
      refine va_put (D := D) (ci := 11) (v := .int 2) (ty := .int) (C := RX11) (T := TX11) (N := 8) hx hb hT i_TX11 tyX11 tyX11_ok nmX11 hown hK hP hD hS 0 rfl rfl 1 (by decide) (hT _ t_534) (fun _ h9 => h9) rfl (by decide +kernel) rfl rfl (Nat.le_of_ble_eq_true rfl) dX11_feed_64 (fun H locs hP hD hS => ?_)
      have hP : va_P D vwCl [(hx0, .inr (11, [.ref (xa 0), .int 2, .int (-1), .ref (xa 1), .ref (xa 2), .ref (xa 3), .ref (xa 4), .ref (xa 5)])), ((xa 0), .inl (cy 0, 1600, .inl f360))] H := hP
      have hD : va_D A [(hx0, .inr (11, [.ref (xa 0), .int 2, .int (-1), .ref (xa 1), .ref (xa 2), .ref (xa 3), .ref (xa 4), .ref (xa 5)])), ((xa 0), .inl (cy 0, 1600, .inl f360))] := hD
      refine lv_iinc (v := 5) (lv' := [(4, .int 5), (0, .ref hx0), (1, .long p0), (3, .int (nI 8))]) hx hb dX11_feed_67 hl (k := 0) rfl (by decide) (by decide) rfl (fun ls hl => ?_)
      refine lv_goto (tgt := 34) hx hb dX11_feed_70 (by decide) ?_
      refine lv_iload hx hb dX11_feed_34 (lv_at hl 0 rfl) ?_
      refine lv_if_lt (tgt := 73) hx hb dX11_feed_36 (by decide) (fun c9 => absurd c9 (by decide)) (fun _ => ?_)
      refine lv_aload_n hx hb dX11_feed_39 rfl (lv_at hl 1 rfl) ?_
      refine va_get (D := D) (ci := 11) (v := .ref (xa 0)) (C := RX11) (T := TX11) (N := 8) hx hb hT i_TX11 hown hK hP 0 rfl rfl 0 (by decide) (hT _ t_533) (fun _ h9 => h9) rfl dX11_feed_40 ?_
      refine lv_aload_n hx hb dX11_feed_43 rfl (lv_at hl 1 rfl) ?_
      refine va_get (D := D) (ci := 11) (v := .int 2) (C := RX11) (T := TX11) (N := 8) hx hb hT i_TX11 hown hK hP 0 rfl rfl 1 (by decide) (hT _ t_534) (fun _ h9 => h9) rfl dX11_feed_44 ?_
      refine lv_lload_n hx hb dX11_feed_47 rfl (lv_at hl 2 rfl) ?_
      refine lv_bipush (v := 8) hx hb dX11_feed_48 (by decide) ?_
      refine lv_iload hx hb dX11_feed_50 (lv_at hl 0 rfl) ?_
      refine lv_imul hx hb dX11_feed_52 ?_
      refine lv_topi (fun z363 e364 => ?_)
      obtain rfl : z363 = 40 := e364.trans (by first | decide | rfl)
      refine lv_lushr hx hb dX11_feed_53 rfl ?_
      refine lv_topl (fun z365 e366 => ?_)
      refine lv_l2i hx hb dX11_feed_54 rfl ?_
      refine lv_topi (fun z367 e368 => ?_)
      refine lv_i2b hx hb dX11_feed_55 rfl ?_
      refine lv_topi (fun z369 e370 => ?_)
      refine va_bast hx hb hK hP hD hS 1 0 rfl rfl (vp_in_iff.mpr (by decide)) dX11_feed_56 (fun H locs hP hD hS => ?_)
      have hP : va_P D vwCl [(hx0, .inr (11, [.ref (xa 0), .int 2, .int (-1), .ref (xa 1), .ref (xa 2), .ref (xa 3), .ref (xa 4), .ref (xa 5)])), ((xa 0), .inl (cy 0, 1600, .inl (upd f360 (2 : Int32).toNatClampNeg (vp_nar .byte z369))))] H := hP
      have hD : va_D A [(hx0, .inr (11, [.ref (xa 0), .int 2, .int (-1), .ref (xa 1), .ref (xa 2), .ref (xa 3), .ref (xa 4), .ref (xa 5)])), ((xa 0), .inl (cy 0, 1600, .inl (upd f360 (2 : Int32).toNatClampNeg (vp_nar .byte z369))))] := hD
      generalize hff371 : (upd f360 (2 : Int32).toNatClampNeg (vp_nar .byte z369)) = f371 at hP hD
      refine lv_aload_n hx hb dX11_feed_57 rfl (lv_at hl 1 rfl) ?_
      refine lv_dup hx hb dX11_feed_58 rfl ?_
      refine va_get (D := D) (ci := 11) (v := .int 2) (C := RX11) (T := TX11) (N := 8) hx hb hT i_TX11 hown hK hP 0 rfl rfl 1 (by decide) (hT _ t_534) (fun _ h9 => h9) rfl dX11_feed_59 ?_
      refine lv_iconst (v := 1) hx hb dX11_feed_62 (by decide) ?_
      refine lv_iadd hx hb dX11_feed_63 ?_
      refine lv_topi (fun z372 e373 => ?_)
      obtain rfl : z372 = 3 := e373.trans (by first | decide | rfl)
      refine va_put (D := D) (ci := 11) (v := .int 3) (ty := .int) (C := RX11) (T := TX11) (N := 8) hx hb hT i_TX11 tyX11 tyX11_ok nmX11 hown hK hP hD hS 0 rfl rfl 1 (by decide) (hT _ t_534) (fun _ h9 => h9) rfl (by decide +kernel) rfl rfl (Nat.le_of_ble_eq_true rfl) dX11_feed_64 (fun H locs hP hD hS => ?_)
      have hP : va_P D vwCl [(hx0, .inr (11, [.ref (xa 0), .int 3, .int (-1), .ref (xa 1), .ref (xa 2), .ref (xa 3), .ref (xa 4), .ref (xa 5)])), ((xa 0), .inl (cy 0, 1600, .inl f371))] H := hP
      have hD : va_D A [(hx0, .inr (11, [.ref (xa 0), .int 3, .int (-1), .ref (xa 1), .ref (xa 2), .ref (xa 3), .ref (xa 4), .ref (xa 5)])), ((xa 0), .inl (cy 0, 1600, .inl f371))] := hD
      refine lv_iinc (v := 4) (lv' := [(4, .int 4), (0, .ref hx0), (1, .long p0), (3, .int (nI 8))]) hx hb dX11_feed_67 hl (k := 0) rfl (by decide) (by decide) rfl (fun ls hl => ?_)
      refine lv_goto (tgt := 34) hx hb dX11_feed_70 (by decide) ?_
      refine lv_iload hx hb dX11_feed_34 (lv_at hl 0 rfl) ?_
      refine lv_if_lt (tgt := 73) hx hb dX11_feed_36 (by decide) (fun c9 => absurd c9 (by decide)) (fun _ => ?_)
      refine lv_aload_n hx hb dX11_feed_39 rfl (lv_at hl 1 rfl) ?_
      refine va_get (D := D) (ci := 11) (v := .ref (xa 0)) (C := RX11) (T := TX11) (N := 8) hx hb hT i_TX11 hown hK hP 0 rfl rfl 0 (by decide) (hT _ t_533) (fun _ h9 => h9) rfl dX11_feed_40 ?_
      refine lv_aload_n hx hb dX11_feed_43 rfl (lv_at hl 1 rfl) ?_
      refine va_get (D := D) (ci := 11) (v := .int 3) (C := RX11) (T := TX11) (N := 8) hx hb hT i_TX11 hown hK hP 0 rfl rfl 1 (by decide) (hT _ t_534) (fun _ h9 => h9) rfl dX11_feed_44 ?_
      refine lv_lload_n hx hb dX11_feed_47 rfl (lv_at hl 2 rfl) ?_
      refine lv_bipush (v := 8) hx hb dX11_feed_48 (by decide) ?_
      refine lv_iload hx hb dX11_feed_50 (lv_at hl 0 rfl) ?_
      refine lv_imul hx hb dX11_feed_52 ?_
      refine lv_topi (fun z374 e375 => ?_)
      obtain rfl : z374 = 32 := e375.trans (by first | decide | rfl)
      refine lv_lushr hx hb dX11_feed_53 rfl ?_
      refine lv_topl (fun z376 e377 => ?_)
      refine lv_l2i hx hb dX11_feed_54 rfl ?_
      refine lv_topi (fun z378 e379 => ?_)
      refine lv_i2b hx hb dX11_feed_55 rfl ?_
      refine lv_topi (fun z380 e381 => ?_)
      refine va_bast hx hb hK hP hD hS 1 0 rfl rfl (vp_in_iff.mpr (by decide)) dX11_feed_56 (fun H locs hP hD hS => ?_)
      have hP : va_P D vwCl [(hx0, .inr (11, [.ref (xa 0), .int 3, .int (-1), .ref (xa 1), .ref (xa 2), .ref (xa 3), .ref (xa 4), .ref (xa 5)])), ((xa 0), .inl (cy 0, 1600, .inl (upd f371 (3 : Int32).toNatClampNeg (vp_nar .byte z380))))] H := hP
      have hD : va_D A [(hx0, .inr (11, [.ref (xa 0), .int 3, .int (-1), .ref (xa 1), .ref (xa 2), .ref (xa 3), .ref (xa 4), .ref (xa 5)])), ((xa 0), .inl (cy 0, 1600, .inl (upd f371 (3 : Int32).toNatClampNeg (vp_nar .byte z380))))] := hD
      generalize hff382 : (upd f371 (3 : Int32).toNatClampNeg (vp_nar .byte z380)) = f382 at hP hD
      refine lv_aload_n hx hb dX11_feed_57 rfl (lv_at hl 1 rfl) ?_
      refine lv_dup hx hb dX11_feed_58 rfl ?_
      refine va_get (D := D) (ci := 11) (v := .int 3) (C := RX11) (T := TX11) (N := 8) hx hb hT i_TX11 hown hK hP 0 rfl rfl 1 (by decide) (hT _ t_534) (fun _ h9 => h9) rfl dX11_feed_59 ?_
      refine lv_iconst (v := 1) hx hb dX11_feed_62 (by decide) ?_
      refine lv_iadd hx hb dX11_feed_63 ?_
      refine lv_topi (fun z383 e384 => ?_)
      obtain rfl : z383 = 4 := e384.trans (by first | decide | rfl)
      refine va_put (D := D) (ci := 11) (v := .int 4) (ty := .int) (C := RX11) (T := TX11) (N := 8) hx hb hT i_TX11 tyX11 tyX11_ok nmX11 hown hK hP hD hS 0 rfl rfl 1 (by decide) (hT _ t_534) (fun _ h9 => h9) rfl (by decide +kernel) rfl rfl (Nat.le_of_ble_eq_true rfl) dX11_feed_64 (fun H locs hP hD hS => ?_)
      have hP : va_P D vwCl [(hx0, .inr (11, [.ref (xa 0), .int 4, .int (-1), .ref (xa 1), .ref (xa 2), .ref (xa 3), .ref (xa 4), .ref (xa 5)])), ((xa 0), .inl (cy 0, 1600, .inl f382))] H := hP
      have hD : va_D A [(hx0, .inr (11, [.ref (xa 0), .int 4, .int (-1), .ref (xa 1), .ref (xa 2), .ref (xa 3), .ref (xa 4), .ref (xa 5)])), ((xa 0), .inl (cy 0, 1600, .inl f382))] := hD
      refine lv_iinc (v := 3) (lv' := [(4, .int 3), (0, .ref hx0), (1, .long p0), (3, .int (nI 8))]) hx hb dX11_feed_67 hl (k := 0) rfl (by decide) (by decide) rfl (fun ls hl => ?_)
      refine lv_goto (tgt := 34) hx hb dX11_feed_70 (by decide) ?_
      refine lv_iload hx hb dX11_feed_34 (lv_at hl 0 rfl) ?_
      refine lv_if_lt (tgt := 73) hx hb dX11_feed_36 (by decide) (fun c9 => absurd c9 (by decide)) (fun _ => ?_)
      refine lv_aload_n hx hb dX11_feed_39 rfl (lv_at hl 1 rfl) ?_
      refine va_get (D := D) (ci := 11) (v := .ref (xa 0)) (C := RX11) (T := TX11) (N := 8) hx hb hT i_TX11 hown hK hP 0 rfl rfl 0 (by decide) (hT _ t_533) (fun _ h9 => h9) rfl dX11_feed_40 ?_
      refine lv_aload_n hx hb dX11_feed_43 rfl (lv_at hl 1 rfl) ?_
      refine va_get (D := D) (ci := 11) (v := .int 4) (C := RX11) (T := TX11) (N := 8) hx hb hT i_TX11 hown hK hP 0 rfl rfl 1 (by decide) (hT _ t_534) (fun _ h9 => h9) rfl dX11_feed_44 ?_
      refine lv_lload_n hx hb dX11_feed_47 rfl (lv_at hl 2 rfl) ?_
      refine lv_bipush (v := 8) hx hb dX11_feed_48 (by decide) ?_
      refine lv_iload hx hb dX11_feed_50 (lv_at hl 0 rfl) ?_
      refine lv_imul hx hb dX11_feed_52 ?_
      refine lv_topi (fun z385 e386 => ?_)
      obtain rfl : z385 = 24 := e386.trans (by first | decide | rfl)
      refine lv_lushr hx hb dX11_feed_53 rfl ?_
      refine lv_topl (fun z387 e388 => ?_)
      refine lv_l2i hx hb dX11_feed_54 rfl ?_
      refine lv_topi (fun z389 e390 => ?_)
      refine lv_i2b hx hb dX11_feed_55 rfl ?_
      refine lv_topi (fun z391 e392 => ?_)
      refine va_bast hx hb hK hP hD hS 1 0 rfl rfl (vp_in_iff.mpr (by decide)) dX11_feed_56 (fun H locs hP hD hS => ?_)
      have hP : va_P D vwCl [(hx0, .inr (11, [.ref (xa 0), .int 4, .int (-1), .ref (xa 1), .ref (xa 2), .ref (xa 3), .ref (xa 4), .ref (xa 5)])), ((xa 0), .inl (cy 0, 1600, .inl (upd f382 (4 : Int32).toNatClampNeg (vp_nar .byte z391))))] H := hP
      have hD : va_D A [(hx0, .inr (11, [.ref (xa 0), .int 4, .int (-1), .ref (xa 1), .ref (xa 2), .ref (xa 3), .ref (xa 4), .ref (xa 5)])), ((xa 0), .inl (cy 0, 1600, .inl (upd f382 (4 : Int32).toNatClampNeg (vp_nar .byte z391))))] := hD
      generalize hff393 : (upd f382 (4 : Int32).toNatClampNeg (vp_nar .byte z391)) = f393 at hP hD
      refine lv_aload_n hx hb dX11_feed_57 rfl (lv_at hl 1 rfl) ?_
      refine lv_dup hx hb dX11_feed_58 rfl ?_
      refine va_get (D := D) (ci := 11) (v := .int 4) (C := RX11) (T := TX11) (N := 8) hx hb hT i_TX11 hown hK hP 0 rfl rfl 1 (by decide) (hT _ t_534) (fun _ h9 => h9) rfl dX11_feed_59 ?_
      refine lv_iconst (v := 1) hx hb dX11_feed_62 (by decide) ?_
      refine lv_iadd hx hb dX11_feed_63 ?_
      refine lv_topi (fun z394 e395 => ?_)
      obtain rfl : z394 = 5 := e395.trans (by first | decide | rfl)
      refine va_put (D := D) (ci := 11) (v := .int 5) (ty := .int) (C := RX11) (T := TX11) (N := 8) hx hb hT i_TX11 tyX11 tyX11_ok nmX11 hown hK hP hD hS 0 rfl rfl 1 (by decide) (hT _ t_534) (fun _ h9 => h9) rfl (by decide +kernel) rfl rfl (Nat.le_of_ble_eq_true rfl) dX11_feed_64 (fun H locs hP hD hS => ?_)
      have hP : va_P D vwCl [(hx0, .inr (11, [.ref (xa 0), .int 5, .int (-1), .ref (xa 1), .ref (xa 2), .ref (xa 3), .ref (xa 4), .ref (xa 5)])), ((xa 0), .inl (cy 0, 1600, .inl f393))] H := hP
      have hD : va_D A [(hx0, .inr (11, [.ref (xa 0), .int 5, .int (-1), .ref (xa 1), .ref (xa 2), .ref (xa 3), .ref (xa 4), .ref (xa 5)])), ((xa 0), .inl (cy 0, 1600, .inl f393))] := hD
      refine lv_iinc (v := 2) (lv' := [(4, .int 2), (0, .ref hx0), (1, .long p0), (3, .int (nI 8))]) hx hb dX11_feed_67 hl (k := 0) rfl (by decide) (by decide) rfl (fun ls hl => ?_)
      refine lv_goto (tgt := 34) hx hb dX11_feed_70 (by decide) ?_
      refine lv_iload hx hb dX11_feed_34 (lv_at hl 0 rfl) ?_
      refine lv_if_lt (tgt := 73) hx hb dX11_feed_36 (by decide) (fun c9 => absurd c9 (by decide)) (fun _ => ?_)
      refine lv_aload_n hx hb dX11_feed_39 rfl (lv_at hl 1 rfl) ?_
      refine va_get (D := D) (ci := 11) (v := .ref (xa 0)) (C := RX11) (T := TX11) (N := 8) hx hb hT i_TX11 hown hK hP 0 rfl rfl 0 (by decide) (hT _ t_533) (fun _ h9 => h9) rfl dX11_feed_40 ?_
      refine lv_aload_n hx hb dX11_feed_43 rfl (lv_at hl 1 rfl) ?_
      refine va_get (D := D) (ci := 11) (v := .int 5) (C := RX11) (T := TX11) (N := 8) hx hb hT i_TX11 hown hK hP 0 rfl rfl 1 (by decide) (hT _ t_534) (fun _ h9 => h9) rfl dX11_feed_44 ?_
      refine lv_lload_n hx hb dX11_feed_47 rfl (lv_at hl 2 rfl) ?_
      refine lv_bipush (v := 8) hx hb dX11_feed_48 (by decide) ?_
      refine lv_iload hx hb dX11_feed_50 (lv_at hl 0 rfl) ?_
      refine lv_imul hx hb dX11_feed_52 ?_
      refine lv_topi (fun z396 e397 => ?_)
      obtain rfl : z396 = 16 := e397.trans (by first | decide | rfl)
      refine lv_lushr hx hb dX11_feed_53 rfl ?_
      refine lv_topl (fun z398 e399 => ?_)
      refine lv_l2i hx hb dX11_feed_54 rfl ?_
      refine lv_topi (fun z400 e401 => ?_)
      refine lv_i2b hx hb dX11_feed_55 rfl ?_
      refine lv_topi (fun z402 e403 => ?_)
      refine va_bast hx hb hK hP hD hS 1 0 rfl rfl (vp_in_iff.mpr (by decide)) dX11_feed_56 (fun H locs hP hD hS => ?_)
      have hP : va_P D vwCl [(hx0, .inr (11, [.ref (xa 0), .int 5, .int (-1), .ref (xa 1), .ref (xa 2), .ref (xa 3), .ref (xa 4), .ref (xa 5)])), ((xa 0), .inl (cy 0, 1600, .inl (upd f393 (5 : Int32).toNatClampNeg (vp_nar .byte z402))))] H := hP
      have hD : va_D A [(hx0, .inr (11, [.ref (xa 0), .int 5, .int (-1), .ref (xa 1), .ref (xa 2), .ref (xa 3), .ref (xa 4), .ref (xa 5)])), ((xa 0), .inl (cy 0, 1600, .inl (upd f393 (5 : Int32).toNatClampNeg (vp_nar .byte z402))))] := hD
      generalize hff404 : (upd f393 (5 : Int32).toNatClampNeg (vp_nar .byte z402)) = f404 at hP hD
      refine lv_aload_n hx hb dX11_feed_57 rfl (lv_at hl 1 rfl) ?_
      refine lv_dup hx hb dX11_feed_58 rfl ?_
      refine va_get (D := D) (ci := 11) (v := .int 5) (C := RX11) (T := TX11) (N := 8) hx hb hT i_TX11 hown hK hP 0 rfl rfl 1 (by decide) (hT _ t_534) (fun _ h9 => h9) rfl dX11_feed_59 ?_
      refine lv_iconst (v := 1) hx hb dX11_feed_62 (by decide) ?_
      refine lv_iadd hx hb dX11_feed_63 ?_
      refine lv_topi (fun z405 e406 => ?_)
      obtain rfl : z405 = 6 := e406.trans (by first | decide | rfl)
      refine va_put (D := D) (ci := 11) (v := .int 6) (ty := .int) (C := RX11) (T := TX11) (N := 8) hx hb hT i_TX11 tyX11 tyX11_ok nmX11 hown hK hP hD hS 0 rfl rfl 1 (by decide) (hT _ t_534) (fun _ h9 => h9) rfl (by decide +kernel) rfl rfl (Nat.le_of_ble_eq_true rfl) dX11_feed_64 (fun H locs hP hD hS => ?_)
      have hP : va_P D vwCl [(hx0, .inr (11, [.ref (xa 0), .int 6, .int (-1), .ref (xa 1), .ref (xa 2), .ref (xa 3), .ref (xa 4), .ref (xa 5)])), ((xa 0), .inl (cy 0, 1600, .inl f404))] H := hP
      have hD : va_D A [(hx0, .inr (11, [.ref (xa 0), .int 6, .int (-1), .ref (xa 1), .ref (xa 2), .ref (xa 3), .ref (xa 4), .ref (xa 5)])), ((xa 0), .inl (cy 0, 1600, .inl f404))] := hD
      refine lv_iinc (v := 1) (lv' := [(4, .int 1), (0, .ref hx0), (1, .long p0), (3, .int (nI 8))]) hx hb dX11_feed_67 hl (k := 0) rfl (by decide) (by decide) rfl (fun ls hl => ?_)
      refine lv_goto (tgt := 34) hx hb dX11_feed_70 (by decide) ?_
      refine lv_iload hx hb dX11_feed_34 (lv_at hl 0 rfl) ?_
      refine lv_if_lt (tgt := 73) hx hb dX11_feed_36 (by decide) (fun c9 => absurd c9 (by decide)) (fun _ => ?_)
      refine lv_aload_n hx hb dX11_feed_39 rfl (lv_at hl 1 rfl) ?_
      refine va_get (D := D) (ci := 11) (v := .ref (xa 0)) (C := RX11) (T := TX11) (N := 8) hx hb hT i_TX11 hown hK hP 0 rfl rfl 0 (by decide) (hT _ t_533) (fun _ h9 => h9) rfl dX11_feed_40 ?_
      refine lv_aload_n hx hb dX11_feed_43 rfl (lv_at hl 1 rfl) ?_
      refine va_get (D := D) (ci := 11) (v := .int 6) (C := RX11) (T := TX11) (N := 8) hx hb hT i_TX11 hown hK hP 0 rfl rfl 1 (by decide) (hT _ t_534) (fun _ h9 => h9) rfl dX11_feed_44 ?_
      refine lv_lload_n hx hb dX11_feed_47 rfl (lv_at hl 2 rfl) ?_
      refine lv_bipush (v := 8) hx hb dX11_feed_48 (by decide) ?_
      refine lv_iload hx hb dX11_feed_50 (lv_at hl 0 rfl) ?_
      refine lv_imul hx hb dX11_feed_52 ?_
      refine lv_topi (fun z407 e408 => ?_)
      obtain rfl : z407 = 8 := e408.trans (by first | decide | rfl)
      refine lv_lushr hx hb dX11_feed_53 rfl ?_
      refine lv_topl (fun z409 e410 => ?_)
      refine lv_l2i hx hb dX11_feed_54 rfl ?_
      refine lv_topi (fun z411 e412 => ?_)
      refine lv_i2b hx hb dX11_feed_55 rfl ?_
      refine lv_topi (fun z413 e414 => ?_)
      refine va_bast hx hb hK hP hD hS 1 0 rfl rfl (vp_in_iff.mpr (by decide)) dX11_feed_56 (fun H locs hP hD hS => ?_)
      have hP : va_P D vwCl [(hx0, .inr (11, [.ref (xa 0), .int 6, .int (-1), .ref (xa 1), .ref (xa 2), .ref (xa 3), .ref (xa 4), .ref (xa 5)])), ((xa 0), .inl (cy 0, 1600, .inl (upd f404 (6 : Int32).toNatClampNeg (vp_nar .byte z413))))] H := hP
      have hD : va_D A [(hx0, .inr (11, [.ref (xa 0), .int 6, .int (-1), .ref (xa 1), .ref (xa 2), .ref (xa 3), .ref (xa 4), .ref (xa 5)])), ((xa 0), .inl (cy 0, 1600, .inl (upd f404 (6 : Int32).toNatClampNeg (vp_nar .byte z413))))] := hD
      generalize hff415 : (upd f404 (6 : Int32).toNatClampNeg (vp_nar .byte z413)) = f415 at hP hD
      refine lv_aload_n hx hb dX11_feed_57 rfl (lv_at hl 1 rfl) ?_
      refine lv_dup hx hb dX11_feed_58 rfl ?_
      refine va_get (D := D) (ci := 11) (v := .int 6) (C := RX11) (T := TX11) (N := 8) hx hb hT i_TX11 hown hK hP 0 rfl rfl 1 (by decide) (hT _ t_534) (fun _ h9 => h9) rfl dX11_feed_59 ?_
      refine lv_iconst (v := 1) hx hb dX11_feed_62 (by decide) ?_
      refine lv_iadd hx hb dX11_feed_63 ?_
      refine lv_topi (fun z416 e417 => ?_)
      obtain rfl : z416 = 7 := e417.trans (by first | decide | rfl)
      refine va_put (D := D) (ci := 11) (v := .int 7) (ty := .int) (C := RX11) (T := TX11) (N := 8) hx hb hT i_TX11 tyX11 tyX11_ok nmX11 hown hK hP hD hS 0 rfl rfl 1 (by decide) (hT _ t_534) (fun _ h9 => h9) rfl (by decide +kernel) rfl rfl (Nat.le_of_ble_eq_true rfl) dX11_feed_64 (fun H locs hP hD hS => ?_)
      have hP : va_P D vwCl [(hx0, .inr (11, [.ref (xa 0), .int 7, .int (-1), .ref (xa 1), .ref (xa 2), .ref (xa 3), .ref (xa 4), .ref (xa 5)])), ((xa 0), .inl (cy 0, 1600, .inl f415))] H := hP
      have hD : va_D A [(hx0, .inr (11, [.ref (xa 0), .int 7, .int (-1), .ref (xa 1), .ref (xa 2), .ref (xa 3), .ref (xa 4), .ref (xa 5)])), ((xa 0), .inl (cy 0, 1600, .inl f415))] := hD
      refine lv_iinc (v := 0) (lv' := [(4, .int 0), (0, .ref hx0), (1, .long p0), (3, .int (nI 8))]) hx hb dX11_feed_67 hl (k := 0) rfl (by decide) (by decide) rfl (fun ls hl => ?_)
      refine lv_goto (tgt := 34) hx hb dX11_feed_70 (by decide) ?_
      refine lv_iload hx hb dX11_feed_34 (lv_at hl 0 rfl) ?_
      refine lv_if_lt (tgt := 73) hx hb dX11_feed_36 (by decide) (fun c9 => absurd c9 (by decide)) (fun _ => ?_)
      refine lv_aload_n hx hb dX11_feed_39 rfl (lv_at hl 1 rfl) ?_
      refine va_get (D := D) (ci := 11) (v := .ref (xa 0)) (C := RX11) (T := TX11) (N := 8) hx hb hT i_TX11 hown hK hP 0 rfl rfl 0 (by decide) (hT _ t_533) (fun _ h9 => h9) rfl dX11_feed_40 ?_
      refine lv_aload_n hx hb dX11_feed_43 rfl (lv_at hl 1 rfl) ?_
      refine va_get (D := D) (ci := 11) (v := .int 7) (C := RX11) (T := TX11) (N := 8) hx hb hT i_TX11 hown hK hP 0 rfl rfl 1 (by decide) (hT _ t_534) (fun _ h9 => h9) rfl dX11_feed_44 ?_
      refine lv_lload_n hx hb dX11_feed_47 rfl (lv_at hl 2 rfl) ?_
      refine lv_bipush (v := 8) hx hb dX11_feed_48 (by decide) ?_
      refine lv_iload hx hb dX11_feed_50 (lv_at hl 0 rfl) ?_
      refine lv_imul hx hb dX11_feed_52 ?_
      refine lv_topi (fun z418 e419 => ?_)
      obtain rfl : z418 = 0 := e419.trans (by first | decide | rfl)
      refine lv_lushr hx hb dX11_feed_53 rfl ?_
      refine lv_topl (fun z420 e421 => ?_)
      refine lv_l2i hx hb dX11_feed_54 rfl ?_
      refine lv_topi (fun z422 e423 => ?_)
      refine lv_i2b hx hb dX11_feed_55 rfl ?_
      refine lv_topi (fun z424 e425 => ?_)
      refine va_bast hx hb hK hP hD hS 1 0 rfl rfl (vp_in_iff.mpr (by decide)) dX11_feed_56 (fun H locs hP hD hS => ?_)
      have hP : va_P D vwCl [(hx0, .inr (11, [.ref (xa 0), .int 7, .int (-1), .ref (xa 1), .ref (xa 2), .ref (xa 3), .ref (xa 4), .ref (xa 5)])), ((xa 0), .inl (cy 0, 1600, .inl (upd f415 (7 : Int32).toNatClampNeg (vp_nar .byte z424))))] H := hP
      have hD : va_D A [(hx0, .inr (11, [.ref (xa 0), .int 7, .int (-1), .ref (xa 1), .ref (xa 2), .ref (xa 3), .ref (xa 4), .ref (xa 5)])), ((xa 0), .inl (cy 0, 1600, .inl (upd f415 (7 : Int32).toNatClampNeg (vp_nar .byte z424))))] := hD
      generalize hff426 : (upd f415 (7 : Int32).toNatClampNeg (vp_nar .byte z424)) = f426 at hP hD
      refine lv_aload_n hx hb dX11_feed_57 rfl (lv_at hl 1 rfl) ?_
      refine lv_dup hx hb dX11_feed_58 rfl ?_
      refine va_get (D := D) (ci := 11) (v := .int 7) (C := RX11) (T := TX11) (N := 8) hx hb hT i_TX11 hown hK hP 0 rfl rfl 1 (by decide) (hT _ t_534) (fun _ h9 => h9) rfl dX11_feed_59 ?_
      refine lv_iconst (v := 1) hx hb dX11_feed_62 (by decide) ?_
      refine lv_iadd hx hb dX11_feed_63 ?_
      refine lv_topi (fun z427 e428 => ?_)
      obtain rfl : z427 = 8 := e428.trans (by first | decide | rfl)
      refine va_put (D := D) (ci := 11) (v := .int 8) (ty := .int) (C := RX11) (T := TX11) (N := 8) hx hb hT i_TX11 tyX11 tyX11_ok nmX11 hown hK hP hD hS 0 rfl rfl 1 (by decide) (hT _ t_534) (fun _ h9 => h9) rfl (by decide +kernel) rfl rfl (Nat.le_of_ble_eq_true rfl) dX11_feed_64 (fun H locs hP hD hS => ?_)
      have hP : va_P D vwCl [(hx0, .inr (11, [.ref (xa 0), .int 8, .int (-1), .ref (xa 1), .ref (xa 2), .ref (xa 3), .ref (xa 4), .ref (xa 5)])), ((xa 0), .inl (cy 0, 1600, .inl f426))] H := hP
      have hD : va_D A [(hx0, .inr (11, [.ref (xa 0), .int 8, .int (-1), .ref (xa 1), .ref (xa 2), .ref (xa 3), .ref (xa 4), .ref (xa 5)])), ((xa 0), .inl (cy 0, 1600, .inl f426))] := hD
      refine lv_iinc (v := (-1)) (lv' := [(4, .int (-1)), (0, .ref hx0), (1, .long p0), (3, .int (nI 8))]) hx hb dX11_feed_67 hl (k := 0) rfl (by decide) (by decide) rfl (fun ls hl => ?_)
      refine lv_goto (tgt := 34) hx hb dX11_feed_70 (by decide) ?_
      refine lv_iload hx hb dX11_feed_34 (lv_at hl 0 rfl) ?_
      refine lv_if_lt (tgt := 73) hx hb dX11_feed_36 (by decide) (fun _ => ?_) (fun c9 => absurd (by decide) c9)
      refine lv_aload_n hx hb dX11_feed_73 rfl (lv_at hl 1 rfl) ?_
      refine va_get (D := D) (ci := 11) (v := .int 8) (C := RX11) (T := TX11) (N := 8) hx hb hT i_TX11 hown hK hP 0 rfl rfl 1 (by decide) (hT _ t_534) (fun _ h9 => h9) rfl dX11_feed_74 ?_
      have hP9 := hP.sub (ws' := []) [] rfl
      have hD9 := hD.sub (ws' := []) [] (by decide) rfl
      refine W.widen (k := 0) (n := 0) (Nat.le_of_ble_eq_true rfl) (Nat.le_of_ble_eq_true rfl) ?_
      exact W.iret (v := 8) hx hb hr (fun t ht hW => ⟨⟨8, (), rfl, (by decide), by rw [ht]; exact hP9, hD9⟩, hS.F ht⟩) hS.2.2 dX11_feed_77

set_option maxHeartbeats 4000000 in
set_option maxRecDepth 100000 in
theorem m_feed (l : Launch) (D : va_G) (cy : Nat → ClassId) (sz : Nat) (hm : Nat) (ma : Nat → Nat) (p0 : Int64) (p1 : Int32) : Met l yX12_feed (.code yX12_feed cX12_feed 5 (some .int) :: TB) ({ frames := 0, cells := 0, slots := 0, locals := 0 }) (va_Pc [.ref hm, .long p0, .int p1] (fun U => U.heap.size = sz ∧ va_P D vwCl [(hm, .inr (12, [.int 0, .ref (ma 1), .int 0, .int (-1), .ref (ma 4), .int 0, .int 0, .int 0, .long 0, .int 0, .int 0, .int 0, .int 0, .long 0, .int 0, .int 0, .int 0, .ref (ma 17), .ref (ma 18), .ref (ma 19), .ref (ma 20), .ref (ma 21), .ref (ma 22), .ref (ma 23), .ref (ma 24), .ref (ma 25), .ref (ma 26), .ref (ma 27), .ref (ma 28), .ref (ma 29), .ref (ma 30), .ref (ma 31), .ref (ma 32), .ref (ma 33), .ref (ma 34), .ref (ma 35), .ref (ma 36), .ref (ma 37), .ref (ma 38), .ref (ma 39), .ref (ma 40), .ref (ma 41), .ref (ma 42), .ref (ma 43), .ref (ma 44), .ref (ma 45), .ref (ma 46), .ref (ma 47), .ref (ma 48), .int 0, .int 0, .int 0, .int 0, .int 0, .int 0, .int 0, .int 0, .int 0, .int 0, .ref (ma 59), .ref (ma 60), .int 0, .int 0, .int 0, .int 0, .int 0, .int 0, .ref (ma 67), .ref (ma 68), .ref (ma 69), .int 0, .int (-1), .int 0, .ref (ma 73)])), ((ma 1), .inl (cy 0, 1600, .inl (fun _ => 0)))] U.heap ∧ va_K D vwCl (TY cy) U ∧ va_D (fun _ => True) [(hm, .inr (12, [.int 0, .ref (ma 1), .int 0, .int (-1), .ref (ma 4), .int 0, .int 0, .int 0, .long 0, .int 0, .int 0, .int 0, .int 0, .long 0, .int 0, .int 0, .int 0, .ref (ma 17), .ref (ma 18), .ref (ma 19), .ref (ma 20), .ref (ma 21), .ref (ma 22), .ref (ma 23), .ref (ma 24), .ref (ma 25), .ref (ma 26), .ref (ma 27), .ref (ma 28), .ref (ma 29), .ref (ma 30), .ref (ma 31), .ref (ma 32), .ref (ma 33), .ref (ma 34), .ref (ma 35), .ref (ma 36), .ref (ma 37), .ref (ma 38), .ref (ma 39), .ref (ma 40), .ref (ma 41), .ref (ma 42), .ref (ma 43), .ref (ma 44), .ref (ma 45), .ref (ma 46), .ref (ma 47), .ref (ma 48), .int 0, .int 0, .int 0, .int 0, .int 0, .int 0, .int 0, .int 0, .int 0, .int 0, .ref (ma 59), .ref (ma 60), .int 0, .int 0, .int 0, .int 0, .int 0, .int 0, .ref (ma 67), .ref (ma 68), .ref (ma 69), .int 0, .int (-1), .int 0, .ref (ma 73)])), ((ma 1), .inl (cy 0, 1600, .inl (fun _ => 0)))])) (va_Qi (fun (r : Int32) (u : Unit) => r = fd p1) (fun (u : Unit) t => va_P D vwCl [] t.heap ∧ va_D (va_A [(hm, .inr (12, [.int 0, .ref (ma 1), .int 0, .int (-1), .ref (ma 4), .int 0, .int 0, .int 0, .long 0, .int 0, .int 0, .int 0, .int 0, .long 0, .int 0, .int 0, .int 0, .ref (ma 17), .ref (ma 18), .ref (ma 19), .ref (ma 20), .ref (ma 21), .ref (ma 22), .ref (ma 23), .ref (ma 24), .ref (ma 25), .ref (ma 26), .ref (ma 27), .ref (ma 28), .ref (ma 29), .ref (ma 30), .ref (ma 31), .ref (ma 32), .ref (ma 33), .ref (ma 34), .ref (ma 35), .ref (ma 36), .ref (ma 37), .ref (ma 38), .ref (ma 39), .ref (ma 40), .ref (ma 41), .ref (ma 42), .ref (ma 43), .ref (ma 44), .ref (ma 45), .ref (ma 46), .ref (ma 47), .ref (ma 48), .int 0, .int 0, .int 0, .int 0, .int 0, .int 0, .int 0, .int 0, .int 0, .int 0, .ref (ma 59), .ref (ma 60), .int 0, .int 0, .int 0, .int 0, .int 0, .int 0, .ref (ma 67), .ref (ma 68), .ref (ma 69), .int 0, .int (-1), .int 0, .ref (ma 73)])), ((ma 1), .inl (cy 0, 1600, .inl (fun _ => 0)))] sz) []) (va_A [(hm, .inr (12, [.int 0, .ref (ma 1), .int 0, .int (-1), .ref (ma 4), .int 0, .int 0, .int 0, .long 0, .int 0, .int 0, .int 0, .int 0, .long 0, .int 0, .int 0, .int 0, .ref (ma 17), .ref (ma 18), .ref (ma 19), .ref (ma 20), .ref (ma 21), .ref (ma 22), .ref (ma 23), .ref (ma 24), .ref (ma 25), .ref (ma 26), .ref (ma 27), .ref (ma 28), .ref (ma 29), .ref (ma 30), .ref (ma 31), .ref (ma 32), .ref (ma 33), .ref (ma 34), .ref (ma 35), .ref (ma 36), .ref (ma 37), .ref (ma 38), .ref (ma 39), .ref (ma 40), .ref (ma 41), .ref (ma 42), .ref (ma 43), .ref (ma 44), .ref (ma 45), .ref (ma 46), .ref (ma 47), .ref (ma 48), .int 0, .int 0, .int 0, .int 0, .int 0, .int 0, .int 0, .int 0, .int 0, .int 0, .ref (ma 59), .ref (ma 60), .int 0, .int 0, .int 0, .int 0, .int 0, .int 0, .ref (ma 67), .ref (ma 68), .ref (ma 69), .int 0, .int (-1), .int 0, .ref (ma 73)])), ((ma 1), .inl (cy 0, 1600, .inl (fun _ => 0)))] sz)) 0 0 (va_A [(hm, .inr (12, [.int 0, .ref (ma 1), .int 0, .int (-1), .ref (ma 4), .int 0, .int 0, .int 0, .long 0, .int 0, .int 0, .int 0, .int 0, .long 0, .int 0, .int 0, .int 0, .ref (ma 17), .ref (ma 18), .ref (ma 19), .ref (ma 20), .ref (ma 21), .ref (ma 22), .ref (ma 23), .ref (ma 24), .ref (ma 25), .ref (ma 26), .ref (ma 27), .ref (ma 28), .ref (ma 29), .ref (ma 30), .ref (ma 31), .ref (ma 32), .ref (ma 33), .ref (ma 34), .ref (ma 35), .ref (ma 36), .ref (ma 37), .ref (ma 38), .ref (ma 39), .ref (ma 40), .ref (ma 41), .ref (ma 42), .ref (ma 43), .ref (ma 44), .ref (ma 45), .ref (ma 46), .ref (ma 47), .ref (ma 48), .int 0, .int 0, .int 0, .int 0, .int 0, .int 0, .int 0, .int 0, .int 0, .int 0, .ref (ma 59), .ref (ma 60), .int 0, .int 0, .int 0, .int 0, .int 0, .int 0, .ref (ma 67), .ref (ma 68), .ref (ma 69), .int 0, .int (-1), .int 0, .ref (ma 73)])), ((ma 1), .inl (cy 0, 1600, .inl (fun _ => 0)))] sz) := by
  refine Met.ofW (cc := cX12_feed) (maxL := 5) (ret := (some .int)) (by decide) rfl ?_
  intro p e s m args below meth c s₁ B hml hv
  obtain ⟨rfl, hsz, hP, hK, hD0⟩ := hv
  have hx := B.exec
  have hb := B.bytes
  have hr := B.returns
  have hts := atoms_spec (ws := .code yX12_feed cX12_feed 5 (some .int) :: TB) B.pre
  have hT : ∀ w ∈ TB, w.before _ s = true := fun w h => hts w (List.mem_cons_of_mem _ h)
  have hown : s.vm.findClass "MakerStartsModel" = some m.cls := findClass_of_methodNamed B.named
  have hlocks := B.notSynchronized
  subst hsz
  have hD := hD0.self (sz := s.heap.size)
  generalize hAe : va_A [(hm, .inr (12, [.int 0, .ref (ma 1), .int 0, .int (-1), .ref (ma 4), .int 0, .int 0, .int 0, .long 0, .int 0, .int 0, .int 0, .int 0, .long 0, .int 0, .int 0, .int 0, .ref (ma 17), .ref (ma 18), .ref (ma 19), .ref (ma 20), .ref (ma 21), .ref (ma 22), .ref (ma 23), .ref (ma 24), .ref (ma 25), .ref (ma 26), .ref (ma 27), .ref (ma 28), .ref (ma 29), .ref (ma 30), .ref (ma 31), .ref (ma 32), .ref (ma 33), .ref (ma 34), .ref (ma 35), .ref (ma 36), .ref (ma 37), .ref (ma 38), .ref (ma 39), .ref (ma 40), .ref (ma 41), .ref (ma 42), .ref (ma 43), .ref (ma 44), .ref (ma 45), .ref (ma 46), .ref (ma 47), .ref (ma 48), .int 0, .int 0, .int 0, .int 0, .int 0, .int 0, .int 0, .int 0, .int 0, .int 0, .ref (ma 59), .ref (ma 60), .int 0, .int 0, .int 0, .int 0, .int 0, .int 0, .ref (ma 67), .ref (ma 68), .ref (ma 69), .int 0, .int (-1), .int 0, .ref (ma 73)])), ((ma 1), .inl (cy 0, 1600, .inl (fun _ => 0)))] s.heap.size = A at hD  ⊢
  have hA : ∀ q : Nat, s.heap.size ≤ q → A q := fun q h => by rw [← hAe]; exact Or.inr h
  have hS : va_S A s.heap s.heap [] := va_S.rf
  have hP : va_P D vwCl [(hm, .inr (12, [.int 0, .ref (ma 1), .int 0, .int (-1), .ref (ma 4), .int 0, .int 0, .int 0, .long 0, .int 0, .int 0, .int 0, .int 0, .long 0, .int 0, .int 0, .int 0, .ref (ma 17), .ref (ma 18), .ref (ma 19), .ref (ma 20), .ref (ma 21), .ref (ma 22), .ref (ma 23), .ref (ma 24), .ref (ma 25), .ref (ma 26), .ref (ma 27), .ref (ma 28), .ref (ma 29), .ref (ma 30), .ref (ma 31), .ref (ma 32), .ref (ma 33), .ref (ma 34), .ref (ma 35), .ref (ma 36), .ref (ma 37), .ref (ma 38), .ref (ma 39), .ref (ma 40), .ref (ma 41), .ref (ma 42), .ref (ma 43), .ref (ma 44), .ref (ma 45), .ref (ma 46), .ref (ma 47), .ref (ma 48), .int 0, .int 0, .int 0, .int 0, .int 0, .int 0, .int 0, .int 0, .int 0, .int 0, .ref (ma 59), .ref (ma 60), .int 0, .int 0, .int 0, .int 0, .int 0, .int 0, .ref (ma 67), .ref (ma 68), .ref (ma 69), .int 0, .int (-1), .int 0, .ref (ma 73)])), ((ma 1), .inl (cy 0, 1600, .inl (fun _ => 0)))] s.heap := hP
  have hl := lv_entry ([.ref hm, .long p0, .int p1]) (n := 5) (Nat.le_of_ble_eq_true rfl)
  rw [lg_entry_eq]
  generalize (lg_sl ([.ref hm, .long p0, .int p1]) ++ List.replicate (5 - (lg_sl ([.ref hm, .long p0, .int p1])).length) Slot.unset).toArray = ls at hl ⊢
  have hl : lv_has ls 5 [(0, .ref hm), (1, .long p0), (3, .int p1)] := hl
  rcases pk_ix p1 (n := 9) (by decide) with h9 | h9 | ⟨j9, hj9, rfl⟩
  · refine lv_aload_n hx hb dX12_feed_0 rfl (lv_at hl 0 rfl) ?_
    refine lv_iconst (v := 0) hx hb dX12_feed_1 (by decide) ?_
    refine va_put (D := D) (ci := 12) (v := .int 0) (ty := .int) (C := RX12) (T := TX12) (N := 74) hx hb hT i_TX12 tyX12 tyX12_ok nmX12 hown hK hP hD hS 0 rfl rfl 0 (by decide) (hT _ t_1715) (fun _ h9 => h9) rfl (by decide +kernel) rfl rfl (Nat.le_of_ble_eq_true rfl) dX12_feed_2 (fun H locs hP hD hS => ?_)
    have hP : va_P D vwCl [(hm, .inr (12, [.int 0, .ref (ma 1), .int 0, .int (-1), .ref (ma 4), .int 0, .int 0, .int 0, .long 0, .int 0, .int 0, .int 0, .int 0, .long 0, .int 0, .int 0, .int 0, .ref (ma 17), .ref (ma 18), .ref (ma 19), .ref (ma 20), .ref (ma 21), .ref (ma 22), .ref (ma 23), .ref (ma 24), .ref (ma 25), .ref (ma 26), .ref (ma 27), .ref (ma 28), .ref (ma 29), .ref (ma 30), .ref (ma 31), .ref (ma 32), .ref (ma 33), .ref (ma 34), .ref (ma 35), .ref (ma 36), .ref (ma 37), .ref (ma 38), .ref (ma 39), .ref (ma 40), .ref (ma 41), .ref (ma 42), .ref (ma 43), .ref (ma 44), .ref (ma 45), .ref (ma 46), .ref (ma 47), .ref (ma 48), .int 0, .int 0, .int 0, .int 0, .int 0, .int 0, .int 0, .int 0, .int 0, .int 0, .ref (ma 59), .ref (ma 60), .int 0, .int 0, .int 0, .int 0, .int 0, .int 0, .ref (ma 67), .ref (ma 68), .ref (ma 69), .int 0, .int (-1), .int 0, .ref (ma 73)])), ((ma 1), .inl (cy 0, 1600, .inl (fun _ => 0)))] H := hP
    have hD : va_D A [(hm, .inr (12, [.int 0, .ref (ma 1), .int 0, .int (-1), .ref (ma 4), .int 0, .int 0, .int 0, .long 0, .int 0, .int 0, .int 0, .int 0, .long 0, .int 0, .int 0, .int 0, .ref (ma 17), .ref (ma 18), .ref (ma 19), .ref (ma 20), .ref (ma 21), .ref (ma 22), .ref (ma 23), .ref (ma 24), .ref (ma 25), .ref (ma 26), .ref (ma 27), .ref (ma 28), .ref (ma 29), .ref (ma 30), .ref (ma 31), .ref (ma 32), .ref (ma 33), .ref (ma 34), .ref (ma 35), .ref (ma 36), .ref (ma 37), .ref (ma 38), .ref (ma 39), .ref (ma 40), .ref (ma 41), .ref (ma 42), .ref (ma 43), .ref (ma 44), .ref (ma 45), .ref (ma 46), .ref (ma 47), .ref (ma 48), .int 0, .int 0, .int 0, .int 0, .int 0, .int 0, .int 0, .int 0, .int 0, .int 0, .ref (ma 59), .ref (ma 60), .int 0, .int 0, .int 0, .int 0, .int 0, .int 0, .ref (ma 67), .ref (ma 68), .ref (ma 69), .int 0, .int (-1), .int 0, .ref (ma 73)])), ((ma 1), .inl (cy 0, 1600, .inl (fun _ => 0)))] := hD
    refine lv_iload_n hx hb dX12_feed_5 rfl (lv_at hl 2 rfl) ?_
    refine lv_iconst (v := 1) hx hb dX12_feed_6 (by decide) ?_
    refine lv_icmp_lt (tgt := 16) hx hb dX12_feed_7 (by decide) (fun _ => ?_) (fun c9 => absurd (fd_n h9) c9)
    refine lv_bipush (v := (-2)) hx hb dX12_feed_16 (by decide) ?_
    have hP9 := hP.sub (ws' := []) [] rfl
    have hD9 := hD.sub (ws' := []) [] (by decide) rfl
    refine W.widen (k := 0) (n := 0) (Nat.le_of_ble_eq_true rfl) (Nat.le_of_ble_eq_true rfl) ?_
    exact W.iret (v := (-2)) hx hb hr (fun t ht hW => ⟨⟨(-2), (), rfl, (fd_nv h9).symm, by rw [ht]; exact hP9, hD9⟩, hS.F ht⟩) hS.2.2 dX12_feed_18
  · refine lv_aload_n hx hb dX12_feed_0 rfl (lv_at hl 0 rfl) ?_
    refine lv_iconst (v := 0) hx hb dX12_feed_1 (by decide) ?_
    refine va_put (D := D) (ci := 12) (v := .int 0) (ty := .int) (C := RX12) (T := TX12) (N := 74) hx hb hT i_TX12 tyX12 tyX12_ok nmX12 hown hK hP hD hS 0 rfl rfl 0 (by decide) (hT _ t_1715) (fun _ h9 => h9) rfl (by decide +kernel) rfl rfl (Nat.le_of_ble_eq_true rfl) dX12_feed_2 (fun H locs hP hD hS => ?_)
    have hP : va_P D vwCl [(hm, .inr (12, [.int 0, .ref (ma 1), .int 0, .int (-1), .ref (ma 4), .int 0, .int 0, .int 0, .long 0, .int 0, .int 0, .int 0, .int 0, .long 0, .int 0, .int 0, .int 0, .ref (ma 17), .ref (ma 18), .ref (ma 19), .ref (ma 20), .ref (ma 21), .ref (ma 22), .ref (ma 23), .ref (ma 24), .ref (ma 25), .ref (ma 26), .ref (ma 27), .ref (ma 28), .ref (ma 29), .ref (ma 30), .ref (ma 31), .ref (ma 32), .ref (ma 33), .ref (ma 34), .ref (ma 35), .ref (ma 36), .ref (ma 37), .ref (ma 38), .ref (ma 39), .ref (ma 40), .ref (ma 41), .ref (ma 42), .ref (ma 43), .ref (ma 44), .ref (ma 45), .ref (ma 46), .ref (ma 47), .ref (ma 48), .int 0, .int 0, .int 0, .int 0, .int 0, .int 0, .int 0, .int 0, .int 0, .int 0, .ref (ma 59), .ref (ma 60), .int 0, .int 0, .int 0, .int 0, .int 0, .int 0, .ref (ma 67), .ref (ma 68), .ref (ma 69), .int 0, .int (-1), .int 0, .ref (ma 73)])), ((ma 1), .inl (cy 0, 1600, .inl (fun _ => 0)))] H := hP
    have hD : va_D A [(hm, .inr (12, [.int 0, .ref (ma 1), .int 0, .int (-1), .ref (ma 4), .int 0, .int 0, .int 0, .long 0, .int 0, .int 0, .int 0, .int 0, .long 0, .int 0, .int 0, .int 0, .ref (ma 17), .ref (ma 18), .ref (ma 19), .ref (ma 20), .ref (ma 21), .ref (ma 22), .ref (ma 23), .ref (ma 24), .ref (ma 25), .ref (ma 26), .ref (ma 27), .ref (ma 28), .ref (ma 29), .ref (ma 30), .ref (ma 31), .ref (ma 32), .ref (ma 33), .ref (ma 34), .ref (ma 35), .ref (ma 36), .ref (ma 37), .ref (ma 38), .ref (ma 39), .ref (ma 40), .ref (ma 41), .ref (ma 42), .ref (ma 43), .ref (ma 44), .ref (ma 45), .ref (ma 46), .ref (ma 47), .ref (ma 48), .int 0, .int 0, .int 0, .int 0, .int 0, .int 0, .int 0, .int 0, .int 0, .int 0, .ref (ma 59), .ref (ma 60), .int 0, .int 0, .int 0, .int 0, .int 0, .int 0, .ref (ma 67), .ref (ma 68), .ref (ma 69), .int 0, .int (-1), .int 0, .ref (ma 73)])), ((ma 1), .inl (cy 0, 1600, .inl (fun _ => 0)))] := hD
    refine lv_iload_n hx hb dX12_feed_5 rfl (lv_at hl 2 rfl) ?_
    refine lv_iconst (v := 1) hx hb dX12_feed_6 (by decide) ?_
    refine lv_icmp_lt (tgt := 16) hx hb dX12_feed_7 (by decide) (fun c9 => absurd c9 (fd_b1 h9)) (fun _ => ?_)
    refine lv_iload_n hx hb dX12_feed_10 rfl (lv_at hl 2 rfl) ?_
    refine lv_bipush (v := 8) hx hb dX12_feed_11 (by decide) ?_
    refine lv_icmp_le (tgt := 19) hx hb dX12_feed_13 (by decide) (fun c9 => absurd c9 (Int32.not_le.mpr (fd_b8 h9))) (fun _ => ?_)
    refine lv_bipush (v := (-2)) hx hb dX12_feed_16 (by decide) ?_
    have hP9 := hP.sub (ws' := []) [] rfl
    have hD9 := hD.sub (ws' := []) [] (by decide) rfl
    refine W.widen (k := 0) (n := 0) (Nat.le_of_ble_eq_true rfl) (Nat.le_of_ble_eq_true rfl) ?_
    exact W.iret (v := (-2)) hx hb hr (fun t ht hW => ⟨⟨(-2), (), rfl, (fd_bv h9).symm, by rw [ht]; exact hP9, hD9⟩, hS.F ht⟩) hS.2.2 dX12_feed_18
  · rcases (show j9 = 0 ∨ j9 = 1 ∨ j9 = 2 ∨ j9 = 3 ∨ j9 = 4 ∨ j9 = 5 ∨ j9 = 6 ∨ j9 = 7 ∨ j9 = 8 by omega) with rfl | rfl | rfl | rfl | rfl | rfl | rfl | rfl | rfl
    · refine lv_aload_n hx hb dX12_feed_0 rfl (lv_at hl 0 rfl) ?_
      refine lv_iconst (v := 0) hx hb dX12_feed_1 (by decide) ?_
      refine va_put (D := D) (ci := 12) (v := .int 0) (ty := .int) (C := RX12) (T := TX12) (N := 74) hx hb hT i_TX12 tyX12 tyX12_ok nmX12 hown hK hP hD hS 0 rfl rfl 0 (by decide) (hT _ t_1715) (fun _ h9 => h9) rfl (by decide +kernel) rfl rfl (Nat.le_of_ble_eq_true rfl) dX12_feed_2 (fun H locs hP hD hS => ?_)
      have hP : va_P D vwCl [(hm, .inr (12, [.int 0, .ref (ma 1), .int 0, .int (-1), .ref (ma 4), .int 0, .int 0, .int 0, .long 0, .int 0, .int 0, .int 0, .int 0, .long 0, .int 0, .int 0, .int 0, .ref (ma 17), .ref (ma 18), .ref (ma 19), .ref (ma 20), .ref (ma 21), .ref (ma 22), .ref (ma 23), .ref (ma 24), .ref (ma 25), .ref (ma 26), .ref (ma 27), .ref (ma 28), .ref (ma 29), .ref (ma 30), .ref (ma 31), .ref (ma 32), .ref (ma 33), .ref (ma 34), .ref (ma 35), .ref (ma 36), .ref (ma 37), .ref (ma 38), .ref (ma 39), .ref (ma 40), .ref (ma 41), .ref (ma 42), .ref (ma 43), .ref (ma 44), .ref (ma 45), .ref (ma 46), .ref (ma 47), .ref (ma 48), .int 0, .int 0, .int 0, .int 0, .int 0, .int 0, .int 0, .int 0, .int 0, .int 0, .ref (ma 59), .ref (ma 60), .int 0, .int 0, .int 0, .int 0, .int 0, .int 0, .ref (ma 67), .ref (ma 68), .ref (ma 69), .int 0, .int (-1), .int 0, .ref (ma 73)])), ((ma 1), .inl (cy 0, 1600, .inl (fun _ => 0)))] H := hP
      have hD : va_D A [(hm, .inr (12, [.int 0, .ref (ma 1), .int 0, .int (-1), .ref (ma 4), .int 0, .int 0, .int 0, .long 0, .int 0, .int 0, .int 0, .int 0, .long 0, .int 0, .int 0, .int 0, .ref (ma 17), .ref (ma 18), .ref (ma 19), .ref (ma 20), .ref (ma 21), .ref (ma 22), .ref (ma 23), .ref (ma 24), .ref (ma 25), .ref (ma 26), .ref (ma 27), .ref (ma 28), .ref (ma 29), .ref (ma 30), .ref (ma 31), .ref (ma 32), .ref (ma 33), .ref (ma 34), .ref (ma 35), .ref (ma 36), .ref (ma 37), .ref (ma 38), .ref (ma 39), .ref (ma 40), .ref (ma 41), .ref (ma 42), .ref (ma 43), .ref (ma 44), .ref (ma 45), .ref (ma 46), .ref (ma 47), .ref (ma 48), .int 0, .int 0, .int 0, .int 0, .int 0, .int 0, .int 0, .int 0, .int 0, .int 0, .ref (ma 59), .ref (ma 60), .int 0, .int 0, .int 0, .int 0, .int 0, .int 0, .ref (ma 67), .ref (ma 68), .ref (ma 69), .int 0, .int (-1), .int 0, .ref (ma 73)])), ((ma 1), .inl (cy 0, 1600, .inl (fun _ => 0)))] := hD
      refine lv_iload_n hx hb dX12_feed_5 rfl (lv_at hl 2 rfl) ?_
      refine lv_iconst (v := 1) hx hb dX12_feed_6 (by decide) ?_
      refine lv_icmp_lt (tgt := 16) hx hb dX12_feed_7 (by decide) (fun _ => ?_) (fun c9 => absurd (by decide) c9)
      refine lv_bipush (v := (-2)) hx hb dX12_feed_16 (by decide) ?_
      have hP9 := hP.sub (ws' := []) [] rfl
      have hD9 := hD.sub (ws' := []) [] (by decide) rfl
      refine W.widen (k := 0) (n := 0) (Nat.le_of_ble_eq_true rfl) (Nat.le_of_ble_eq_true rfl) ?_
      exact W.iret (v := (-2)) hx hb hr (fun t ht hW => ⟨⟨(-2), (), rfl, (by decide), by rw [ht]; exact hP9, hD9⟩, hS.F ht⟩) hS.2.2 dX12_feed_18
    · refine lv_aload_n hx hb dX12_feed_0 rfl (lv_at hl 0 rfl) ?_
      refine lv_iconst (v := 0) hx hb dX12_feed_1 (by decide) ?_
      refine va_put (D := D) (ci := 12) (v := .int 0) (ty := .int) (C := RX12) (T := TX12) (N := 74) hx hb hT i_TX12 tyX12 tyX12_ok nmX12 hown hK hP hD hS 0 rfl rfl 0 (by decide) (hT _ t_1715) (fun _ h9 => h9) rfl (by decide +kernel) rfl rfl (Nat.le_of_ble_eq_true rfl) dX12_feed_2 (fun H locs hP hD hS => ?_)
      have hP : va_P D vwCl [(hm, .inr (12, [.int 0, .ref (ma 1), .int 0, .int (-1), .ref (ma 4), .int 0, .int 0, .int 0, .long 0, .int 0, .int 0, .int 0, .int 0, .long 0, .int 0, .int 0, .int 0, .ref (ma 17), .ref (ma 18), .ref (ma 19), .ref (ma 20), .ref (ma 21), .ref (ma 22), .ref (ma 23), .ref (ma 24), .ref (ma 25), .ref (ma 26), .ref (ma 27), .ref (ma 28), .ref (ma 29), .ref (ma 30), .ref (ma 31), .ref (ma 32), .ref (ma 33), .ref (ma 34), .ref (ma 35), .ref (ma 36), .ref (ma 37), .ref (ma 38), .ref (ma 39), .ref (ma 40), .ref (ma 41), .ref (ma 42), .ref (ma 43), .ref (ma 44), .ref (ma 45), .ref (ma 46), .ref (ma 47), .ref (ma 48), .int 0, .int 0, .int 0, .int 0, .int 0, .int 0, .int 0, .int 0, .int 0, .int 0, .ref (ma 59), .ref (ma 60), .int 0, .int 0, .int 0, .int 0, .int 0, .int 0, .ref (ma 67), .ref (ma 68), .ref (ma 69), .int 0, .int (-1), .int 0, .ref (ma 73)])), ((ma 1), .inl (cy 0, 1600, .inl (fun _ => 0)))] H := hP
      have hD : va_D A [(hm, .inr (12, [.int 0, .ref (ma 1), .int 0, .int (-1), .ref (ma 4), .int 0, .int 0, .int 0, .long 0, .int 0, .int 0, .int 0, .int 0, .long 0, .int 0, .int 0, .int 0, .ref (ma 17), .ref (ma 18), .ref (ma 19), .ref (ma 20), .ref (ma 21), .ref (ma 22), .ref (ma 23), .ref (ma 24), .ref (ma 25), .ref (ma 26), .ref (ma 27), .ref (ma 28), .ref (ma 29), .ref (ma 30), .ref (ma 31), .ref (ma 32), .ref (ma 33), .ref (ma 34), .ref (ma 35), .ref (ma 36), .ref (ma 37), .ref (ma 38), .ref (ma 39), .ref (ma 40), .ref (ma 41), .ref (ma 42), .ref (ma 43), .ref (ma 44), .ref (ma 45), .ref (ma 46), .ref (ma 47), .ref (ma 48), .int 0, .int 0, .int 0, .int 0, .int 0, .int 0, .int 0, .int 0, .int 0, .int 0, .ref (ma 59), .ref (ma 60), .int 0, .int 0, .int 0, .int 0, .int 0, .int 0, .ref (ma 67), .ref (ma 68), .ref (ma 69), .int 0, .int (-1), .int 0, .ref (ma 73)])), ((ma 1), .inl (cy 0, 1600, .inl (fun _ => 0)))] := hD
      refine lv_iload_n hx hb dX12_feed_5 rfl (lv_at hl 2 rfl) ?_
      refine lv_iconst (v := 1) hx hb dX12_feed_6 (by decide) ?_
      refine lv_icmp_lt (tgt := 16) hx hb dX12_feed_7 (by decide) (fun c9 => absurd c9 (by decide)) (fun _ => ?_)
      refine lv_iload_n hx hb dX12_feed_10 rfl (lv_at hl 2 rfl) ?_
      refine lv_bipush (v := 8) hx hb dX12_feed_11 (by decide) ?_
      refine lv_icmp_le (tgt := 19) hx hb dX12_feed_13 (by decide) (fun _ => ?_) (fun c9 => absurd (by decide) c9)
      refine lv_aload_n hx hb dX12_feed_19 rfl (lv_at hl 0 rfl) ?_
      refine va_get (D := D) (ci := 12) (v := .int 0) (C := RX12) (T := TX12) (N := 74) hx hb hT i_TX12 hown hK hP 0 rfl rfl 2 (by decide) (hT _ t_1717) (fun _ h9 => h9) rfl dX12_feed_20 ?_
      refine lv_iload_n hx hb dX12_feed_23 rfl (lv_at hl 2 rfl) ?_
      refine lv_iadd hx hb dX12_feed_24 ?_
      refine lv_topi (fun z1 e2 => ?_)
      obtain rfl : z1 = 1 := e2.trans (by first | decide | rfl)
      refine lv_sipush (v := 1600) hx hb dX12_feed_25 (by decide) ?_
      refine lv_icmp_le (tgt := 34) hx hb dX12_feed_28 (by decide) (fun _ => ?_) (fun c9 => absurd (by decide) c9)
      refine lv_iload_n hx hb dX12_feed_34 rfl (lv_at hl 2 rfl) ?_
      refine lv_iconst (v := 1) hx hb dX12_feed_35 (by decide) ?_
      refine lv_isub hx hb dX12_feed_36 ?_
      refine lv_topi (fun z3 e4 => ?_)
      obtain rfl : z3 = 0 := e4.trans (by first | decide | rfl)
      refine lv_istore (lv' := [(4, .int 0), (0, .ref hm), (1, .long p0), (3, .int (nI 1))]) hx hb dX12_feed_37 hl (by decide) rfl (fun ls hl => ?_)
      refine lv_iload hx hb dX12_feed_39 (lv_at hl 0 rfl) ?_
      refine lv_if_lt (tgt := 78) hx hb dX12_feed_41 (by decide) (fun c9 => absurd c9 (by decide)) (fun _ => ?_)
      refine lv_aload_n hx hb dX12_feed_44 rfl (lv_at hl 1 rfl) ?_
      refine va_get (D := D) (ci := 12) (v := .ref (ma 1)) (C := RX12) (T := TX12) (N := 74) hx hb hT i_TX12 hown hK hP 0 rfl rfl 1 (by decide) (hT _ t_1716) (fun _ h9 => h9) rfl dX12_feed_45 ?_
      refine lv_aload_n hx hb dX12_feed_48 rfl (lv_at hl 1 rfl) ?_
      refine va_get (D := D) (ci := 12) (v := .int 0) (C := RX12) (T := TX12) (N := 74) hx hb hT i_TX12 hown hK hP 0 rfl rfl 2 (by decide) (hT _ t_1717) (fun _ h9 => h9) rfl dX12_feed_49 ?_
      refine lv_lload_n hx hb dX12_feed_52 rfl (lv_at hl 2 rfl) ?_
      refine lv_bipush (v := 8) hx hb dX12_feed_53 (by decide) ?_
      refine lv_iload hx hb dX12_feed_55 (lv_at hl 0 rfl) ?_
      refine lv_imul hx hb dX12_feed_57 ?_
      refine lv_topi (fun z5 e6 => ?_)
      obtain rfl : z5 = 0 := e6.trans (by first | decide | rfl)
      refine lv_lshr hx hb dX12_feed_58 rfl ?_
      refine lv_topl (fun z7 e8 => ?_)
      refine lv_l2i hx hb dX12_feed_59 rfl ?_
      refine lv_topi (fun z9 e10 => ?_)
      refine lv_i2b hx hb dX12_feed_60 rfl ?_
      refine lv_topi (fun z11 e12 => ?_)
      refine va_bast hx hb hK hP hD hS 1 0 rfl rfl (vp_in_iff.mpr (by decide)) dX12_feed_61 (fun H locs hP hD hS => ?_)
      have hP : va_P D vwCl [(hm, .inr (12, [.int 0, .ref (ma 1), .int 0, .int (-1), .ref (ma 4), .int 0, .int 0, .int 0, .long 0, .int 0, .int 0, .int 0, .int 0, .long 0, .int 0, .int 0, .int 0, .ref (ma 17), .ref (ma 18), .ref (ma 19), .ref (ma 20), .ref (ma 21), .ref (ma 22), .ref (ma 23), .ref (ma 24), .ref (ma 25), .ref (ma 26), .ref (ma 27), .ref (ma 28), .ref (ma 29), .ref (ma 30), .ref (ma 31), .ref (ma 32), .ref (ma 33), .ref (ma 34), .ref (ma 35), .ref (ma 36), .ref (ma 37), .ref (ma 38), .ref (ma 39), .ref (ma 40), .ref (ma 41), .ref (ma 42), .ref (ma 43), .ref (ma 44), .ref (ma 45), .ref (ma 46), .ref (ma 47), .ref (ma 48), .int 0, .int 0, .int 0, .int 0, .int 0, .int 0, .int 0, .int 0, .int 0, .int 0, .ref (ma 59), .ref (ma 60), .int 0, .int 0, .int 0, .int 0, .int 0, .int 0, .ref (ma 67), .ref (ma 68), .ref (ma 69), .int 0, .int (-1), .int 0, .ref (ma 73)])), ((ma 1), .inl (cy 0, 1600, .inl (upd (fun _ => 0) (0 : Int32).toNatClampNeg (vp_nar .byte z11))))] H := hP
      have hD : va_D A [(hm, .inr (12, [.int 0, .ref (ma 1), .int 0, .int (-1), .ref (ma 4), .int 0, .int 0, .int 0, .long 0, .int 0, .int 0, .int 0, .int 0, .long 0, .int 0, .int 0, .int 0, .ref (ma 17), .ref (ma 18), .ref (ma 19), .ref (ma 20), .ref (ma 21), .ref (ma 22), .ref (ma 23), .ref (ma 24), .ref (ma 25), .ref (ma 26), .ref (ma 27), .ref (ma 28), .ref (ma 29), .ref (ma 30), .ref (ma 31), .ref (ma 32), .ref (ma 33), .ref (ma 34), .ref (ma 35), .ref (ma 36), .ref (ma 37), .ref (ma 38), .ref (ma 39), .ref (ma 40), .ref (ma 41), .ref (ma 42), .ref (ma 43), .ref (ma 44), .ref (ma 45), .ref (ma 46), .ref (ma 47), .ref (ma 48), .int 0, .int 0, .int 0, .int 0, .int 0, .int 0, .int 0, .int 0, .int 0, .int 0, .ref (ma 59), .ref (ma 60), .int 0, .int 0, .int 0, .int 0, .int 0, .int 0, .ref (ma 67), .ref (ma 68), .ref (ma 69), .int 0, .int (-1), .int 0, .ref (ma 73)])), ((ma 1), .inl (cy 0, 1600, .inl (upd (fun _ => 0) (0 : Int32).toNatClampNeg (vp_nar .byte z11))))] := hD
      generalize hff13 : (upd (fun _ => 0) (0 : Int32).toNatClampNeg (vp_nar .byte z11)) = f13 at hP hD
      refine lv_aload_n hx hb dX12_feed_62 rfl (lv_at hl 1 rfl) ?_
      refine lv_dup hx hb dX12_feed_63 rfl ?_
      refine va_get (D := D) (ci := 12) (v := .int 0) (C := RX12) (T := TX12) (N := 74) hx hb hT i_TX12 hown hK hP 0 rfl rfl 2 (by decide) (hT _ t_1717) (fun _ h9 => h9) rfl dX12_feed_64 ?_
      refine lv_iconst (v := 1) hx hb dX12_feed_67 (by decide) ?_
      refine lv_iadd hx hb dX12_feed_68 ?_
      refine lv_topi (fun z14 e15 => ?_)
      obtain rfl : z14 = 1 := e15.trans (by first | decide | rfl)
      refine va_put (D := D) (ci := 12) (v := .int 1) (ty := .int) (C := RX12) (T := TX12) (N := 74) hx hb hT i_TX12 tyX12 tyX12_ok nmX12 hown hK hP hD hS 0 rfl rfl 2 (by decide) (hT _ t_1717) (fun _ h9 => h9) rfl (by decide +kernel) rfl rfl (Nat.le_of_ble_eq_true rfl) dX12_feed_69 (fun H locs hP hD hS => ?_)
      have hP : va_P D vwCl [(hm, .inr (12, [.int 0, .ref (ma 1), .int 1, .int (-1), .ref (ma 4), .int 0, .int 0, .int 0, .long 0, .int 0, .int 0, .int 0, .int 0, .long 0, .int 0, .int 0, .int 0, .ref (ma 17), .ref (ma 18), .ref (ma 19), .ref (ma 20), .ref (ma 21), .ref (ma 22), .ref (ma 23), .ref (ma 24), .ref (ma 25), .ref (ma 26), .ref (ma 27), .ref (ma 28), .ref (ma 29), .ref (ma 30), .ref (ma 31), .ref (ma 32), .ref (ma 33), .ref (ma 34), .ref (ma 35), .ref (ma 36), .ref (ma 37), .ref (ma 38), .ref (ma 39), .ref (ma 40), .ref (ma 41), .ref (ma 42), .ref (ma 43), .ref (ma 44), .ref (ma 45), .ref (ma 46), .ref (ma 47), .ref (ma 48), .int 0, .int 0, .int 0, .int 0, .int 0, .int 0, .int 0, .int 0, .int 0, .int 0, .ref (ma 59), .ref (ma 60), .int 0, .int 0, .int 0, .int 0, .int 0, .int 0, .ref (ma 67), .ref (ma 68), .ref (ma 69), .int 0, .int (-1), .int 0, .ref (ma 73)])), ((ma 1), .inl (cy 0, 1600, .inl f13))] H := hP
      have hD : va_D A [(hm, .inr (12, [.int 0, .ref (ma 1), .int 1, .int (-1), .ref (ma 4), .int 0, .int 0, .int 0, .long 0, .int 0, .int 0, .int 0, .int 0, .long 0, .int 0, .int 0, .int 0, .ref (ma 17), .ref (ma 18), .ref (ma 19), .ref (ma 20), .ref (ma 21), .ref (ma 22), .ref (ma 23), .ref (ma 24), .ref (ma 25), .ref (ma 26), .ref (ma 27), .ref (ma 28), .ref (ma 29), .ref (ma 30), .ref (ma 31), .ref (ma 32), .ref (ma 33), .ref (ma 34), .ref (ma 35), .ref (ma 36), .ref (ma 37), .ref (ma 38), .ref (ma 39), .ref (ma 40), .ref (ma 41), .ref (ma 42), .ref (ma 43), .ref (ma 44), .ref (ma 45), .ref (ma 46), .ref (ma 47), .ref (ma 48), .int 0, .int 0, .int 0, .int 0, .int 0, .int 0, .int 0, .int 0, .int 0, .int 0, .ref (ma 59), .ref (ma 60), .int 0, .int 0, .int 0, .int 0, .int 0, .int 0, .ref (ma 67), .ref (ma 68), .ref (ma 69), .int 0, .int (-1), .int 0, .ref (ma 73)])), ((ma 1), .inl (cy 0, 1600, .inl f13))] := hD
      refine lv_iinc (v := (-1)) (lv' := [(4, .int (-1)), (0, .ref hm), (1, .long p0), (3, .int (nI 1))]) hx hb dX12_feed_72 hl (k := 0) rfl (by decide) (by decide) rfl (fun ls hl => ?_)
      refine lv_goto (tgt := 39) hx hb dX12_feed_75 (by decide) ?_
      refine lv_iload hx hb dX12_feed_39 (lv_at hl 0 rfl) ?_
      refine lv_if_lt (tgt := 78) hx hb dX12_feed_41 (by decide) (fun _ => ?_) (fun c9 => absurd (by decide) c9)
      refine lv_aload_n hx hb dX12_feed_78 rfl (lv_at hl 1 rfl) ?_
      refine va_get (D := D) (ci := 12) (v := .int 1) (C := RX12) (T := TX12) (N := 74) hx hb hT i_TX12 hown hK hP 0 rfl rfl 2 (by decide) (hT _ t_1717) (fun _ h9 => h9) rfl dX12_feed_79 ?_
      have hP9 := hP.sub (ws' := []) [] rfl
      have hD9 := hD.sub (ws' := []) [] (by decide) rfl
      refine W.widen (k := 0) (n := 0) (Nat.le_of_ble_eq_true rfl) (Nat.le_of_ble_eq_true rfl) ?_
      exact W.iret (v := 1) hx hb hr (fun t ht hW => ⟨⟨1, (), rfl, (by decide), by rw [ht]; exact hP9, hD9⟩, hS.F ht⟩) hS.2.2 dX12_feed_82
    · refine lv_aload_n hx hb dX12_feed_0 rfl (lv_at hl 0 rfl) ?_
      refine lv_iconst (v := 0) hx hb dX12_feed_1 (by decide) ?_
      refine va_put (D := D) (ci := 12) (v := .int 0) (ty := .int) (C := RX12) (T := TX12) (N := 74) hx hb hT i_TX12 tyX12 tyX12_ok nmX12 hown hK hP hD hS 0 rfl rfl 0 (by decide) (hT _ t_1715) (fun _ h9 => h9) rfl (by decide +kernel) rfl rfl (Nat.le_of_ble_eq_true rfl) dX12_feed_2 (fun H locs hP hD hS => ?_)
      have hP : va_P D vwCl [(hm, .inr (12, [.int 0, .ref (ma 1), .int 0, .int (-1), .ref (ma 4), .int 0, .int 0, .int 0, .long 0, .int 0, .int 0, .int 0, .int 0, .long 0, .int 0, .int 0, .int 0, .ref (ma 17), .ref (ma 18), .ref (ma 19), .ref (ma 20), .ref (ma 21), .ref (ma 22), .ref (ma 23), .ref (ma 24), .ref (ma 25), .ref (ma 26), .ref (ma 27), .ref (ma 28), .ref (ma 29), .ref (ma 30), .ref (ma 31), .ref (ma 32), .ref (ma 33), .ref (ma 34), .ref (ma 35), .ref (ma 36), .ref (ma 37), .ref (ma 38), .ref (ma 39), .ref (ma 40), .ref (ma 41), .ref (ma 42), .ref (ma 43), .ref (ma 44), .ref (ma 45), .ref (ma 46), .ref (ma 47), .ref (ma 48), .int 0, .int 0, .int 0, .int 0, .int 0, .int 0, .int 0, .int 0, .int 0, .int 0, .ref (ma 59), .ref (ma 60), .int 0, .int 0, .int 0, .int 0, .int 0, .int 0, .ref (ma 67), .ref (ma 68), .ref (ma 69), .int 0, .int (-1), .int 0, .ref (ma 73)])), ((ma 1), .inl (cy 0, 1600, .inl (fun _ => 0)))] H := hP
      have hD : va_D A [(hm, .inr (12, [.int 0, .ref (ma 1), .int 0, .int (-1), .ref (ma 4), .int 0, .int 0, .int 0, .long 0, .int 0, .int 0, .int 0, .int 0, .long 0, .int 0, .int 0, .int 0, .ref (ma 17), .ref (ma 18), .ref (ma 19), .ref (ma 20), .ref (ma 21), .ref (ma 22), .ref (ma 23), .ref (ma 24), .ref (ma 25), .ref (ma 26), .ref (ma 27), .ref (ma 28), .ref (ma 29), .ref (ma 30), .ref (ma 31), .ref (ma 32), .ref (ma 33), .ref (ma 34), .ref (ma 35), .ref (ma 36), .ref (ma 37), .ref (ma 38), .ref (ma 39), .ref (ma 40), .ref (ma 41), .ref (ma 42), .ref (ma 43), .ref (ma 44), .ref (ma 45), .ref (ma 46), .ref (ma 47), .ref (ma 48), .int 0, .int 0, .int 0, .int 0, .int 0, .int 0, .int 0, .int 0, .int 0, .int 0, .ref (ma 59), .ref (ma 60), .int 0, .int 0, .int 0, .int 0, .int 0, .int 0, .ref (ma 67), .ref (ma 68), .ref (ma 69), .int 0, .int (-1), .int 0, .ref (ma 73)])), ((ma 1), .inl (cy 0, 1600, .inl (fun _ => 0)))] := hD
      refine lv_iload_n hx hb dX12_feed_5 rfl (lv_at hl 2 rfl) ?_
      refine lv_iconst (v := 1) hx hb dX12_feed_6 (by decide) ?_
      refine lv_icmp_lt (tgt := 16) hx hb dX12_feed_7 (by decide) (fun c9 => absurd c9 (by decide)) (fun _ => ?_)
      refine lv_iload_n hx hb dX12_feed_10 rfl (lv_at hl 2 rfl) ?_
      refine lv_bipush (v := 8) hx hb dX12_feed_11 (by decide) ?_
      refine lv_icmp_le (tgt := 19) hx hb dX12_feed_13 (by decide) (fun _ => ?_) (fun c9 => absurd (by decide) c9)
      refine lv_aload_n hx hb dX12_feed_19 rfl (lv_at hl 0 rfl) ?_
      refine va_get (D := D) (ci := 12) (v := .int 0) (C := RX12) (T := TX12) (N := 74) hx hb hT i_TX12 hown hK hP 0 rfl rfl 2 (by decide) (hT _ t_1717) (fun _ h9 => h9) rfl dX12_feed_20 ?_
      refine lv_iload_n hx hb dX12_feed_23 rfl (lv_at hl 2 rfl) ?_
      refine lv_iadd hx hb dX12_feed_24 ?_
      refine lv_topi (fun z16 e17 => ?_)
      obtain rfl : z16 = 2 := e17.trans (by first | decide | rfl)
      refine lv_sipush (v := 1600) hx hb dX12_feed_25 (by decide) ?_
      refine lv_icmp_le (tgt := 34) hx hb dX12_feed_28 (by decide) (fun _ => ?_) (fun c9 => absurd (by decide) c9)
      refine lv_iload_n hx hb dX12_feed_34 rfl (lv_at hl 2 rfl) ?_
      refine lv_iconst (v := 1) hx hb dX12_feed_35 (by decide) ?_
      refine lv_isub hx hb dX12_feed_36 ?_
      refine lv_topi (fun z18 e19 => ?_)
      obtain rfl : z18 = 1 := e19.trans (by first | decide | rfl)
      refine lv_istore (lv' := [(4, .int 1), (0, .ref hm), (1, .long p0), (3, .int (nI 2))]) hx hb dX12_feed_37 hl (by decide) rfl (fun ls hl => ?_)
      refine lv_iload hx hb dX12_feed_39 (lv_at hl 0 rfl) ?_
      refine lv_if_lt (tgt := 78) hx hb dX12_feed_41 (by decide) (fun c9 => absurd c9 (by decide)) (fun _ => ?_)
      refine lv_aload_n hx hb dX12_feed_44 rfl (lv_at hl 1 rfl) ?_
      refine va_get (D := D) (ci := 12) (v := .ref (ma 1)) (C := RX12) (T := TX12) (N := 74) hx hb hT i_TX12 hown hK hP 0 rfl rfl 1 (by decide) (hT _ t_1716) (fun _ h9 => h9) rfl dX12_feed_45 ?_
      refine lv_aload_n hx hb dX12_feed_48 rfl (lv_at hl 1 rfl) ?_
      refine va_get (D := D) (ci := 12) (v := .int 0) (C := RX12) (T := TX12) (N := 74) hx hb hT i_TX12 hown hK hP 0 rfl rfl 2 (by decide) (hT _ t_1717) (fun _ h9 => h9) rfl dX12_feed_49 ?_
      refine lv_lload_n hx hb dX12_feed_52 rfl (lv_at hl 2 rfl) ?_
      refine lv_bipush (v := 8) hx hb dX12_feed_53 (by decide) ?_
      refine lv_iload hx hb dX12_feed_55 (lv_at hl 0 rfl) ?_
      refine lv_imul hx hb dX12_feed_57 ?_
      refine lv_topi (fun z20 e21 => ?_)
      obtain rfl : z20 = 8 := e21.trans (by first | decide | rfl)
      refine lv_lshr hx hb dX12_feed_58 rfl ?_
      refine lv_topl (fun z22 e23 => ?_)
      refine lv_l2i hx hb dX12_feed_59 rfl ?_
      refine lv_topi (fun z24 e25 => ?_)
      refine lv_i2b hx hb dX12_feed_60 rfl ?_
      refine lv_topi (fun z26 e27 => ?_)
      refine va_bast hx hb hK hP hD hS 1 0 rfl rfl (vp_in_iff.mpr (by decide)) dX12_feed_61 (fun H locs hP hD hS => ?_)
      have hP : va_P D vwCl [(hm, .inr (12, [.int 0, .ref (ma 1), .int 0, .int (-1), .ref (ma 4), .int 0, .int 0, .int 0, .long 0, .int 0, .int 0, .int 0, .int 0, .long 0, .int 0, .int 0, .int 0, .ref (ma 17), .ref (ma 18), .ref (ma 19), .ref (ma 20), .ref (ma 21), .ref (ma 22), .ref (ma 23), .ref (ma 24), .ref (ma 25), .ref (ma 26), .ref (ma 27), .ref (ma 28), .ref (ma 29), .ref (ma 30), .ref (ma 31), .ref (ma 32), .ref (ma 33), .ref (ma 34), .ref (ma 35), .ref (ma 36), .ref (ma 37), .ref (ma 38), .ref (ma 39), .ref (ma 40), .ref (ma 41), .ref (ma 42), .ref (ma 43), .ref (ma 44), .ref (ma 45), .ref (ma 46), .ref (ma 47), .ref (ma 48), .int 0, .int 0, .int 0, .int 0, .int 0, .int 0, .int 0, .int 0, .int 0, .int 0, .ref (ma 59), .ref (ma 60), .int 0, .int 0, .int 0, .int 0, .int 0, .int 0, .ref (ma 67), .ref (ma 68), .ref (ma 69), .int 0, .int (-1), .int 0, .ref (ma 73)])), ((ma 1), .inl (cy 0, 1600, .inl (upd (fun _ => 0) (0 : Int32).toNatClampNeg (vp_nar .byte z26))))] H := hP
      have hD : va_D A [(hm, .inr (12, [.int 0, .ref (ma 1), .int 0, .int (-1), .ref (ma 4), .int 0, .int 0, .int 0, .long 0, .int 0, .int 0, .int 0, .int 0, .long 0, .int 0, .int 0, .int 0, .ref (ma 17), .ref (ma 18), .ref (ma 19), .ref (ma 20), .ref (ma 21), .ref (ma 22), .ref (ma 23), .ref (ma 24), .ref (ma 25), .ref (ma 26), .ref (ma 27), .ref (ma 28), .ref (ma 29), .ref (ma 30), .ref (ma 31), .ref (ma 32), .ref (ma 33), .ref (ma 34), .ref (ma 35), .ref (ma 36), .ref (ma 37), .ref (ma 38), .ref (ma 39), .ref (ma 40), .ref (ma 41), .ref (ma 42), .ref (ma 43), .ref (ma 44), .ref (ma 45), .ref (ma 46), .ref (ma 47), .ref (ma 48), .int 0, .int 0, .int 0, .int 0, .int 0, .int 0, .int 0, .int 0, .int 0, .int 0, .ref (ma 59), .ref (ma 60), .int 0, .int 0, .int 0, .int 0, .int 0, .int 0, .ref (ma 67), .ref (ma 68), .ref (ma 69), .int 0, .int (-1), .int 0, .ref (ma 73)])), ((ma 1), .inl (cy 0, 1600, .inl (upd (fun _ => 0) (0 : Int32).toNatClampNeg (vp_nar .byte z26))))] := hD
      generalize hff28 : (upd (fun _ => 0) (0 : Int32).toNatClampNeg (vp_nar .byte z26)) = f28 at hP hD
      refine lv_aload_n hx hb dX12_feed_62 rfl (lv_at hl 1 rfl) ?_
      refine lv_dup hx hb dX12_feed_63 rfl ?_
      refine va_get (D := D) (ci := 12) (v := .int 0) (C := RX12) (T := TX12) (N := 74) hx hb hT i_TX12 hown hK hP 0 rfl rfl 2 (by decide) (hT _ t_1717) (fun _ h9 => h9) rfl dX12_feed_64 ?_
      refine lv_iconst (v := 1) hx hb dX12_feed_67 (by decide) ?_
      refine lv_iadd hx hb dX12_feed_68 ?_
      refine lv_topi (fun z29 e30 => ?_)
      obtain rfl : z29 = 1 := e30.trans (by first | decide | rfl)
      refine va_put (D := D) (ci := 12) (v := .int 1) (ty := .int) (C := RX12) (T := TX12) (N := 74) hx hb hT i_TX12 tyX12 tyX12_ok nmX12 hown hK hP hD hS 0 rfl rfl 2 (by decide) (hT _ t_1717) (fun _ h9 => h9) rfl (by decide +kernel) rfl rfl (Nat.le_of_ble_eq_true rfl) dX12_feed_69 (fun H locs hP hD hS => ?_)
      have hP : va_P D vwCl [(hm, .inr (12, [.int 0, .ref (ma 1), .int 1, .int (-1), .ref (ma 4), .int 0, .int 0, .int 0, .long 0, .int 0, .int 0, .int 0, .int 0, .long 0, .int 0, .int 0, .int 0, .ref (ma 17), .ref (ma 18), .ref (ma 19), .ref (ma 20), .ref (ma 21), .ref (ma 22), .ref (ma 23), .ref (ma 24), .ref (ma 25), .ref (ma 26), .ref (ma 27), .ref (ma 28), .ref (ma 29), .ref (ma 30), .ref (ma 31), .ref (ma 32), .ref (ma 33), .ref (ma 34), .ref (ma 35), .ref (ma 36), .ref (ma 37), .ref (ma 38), .ref (ma 39), .ref (ma 40), .ref (ma 41), .ref (ma 42), .ref (ma 43), .ref (ma 44), .ref (ma 45), .ref (ma 46), .ref (ma 47), .ref (ma 48), .int 0, .int 0, .int 0, .int 0, .int 0, .int 0, .int 0, .int 0, .int 0, .int 0, .ref (ma 59), .ref (ma 60), .int 0, .int 0, .int 0, .int 0, .int 0, .int 0, .ref (ma 67), .ref (ma 68), .ref (ma 69), .int 0, .int (-1), .int 0, .ref (ma 73)])), ((ma 1), .inl (cy 0, 1600, .inl f28))] H := hP
      have hD : va_D A [(hm, .inr (12, [.int 0, .ref (ma 1), .int 1, .int (-1), .ref (ma 4), .int 0, .int 0, .int 0, .long 0, .int 0, .int 0, .int 0, .int 0, .long 0, .int 0, .int 0, .int 0, .ref (ma 17), .ref (ma 18), .ref (ma 19), .ref (ma 20), .ref (ma 21), .ref (ma 22), .ref (ma 23), .ref (ma 24), .ref (ma 25), .ref (ma 26), .ref (ma 27), .ref (ma 28), .ref (ma 29), .ref (ma 30), .ref (ma 31), .ref (ma 32), .ref (ma 33), .ref (ma 34), .ref (ma 35), .ref (ma 36), .ref (ma 37), .ref (ma 38), .ref (ma 39), .ref (ma 40), .ref (ma 41), .ref (ma 42), .ref (ma 43), .ref (ma 44), .ref (ma 45), .ref (ma 46), .ref (ma 47), .ref (ma 48), .int 0, .int 0, .int 0, .int 0, .int 0, .int 0, .int 0, .int 0, .int 0, .int 0, .ref (ma 59), .ref (ma 60), .int 0, .int 0, .int 0, .int 0, .int 0, .int 0, .ref (ma 67), .ref (ma 68), .ref (ma 69), .int 0, .int (-1), .int 0, .ref (ma 73)])), ((ma 1), .inl (cy 0, 1600, .inl f28))] := hD
      refine lv_iinc (v := 0) (lv' := [(4, .int 0), (0, .ref hm), (1, .long p0), (3, .int (nI 2))]) hx hb dX12_feed_72 hl (k := 0) rfl (by decide) (by decide) rfl (fun ls hl => ?_)
      refine lv_goto (tgt := 39) hx hb dX12_feed_75 (by decide) ?_
      refine lv_iload hx hb dX12_feed_39 (lv_at hl 0 rfl) ?_
      refine lv_if_lt (tgt := 78) hx hb dX12_feed_41 (by decide) (fun c9 => absurd c9 (by decide)) (fun _ => ?_)
      refine lv_aload_n hx hb dX12_feed_44 rfl (lv_at hl 1 rfl) ?_
      refine va_get (D := D) (ci := 12) (v := .ref (ma 1)) (C := RX12) (T := TX12) (N := 74) hx hb hT i_TX12 hown hK hP 0 rfl rfl 1 (by decide) (hT _ t_1716) (fun _ h9 => h9) rfl dX12_feed_45 ?_
      refine lv_aload_n hx hb dX12_feed_48 rfl (lv_at hl 1 rfl) ?_
      refine va_get (D := D) (ci := 12) (v := .int 1) (C := RX12) (T := TX12) (N := 74) hx hb hT i_TX12 hown hK hP 0 rfl rfl 2 (by decide) (hT _ t_1717) (fun _ h9 => h9) rfl dX12_feed_49 ?_
      refine lv_lload_n hx hb dX12_feed_52 rfl (lv_at hl 2 rfl) ?_
      refine lv_bipush (v := 8) hx hb dX12_feed_53 (by decide) ?_
      refine lv_iload hx hb dX12_feed_55 (lv_at hl 0 rfl) ?_
      refine lv_imul hx hb dX12_feed_57 ?_
      refine lv_topi (fun z31 e32 => ?_)
      obtain rfl : z31 = 0 := e32.trans (by first | decide | rfl)
      refine lv_lshr hx hb dX12_feed_58 rfl ?_
      refine lv_topl (fun z33 e34 => ?_)
      refine lv_l2i hx hb dX12_feed_59 rfl ?_
      refine lv_topi (fun z35 e36 => ?_)
      refine lv_i2b hx hb dX12_feed_60 rfl ?_
      refine lv_topi (fun z37 e38 => ?_)
      refine va_bast hx hb hK hP hD hS 1 0 rfl rfl (vp_in_iff.mpr (by decide)) dX12_feed_61 (fun H locs hP hD hS => ?_)
      have hP : va_P D vwCl [(hm, .inr (12, [.int 0, .ref (ma 1), .int 1, .int (-1), .ref (ma 4), .int 0, .int 0, .int 0, .long 0, .int 0, .int 0, .int 0, .int 0, .long 0, .int 0, .int 0, .int 0, .ref (ma 17), .ref (ma 18), .ref (ma 19), .ref (ma 20), .ref (ma 21), .ref (ma 22), .ref (ma 23), .ref (ma 24), .ref (ma 25), .ref (ma 26), .ref (ma 27), .ref (ma 28), .ref (ma 29), .ref (ma 30), .ref (ma 31), .ref (ma 32), .ref (ma 33), .ref (ma 34), .ref (ma 35), .ref (ma 36), .ref (ma 37), .ref (ma 38), .ref (ma 39), .ref (ma 40), .ref (ma 41), .ref (ma 42), .ref (ma 43), .ref (ma 44), .ref (ma 45), .ref (ma 46), .ref (ma 47), .ref (ma 48), .int 0, .int 0, .int 0, .int 0, .int 0, .int 0, .int 0, .int 0, .int 0, .int 0, .ref (ma 59), .ref (ma 60), .int 0, .int 0, .int 0, .int 0, .int 0, .int 0, .ref (ma 67), .ref (ma 68), .ref (ma 69), .int 0, .int (-1), .int 0, .ref (ma 73)])), ((ma 1), .inl (cy 0, 1600, .inl (upd f28 (1 : Int32).toNatClampNeg (vp_nar .byte z37))))] H := hP
      have hD : va_D A [(hm, .inr (12, [.int 0, .ref (ma 1), .int 1, .int (-1), .ref (ma 4), .int 0, .int 0, .int 0, .long 0, .int 0, .int 0, .int 0, .int 0, .long 0, .int 0, .int 0, .int 0, .ref (ma 17), .ref (ma 18), .ref (ma 19), .ref (ma 20), .ref (ma 21), .ref (ma 22), .ref (ma 23), .ref (ma 24), .ref (ma 25), .ref (ma 26), .ref (ma 27), .ref (ma 28), .ref (ma 29), .ref (ma 30), .ref (ma 31), .ref (ma 32), .ref (ma 33), .ref (ma 34), .ref (ma 35), .ref (ma 36), .ref (ma 37), .ref (ma 38), .ref (ma 39), .ref (ma 40), .ref (ma 41), .ref (ma 42), .ref (ma 43), .ref (ma 44), .ref (ma 45), .ref (ma 46), .ref (ma 47), .ref (ma 48), .int 0, .int 0, .int 0, .int 0, .int 0, .int 0, .int 0, .int 0, .int 0, .int 0, .ref (ma 59), .ref (ma 60), .int 0, .int 0, .int 0, .int 0, .int 0, .int 0, .ref (ma 67), .ref (ma 68), .ref (ma 69), .int 0, .int (-1), .int 0, .ref (ma 73)])), ((ma 1), .inl (cy 0, 1600, .inl (upd f28 (1 : Int32).toNatClampNeg (vp_nar .byte z37))))] := hD
      generalize hff39 : (upd f28 (1 : Int32).toNatClampNeg (vp_nar .byte z37)) = f39 at hP hD
      refine lv_aload_n hx hb dX12_feed_62 rfl (lv_at hl 1 rfl) ?_
      refine lv_dup hx hb dX12_feed_63 rfl ?_
      refine va_get (D := D) (ci := 12) (v := .int 1) (C := RX12) (T := TX12) (N := 74) hx hb hT i_TX12 hown hK hP 0 rfl rfl 2 (by decide) (hT _ t_1717) (fun _ h9 => h9) rfl dX12_feed_64 ?_
      refine lv_iconst (v := 1) hx hb dX12_feed_67 (by decide) ?_
      refine lv_iadd hx hb dX12_feed_68 ?_
      refine lv_topi (fun z40 e41 => ?_)
      obtain rfl : z40 = 2 := e41.trans (by first | decide | rfl)
      refine va_put (D := D) (ci := 12) (v := .int 2) (ty := .int) (C := RX12) (T := TX12) (N := 74) hx hb hT i_TX12 tyX12 tyX12_ok nmX12 hown hK hP hD hS 0 rfl rfl 2 (by decide) (hT _ t_1717) (fun _ h9 => h9) rfl (by decide +kernel) rfl rfl (Nat.le_of_ble_eq_true rfl) dX12_feed_69 (fun H locs hP hD hS => ?_)
      have hP : va_P D vwCl [(hm, .inr (12, [.int 0, .ref (ma 1), .int 2, .int (-1), .ref (ma 4), .int 0, .int 0, .int 0, .long 0, .int 0, .int 0, .int 0, .int 0, .long 0, .int 0, .int 0, .int 0, .ref (ma 17), .ref (ma 18), .ref (ma 19), .ref (ma 20), .ref (ma 21), .ref (ma 22), .ref (ma 23), .ref (ma 24), .ref (ma 25), .ref (ma 26), .ref (ma 27), .ref (ma 28), .ref (ma 29), .ref (ma 30), .ref (ma 31), .ref (ma 32), .ref (ma 33), .ref (ma 34), .ref (ma 35), .ref (ma 36), .ref (ma 37), .ref (ma 38), .ref (ma 39), .ref (ma 40), .ref (ma 41), .ref (ma 42), .ref (ma 43), .ref (ma 44), .ref (ma 45), .ref (ma 46), .ref (ma 47), .ref (ma 48), .int 0, .int 0, .int 0, .int 0, .int 0, .int 0, .int 0, .int 0, .int 0, .int 0, .ref (ma 59), .ref (ma 60), .int 0, .int 0, .int 0, .int 0, .int 0, .int 0, .ref (ma 67), .ref (ma 68), .ref (ma 69), .int 0, .int (-1), .int 0, .ref (ma 73)])), ((ma 1), .inl (cy 0, 1600, .inl f39))] H := hP
      have hD : va_D A [(hm, .inr (12, [.int 0, .ref (ma 1), .int 2, .int (-1), .ref (ma 4), .int 0, .int 0, .int 0, .long 0, .int 0, .int 0, .int 0, .int 0, .long 0, .int 0, .int 0, .int 0, .ref (ma 17), .ref (ma 18), .ref (ma 19), .ref (ma 20), .ref (ma 21), .ref (ma 22), .ref (ma 23), .ref (ma 24), .ref (ma 25), .ref (ma 26), .ref (ma 27), .ref (ma 28), .ref (ma 29), .ref (ma 30), .ref (ma 31), .ref (ma 32), .ref (ma 33), .ref (ma 34), .ref (ma 35), .ref (ma 36), .ref (ma 37), .ref (ma 38), .ref (ma 39), .ref (ma 40), .ref (ma 41), .ref (ma 42), .ref (ma 43), .ref (ma 44), .ref (ma 45), .ref (ma 46), .ref (ma 47), .ref (ma 48), .int 0, .int 0, .int 0, .int 0, .int 0, .int 0, .int 0, .int 0, .int 0, .int 0, .ref (ma 59), .ref (ma 60), .int 0, .int 0, .int 0, .int 0, .int 0, .int 0, .ref (ma 67), .ref (ma 68), .ref (ma 69), .int 0, .int (-1), .int 0, .ref (ma 73)])), ((ma 1), .inl (cy 0, 1600, .inl f39))] := hD
      refine lv_iinc (v := (-1)) (lv' := [(4, .int (-1)), (0, .ref hm), (1, .long p0), (3, .int (nI 2))]) hx hb dX12_feed_72 hl (k := 0) rfl (by decide) (by decide) rfl (fun ls hl => ?_)
      refine lv_goto (tgt := 39) hx hb dX12_feed_75 (by decide) ?_
      refine lv_iload hx hb dX12_feed_39 (lv_at hl 0 rfl) ?_
      refine lv_if_lt (tgt := 78) hx hb dX12_feed_41 (by decide) (fun _ => ?_) (fun c9 => absurd (by decide) c9)
      refine lv_aload_n hx hb dX12_feed_78 rfl (lv_at hl 1 rfl) ?_
      refine va_get (D := D) (ci := 12) (v := .int 2) (C := RX12) (T := TX12) (N := 74) hx hb hT i_TX12 hown hK hP 0 rfl rfl 2 (by decide) (hT _ t_1717) (fun _ h9 => h9) rfl dX12_feed_79 ?_
      have hP9 := hP.sub (ws' := []) [] rfl
      have hD9 := hD.sub (ws' := []) [] (by decide) rfl
      refine W.widen (k := 0) (n := 0) (Nat.le_of_ble_eq_true rfl) (Nat.le_of_ble_eq_true rfl) ?_
      exact W.iret (v := 2) hx hb hr (fun t ht hW => ⟨⟨2, (), rfl, (by decide), by rw [ht]; exact hP9, hD9⟩, hS.F ht⟩) hS.2.2 dX12_feed_82
    · refine lv_aload_n hx hb dX12_feed_0 rfl (lv_at hl 0 rfl) ?_
      refine lv_iconst (v := 0) hx hb dX12_feed_1 (by decide) ?_
      refine va_put (D := D) (ci := 12) (v := .int 0) (ty := .int) (C := RX12) (T := TX12) (N := 74) hx hb hT i_TX12 tyX12 tyX12_ok nmX12 hown hK hP hD hS 0 rfl rfl 0 (by decide) (hT _ t_1715) (fun _ h9 => h9) rfl (by decide +kernel) rfl rfl (Nat.le_of_ble_eq_true rfl) dX12_feed_2 (fun H locs hP hD hS => ?_)
      have hP : va_P D vwCl [(hm, .inr (12, [.int 0, .ref (ma 1), .int 0, .int (-1), .ref (ma 4), .int 0, .int 0, .int 0, .long 0, .int 0, .int 0, .int 0, .int 0, .long 0, .int 0, .int 0, .int 0, .ref (ma 17), .ref (ma 18), .ref (ma 19), .ref (ma 20), .ref (ma 21), .ref (ma 22), .ref (ma 23), .ref (ma 24), .ref (ma 25), .ref (ma 26), .ref (ma 27), .ref (ma 28), .ref (ma 29), .ref (ma 30), .ref (ma 31), .ref (ma 32), .ref (ma 33), .ref (ma 34), .ref (ma 35), .ref (ma 36), .ref (ma 37), .ref (ma 38), .ref (ma 39), .ref (ma 40), .ref (ma 41), .ref (ma 42), .ref (ma 43), .ref (ma 44), .ref (ma 45), .ref (ma 46), .ref (ma 47), .ref (ma 48), .int 0, .int 0, .int 0, .int 0, .int 0, .int 0, .int 0, .int 0, .int 0, .int 0, .ref (ma 59), .ref (ma 60), .int 0, .int 0, .int 0, .int 0, .int 0, .int 0, .ref (ma 67), .ref (ma 68), .ref (ma 69), .int 0, .int (-1), .int 0, .ref (ma 73)])), ((ma 1), .inl (cy 0, 1600, .inl (fun _ => 0)))] H := hP
      have hD : va_D A [(hm, .inr (12, [.int 0, .ref (ma 1), .int 0, .int (-1), .ref (ma 4), .int 0, .int 0, .int 0, .long 0, .int 0, .int 0, .int 0, .int 0, .long 0, .int 0, .int 0, .int 0, .ref (ma 17), .ref (ma 18), .ref (ma 19), .ref (ma 20), .ref (ma 21), .ref (ma 22), .ref (ma 23), .ref (ma 24), .ref (ma 25), .ref (ma 26), .ref (ma 27), .ref (ma 28), .ref (ma 29), .ref (ma 30), .ref (ma 31), .ref (ma 32), .ref (ma 33), .ref (ma 34), .ref (ma 35), .ref (ma 36), .ref (ma 37), .ref (ma 38), .ref (ma 39), .ref (ma 40), .ref (ma 41), .ref (ma 42), .ref (ma 43), .ref (ma 44), .ref (ma 45), .ref (ma 46), .ref (ma 47), .ref (ma 48), .int 0, .int 0, .int 0, .int 0, .int 0, .int 0, .int 0, .int 0, .int 0, .int 0, .ref (ma 59), .ref (ma 60), .int 0, .int 0, .int 0, .int 0, .int 0, .int 0, .ref (ma 67), .ref (ma 68), .ref (ma 69), .int 0, .int (-1), .int 0, .ref (ma 73)])), ((ma 1), .inl (cy 0, 1600, .inl (fun _ => 0)))] := hD
      refine lv_iload_n hx hb dX12_feed_5 rfl (lv_at hl 2 rfl) ?_
      refine lv_iconst (v := 1) hx hb dX12_feed_6 (by decide) ?_
      refine lv_icmp_lt (tgt := 16) hx hb dX12_feed_7 (by decide) (fun c9 => absurd c9 (by decide)) (fun _ => ?_)
      refine lv_iload_n hx hb dX12_feed_10 rfl (lv_at hl 2 rfl) ?_
      refine lv_bipush (v := 8) hx hb dX12_feed_11 (by decide) ?_
      refine lv_icmp_le (tgt := 19) hx hb dX12_feed_13 (by decide) (fun _ => ?_) (fun c9 => absurd (by decide) c9)
      refine lv_aload_n hx hb dX12_feed_19 rfl (lv_at hl 0 rfl) ?_
      refine va_get (D := D) (ci := 12) (v := .int 0) (C := RX12) (T := TX12) (N := 74) hx hb hT i_TX12 hown hK hP 0 rfl rfl 2 (by decide) (hT _ t_1717) (fun _ h9 => h9) rfl dX12_feed_20 ?_
      refine lv_iload_n hx hb dX12_feed_23 rfl (lv_at hl 2 rfl) ?_
      refine lv_iadd hx hb dX12_feed_24 ?_
      refine lv_topi (fun z42 e43 => ?_)
      obtain rfl : z42 = 3 := e43.trans (by first | decide | rfl)
      refine lv_sipush (v := 1600) hx hb dX12_feed_25 (by decide) ?_
      refine lv_icmp_le (tgt := 34) hx hb dX12_feed_28 (by decide) (fun _ => ?_) (fun c9 => absurd (by decide) c9)
      refine lv_iload_n hx hb dX12_feed_34 rfl (lv_at hl 2 rfl) ?_
      refine lv_iconst (v := 1) hx hb dX12_feed_35 (by decide) ?_
      refine lv_isub hx hb dX12_feed_36 ?_
      refine lv_topi (fun z44 e45 => ?_)
      obtain rfl : z44 = 2 := e45.trans (by first | decide | rfl)
      refine lv_istore (lv' := [(4, .int 2), (0, .ref hm), (1, .long p0), (3, .int (nI 3))]) hx hb dX12_feed_37 hl (by decide) rfl (fun ls hl => ?_)
      refine lv_iload hx hb dX12_feed_39 (lv_at hl 0 rfl) ?_
      refine lv_if_lt (tgt := 78) hx hb dX12_feed_41 (by decide) (fun c9 => absurd c9 (by decide)) (fun _ => ?_)
      refine lv_aload_n hx hb dX12_feed_44 rfl (lv_at hl 1 rfl) ?_
      refine va_get (D := D) (ci := 12) (v := .ref (ma 1)) (C := RX12) (T := TX12) (N := 74) hx hb hT i_TX12 hown hK hP 0 rfl rfl 1 (by decide) (hT _ t_1716) (fun _ h9 => h9) rfl dX12_feed_45 ?_
      refine lv_aload_n hx hb dX12_feed_48 rfl (lv_at hl 1 rfl) ?_
      refine va_get (D := D) (ci := 12) (v := .int 0) (C := RX12) (T := TX12) (N := 74) hx hb hT i_TX12 hown hK hP 0 rfl rfl 2 (by decide) (hT _ t_1717) (fun _ h9 => h9) rfl dX12_feed_49 ?_
      refine lv_lload_n hx hb dX12_feed_52 rfl (lv_at hl 2 rfl) ?_
      refine lv_bipush (v := 8) hx hb dX12_feed_53 (by decide) ?_
      refine lv_iload hx hb dX12_feed_55 (lv_at hl 0 rfl) ?_
      refine lv_imul hx hb dX12_feed_57 ?_
      refine lv_topi (fun z46 e47 => ?_)
      obtain rfl : z46 = 16 := e47.trans (by first | decide | rfl)
      refine lv_lshr hx hb dX12_feed_58 rfl ?_
      refine lv_topl (fun z48 e49 => ?_)
      refine lv_l2i hx hb dX12_feed_59 rfl ?_
      refine lv_topi (fun z50 e51 => ?_)
      refine lv_i2b hx hb dX12_feed_60 rfl ?_
      refine lv_topi (fun z52 e53 => ?_)
      refine va_bast hx hb hK hP hD hS 1 0 rfl rfl (vp_in_iff.mpr (by decide)) dX12_feed_61 (fun H locs hP hD hS => ?_)
      have hP : va_P D vwCl [(hm, .inr (12, [.int 0, .ref (ma 1), .int 0, .int (-1), .ref (ma 4), .int 0, .int 0, .int 0, .long 0, .int 0, .int 0, .int 0, .int 0, .long 0, .int 0, .int 0, .int 0, .ref (ma 17), .ref (ma 18), .ref (ma 19), .ref (ma 20), .ref (ma 21), .ref (ma 22), .ref (ma 23), .ref (ma 24), .ref (ma 25), .ref (ma 26), .ref (ma 27), .ref (ma 28), .ref (ma 29), .ref (ma 30), .ref (ma 31), .ref (ma 32), .ref (ma 33), .ref (ma 34), .ref (ma 35), .ref (ma 36), .ref (ma 37), .ref (ma 38), .ref (ma 39), .ref (ma 40), .ref (ma 41), .ref (ma 42), .ref (ma 43), .ref (ma 44), .ref (ma 45), .ref (ma 46), .ref (ma 47), .ref (ma 48), .int 0, .int 0, .int 0, .int 0, .int 0, .int 0, .int 0, .int 0, .int 0, .int 0, .ref (ma 59), .ref (ma 60), .int 0, .int 0, .int 0, .int 0, .int 0, .int 0, .ref (ma 67), .ref (ma 68), .ref (ma 69), .int 0, .int (-1), .int 0, .ref (ma 73)])), ((ma 1), .inl (cy 0, 1600, .inl (upd (fun _ => 0) (0 : Int32).toNatClampNeg (vp_nar .byte z52))))] H := hP
      have hD : va_D A [(hm, .inr (12, [.int 0, .ref (ma 1), .int 0, .int (-1), .ref (ma 4), .int 0, .int 0, .int 0, .long 0, .int 0, .int 0, .int 0, .int 0, .long 0, .int 0, .int 0, .int 0, .ref (ma 17), .ref (ma 18), .ref (ma 19), .ref (ma 20), .ref (ma 21), .ref (ma 22), .ref (ma 23), .ref (ma 24), .ref (ma 25), .ref (ma 26), .ref (ma 27), .ref (ma 28), .ref (ma 29), .ref (ma 30), .ref (ma 31), .ref (ma 32), .ref (ma 33), .ref (ma 34), .ref (ma 35), .ref (ma 36), .ref (ma 37), .ref (ma 38), .ref (ma 39), .ref (ma 40), .ref (ma 41), .ref (ma 42), .ref (ma 43), .ref (ma 44), .ref (ma 45), .ref (ma 46), .ref (ma 47), .ref (ma 48), .int 0, .int 0, .int 0, .int 0, .int 0, .int 0, .int 0, .int 0, .int 0, .int 0, .ref (ma 59), .ref (ma 60), .int 0, .int 0, .int 0, .int 0, .int 0, .int 0, .ref (ma 67), .ref (ma 68), .ref (ma 69), .int 0, .int (-1), .int 0, .ref (ma 73)])), ((ma 1), .inl (cy 0, 1600, .inl (upd (fun _ => 0) (0 : Int32).toNatClampNeg (vp_nar .byte z52))))] := hD
      generalize hff54 : (upd (fun _ => 0) (0 : Int32).toNatClampNeg (vp_nar .byte z52)) = f54 at hP hD
      refine lv_aload_n hx hb dX12_feed_62 rfl (lv_at hl 1 rfl) ?_
      refine lv_dup hx hb dX12_feed_63 rfl ?_
      refine va_get (D := D) (ci := 12) (v := .int 0) (C := RX12) (T := TX12) (N := 74) hx hb hT i_TX12 hown hK hP 0 rfl rfl 2 (by decide) (hT _ t_1717) (fun _ h9 => h9) rfl dX12_feed_64 ?_
      refine lv_iconst (v := 1) hx hb dX12_feed_67 (by decide) ?_
      refine lv_iadd hx hb dX12_feed_68 ?_
      refine lv_topi (fun z55 e56 => ?_)
      obtain rfl : z55 = 1 := e56.trans (by first | decide | rfl)
      refine va_put (D := D) (ci := 12) (v := .int 1) (ty := .int) (C := RX12) (T := TX12) (N := 74) hx hb hT i_TX12 tyX12 tyX12_ok nmX12 hown hK hP hD hS 0 rfl rfl 2 (by decide) (hT _ t_1717) (fun _ h9 => h9) rfl (by decide +kernel) rfl rfl (Nat.le_of_ble_eq_true rfl) dX12_feed_69 (fun H locs hP hD hS => ?_)
      have hP : va_P D vwCl [(hm, .inr (12, [.int 0, .ref (ma 1), .int 1, .int (-1), .ref (ma 4), .int 0, .int 0, .int 0, .long 0, .int 0, .int 0, .int 0, .int 0, .long 0, .int 0, .int 0, .int 0, .ref (ma 17), .ref (ma 18), .ref (ma 19), .ref (ma 20), .ref (ma 21), .ref (ma 22), .ref (ma 23), .ref (ma 24), .ref (ma 25), .ref (ma 26), .ref (ma 27), .ref (ma 28), .ref (ma 29), .ref (ma 30), .ref (ma 31), .ref (ma 32), .ref (ma 33), .ref (ma 34), .ref (ma 35), .ref (ma 36), .ref (ma 37), .ref (ma 38), .ref (ma 39), .ref (ma 40), .ref (ma 41), .ref (ma 42), .ref (ma 43), .ref (ma 44), .ref (ma 45), .ref (ma 46), .ref (ma 47), .ref (ma 48), .int 0, .int 0, .int 0, .int 0, .int 0, .int 0, .int 0, .int 0, .int 0, .int 0, .ref (ma 59), .ref (ma 60), .int 0, .int 0, .int 0, .int 0, .int 0, .int 0, .ref (ma 67), .ref (ma 68), .ref (ma 69), .int 0, .int (-1), .int 0, .ref (ma 73)])), ((ma 1), .inl (cy 0, 1600, .inl f54))] H := hP
      have hD : va_D A [(hm, .inr (12, [.int 0, .ref (ma 1), .int 1, .int (-1), .ref (ma 4), .int 0, .int 0, .int 0, .long 0, .int 0, .int 0, .int 0, .int 0, .long 0, .int 0, .int 0, .int 0, .ref (ma 17), .ref (ma 18), .ref (ma 19), .ref (ma 20), .ref (ma 21), .ref (ma 22), .ref (ma 23), .ref (ma 24), .ref (ma 25), .ref (ma 26), .ref (ma 27), .ref (ma 28), .ref (ma 29), .ref (ma 30), .ref (ma 31), .ref (ma 32), .ref (ma 33), .ref (ma 34), .ref (ma 35), .ref (ma 36), .ref (ma 37), .ref (ma 38), .ref (ma 39), .ref (ma 40), .ref (ma 41), .ref (ma 42), .ref (ma 43), .ref (ma 44), .ref (ma 45), .ref (ma 46), .ref (ma 47), .ref (ma 48), .int 0, .int 0, .int 0, .int 0, .int 0, .int 0, .int 0, .int 0, .int 0, .int 0, .ref (ma 59), .ref (ma 60), .int 0, .int 0, .int 0, .int 0, .int 0, .int 0, .ref (ma 67), .ref (ma 68), .ref (ma 69), .int 0, .int (-1), .int 0, .ref (ma 73)])), ((ma 1), .inl (cy 0, 1600, .inl f54))] := hD
      refine lv_iinc (v := 1) (lv' := [(4, .int 1), (0, .ref hm), (1, .long p0), (3, .int (nI 3))]) hx hb dX12_feed_72 hl (k := 0) rfl (by decide) (by decide) rfl (fun ls hl => ?_)
      refine lv_goto (tgt := 39) hx hb dX12_feed_75 (by decide) ?_
      refine lv_iload hx hb dX12_feed_39 (lv_at hl 0 rfl) ?_
      refine lv_if_lt (tgt := 78) hx hb dX12_feed_41 (by decide) (fun c9 => absurd c9 (by decide)) (fun _ => ?_)
      refine lv_aload_n hx hb dX12_feed_44 rfl (lv_at hl 1 rfl) ?_
      refine va_get (D := D) (ci := 12) (v := .ref (ma 1)) (C := RX12) (T := TX12) (N := 74) hx hb hT i_TX12 hown hK hP 0 rfl rfl 1 (by decide) (hT _ t_1716) (fun _ h9 => h9) rfl dX12_feed_45 ?_
      refine lv_aload_n hx hb dX12_feed_48 rfl (lv_at hl 1 rfl) ?_
      refine va_get (D := D) (ci := 12) (v := .int 1) (C := RX12) (T := TX12) (N := 74) hx hb hT i_TX12 hown hK hP 0 rfl rfl 2 (by decide) (hT _ t_1717) (fun _ h9 => h9) rfl dX12_feed_49 ?_
      refine lv_lload_n hx hb dX12_feed_52 rfl (lv_at hl 2 rfl) ?_
      refine lv_bipush (v := 8) hx hb dX12_feed_53 (by decide) ?_
      refine lv_iload hx hb dX12_feed_55 (lv_at hl 0 rfl) ?_
      refine lv_imul hx hb dX12_feed_57 ?_
      refine lv_topi (fun z57 e58 => ?_)
      obtain rfl : z57 = 8 := e58.trans (by first | decide | rfl)
      refine lv_lshr hx hb dX12_feed_58 rfl ?_
      refine lv_topl (fun z59 e60 => ?_)
      refine lv_l2i hx hb dX12_feed_59 rfl ?_
      refine lv_topi (fun z61 e62 => ?_)
      refine lv_i2b hx hb dX12_feed_60 rfl ?_
      refine lv_topi (fun z63 e64 => ?_)
      refine va_bast hx hb hK hP hD hS 1 0 rfl rfl (vp_in_iff.mpr (by decide)) dX12_feed_61 (fun H locs hP hD hS => ?_)
      have hP : va_P D vwCl [(hm, .inr (12, [.int 0, .ref (ma 1), .int 1, .int (-1), .ref (ma 4), .int 0, .int 0, .int 0, .long 0, .int 0, .int 0, .int 0, .int 0, .long 0, .int 0, .int 0, .int 0, .ref (ma 17), .ref (ma 18), .ref (ma 19), .ref (ma 20), .ref (ma 21), .ref (ma 22), .ref (ma 23), .ref (ma 24), .ref (ma 25), .ref (ma 26), .ref (ma 27), .ref (ma 28), .ref (ma 29), .ref (ma 30), .ref (ma 31), .ref (ma 32), .ref (ma 33), .ref (ma 34), .ref (ma 35), .ref (ma 36), .ref (ma 37), .ref (ma 38), .ref (ma 39), .ref (ma 40), .ref (ma 41), .ref (ma 42), .ref (ma 43), .ref (ma 44), .ref (ma 45), .ref (ma 46), .ref (ma 47), .ref (ma 48), .int 0, .int 0, .int 0, .int 0, .int 0, .int 0, .int 0, .int 0, .int 0, .int 0, .ref (ma 59), .ref (ma 60), .int 0, .int 0, .int 0, .int 0, .int 0, .int 0, .ref (ma 67), .ref (ma 68), .ref (ma 69), .int 0, .int (-1), .int 0, .ref (ma 73)])), ((ma 1), .inl (cy 0, 1600, .inl (upd f54 (1 : Int32).toNatClampNeg (vp_nar .byte z63))))] H := hP
      have hD : va_D A [(hm, .inr (12, [.int 0, .ref (ma 1), .int 1, .int (-1), .ref (ma 4), .int 0, .int 0, .int 0, .long 0, .int 0, .int 0, .int 0, .int 0, .long 0, .int 0, .int 0, .int 0, .ref (ma 17), .ref (ma 18), .ref (ma 19), .ref (ma 20), .ref (ma 21), .ref (ma 22), .ref (ma 23), .ref (ma 24), .ref (ma 25), .ref (ma 26), .ref (ma 27), .ref (ma 28), .ref (ma 29), .ref (ma 30), .ref (ma 31), .ref (ma 32), .ref (ma 33), .ref (ma 34), .ref (ma 35), .ref (ma 36), .ref (ma 37), .ref (ma 38), .ref (ma 39), .ref (ma 40), .ref (ma 41), .ref (ma 42), .ref (ma 43), .ref (ma 44), .ref (ma 45), .ref (ma 46), .ref (ma 47), .ref (ma 48), .int 0, .int 0, .int 0, .int 0, .int 0, .int 0, .int 0, .int 0, .int 0, .int 0, .ref (ma 59), .ref (ma 60), .int 0, .int 0, .int 0, .int 0, .int 0, .int 0, .ref (ma 67), .ref (ma 68), .ref (ma 69), .int 0, .int (-1), .int 0, .ref (ma 73)])), ((ma 1), .inl (cy 0, 1600, .inl (upd f54 (1 : Int32).toNatClampNeg (vp_nar .byte z63))))] := hD
      generalize hff65 : (upd f54 (1 : Int32).toNatClampNeg (vp_nar .byte z63)) = f65 at hP hD
      refine lv_aload_n hx hb dX12_feed_62 rfl (lv_at hl 1 rfl) ?_
      refine lv_dup hx hb dX12_feed_63 rfl ?_
      refine va_get (D := D) (ci := 12) (v := .int 1) (C := RX12) (T := TX12) (N := 74) hx hb hT i_TX12 hown hK hP 0 rfl rfl 2 (by decide) (hT _ t_1717) (fun _ h9 => h9) rfl dX12_feed_64 ?_
      refine lv_iconst (v := 1) hx hb dX12_feed_67 (by decide) ?_
      refine lv_iadd hx hb dX12_feed_68 ?_
      refine lv_topi (fun z66 e67 => ?_)
      obtain rfl : z66 = 2 := e67.trans (by first | decide | rfl)
      refine va_put (D := D) (ci := 12) (v := .int 2) (ty := .int) (C := RX12) (T := TX12) (N := 74) hx hb hT i_TX12 tyX12 tyX12_ok nmX12 hown hK hP hD hS 0 rfl rfl 2 (by decide) (hT _ t_1717) (fun _ h9 => h9) rfl (by decide +kernel) rfl rfl (Nat.le_of_ble_eq_true rfl) dX12_feed_69 (fun H locs hP hD hS => ?_)
      have hP : va_P D vwCl [(hm, .inr (12, [.int 0, .ref (ma 1), .int 2, .int (-1), .ref (ma 4), .int 0, .int 0, .int 0, .long 0, .int 0, .int 0, .int 0, .int 0, .long 0, .int 0, .int 0, .int 0, .ref (ma 17), .ref (ma 18), .ref (ma 19), .ref (ma 20), .ref (ma 21), .ref (ma 22), .ref (ma 23), .ref (ma 24), .ref (ma 25), .ref (ma 26), .ref (ma 27), .ref (ma 28), .ref (ma 29), .ref (ma 30), .ref (ma 31), .ref (ma 32), .ref (ma 33), .ref (ma 34), .ref (ma 35), .ref (ma 36), .ref (ma 37), .ref (ma 38), .ref (ma 39), .ref (ma 40), .ref (ma 41), .ref (ma 42), .ref (ma 43), .ref (ma 44), .ref (ma 45), .ref (ma 46), .ref (ma 47), .ref (ma 48), .int 0, .int 0, .int 0, .int 0, .int 0, .int 0, .int 0, .int 0, .int 0, .int 0, .ref (ma 59), .ref (ma 60), .int 0, .int 0, .int 0, .int 0, .int 0, .int 0, .ref (ma 67), .ref (ma 68), .ref (ma 69), .int 0, .int (-1), .int 0, .ref (ma 73)])), ((ma 1), .inl (cy 0, 1600, .inl f65))] H := hP
      have hD : va_D A [(hm, .inr (12, [.int 0, .ref (ma 1), .int 2, .int (-1), .ref (ma 4), .int 0, .int 0, .int 0, .long 0, .int 0, .int 0, .int 0, .int 0, .long 0, .int 0, .int 0, .int 0, .ref (ma 17), .ref (ma 18), .ref (ma 19), .ref (ma 20), .ref (ma 21), .ref (ma 22), .ref (ma 23), .ref (ma 24), .ref (ma 25), .ref (ma 26), .ref (ma 27), .ref (ma 28), .ref (ma 29), .ref (ma 30), .ref (ma 31), .ref (ma 32), .ref (ma 33), .ref (ma 34), .ref (ma 35), .ref (ma 36), .ref (ma 37), .ref (ma 38), .ref (ma 39), .ref (ma 40), .ref (ma 41), .ref (ma 42), .ref (ma 43), .ref (ma 44), .ref (ma 45), .ref (ma 46), .ref (ma 47), .ref (ma 48), .int 0, .int 0, .int 0, .int 0, .int 0, .int 0, .int 0, .int 0, .int 0, .int 0, .ref (ma 59), .ref (ma 60), .int 0, .int 0, .int 0, .int 0, .int 0, .int 0, .ref (ma 67), .ref (ma 68), .ref (ma 69), .int 0, .int (-1), .int 0, .ref (ma 73)])), ((ma 1), .inl (cy 0, 1600, .inl f65))] := hD
      refine lv_iinc (v := 0) (lv' := [(4, .int 0), (0, .ref hm), (1, .long p0), (3, .int (nI 3))]) hx hb dX12_feed_72 hl (k := 0) rfl (by decide) (by decide) rfl (fun ls hl => ?_)
      refine lv_goto (tgt := 39) hx hb dX12_feed_75 (by decide) ?_
      refine lv_iload hx hb dX12_feed_39 (lv_at hl 0 rfl) ?_
      refine lv_if_lt (tgt := 78) hx hb dX12_feed_41 (by decide) (fun c9 => absurd c9 (by decide)) (fun _ => ?_)
      refine lv_aload_n hx hb dX12_feed_44 rfl (lv_at hl 1 rfl) ?_
      refine va_get (D := D) (ci := 12) (v := .ref (ma 1)) (C := RX12) (T := TX12) (N := 74) hx hb hT i_TX12 hown hK hP 0 rfl rfl 1 (by decide) (hT _ t_1716) (fun _ h9 => h9) rfl dX12_feed_45 ?_
      refine lv_aload_n hx hb dX12_feed_48 rfl (lv_at hl 1 rfl) ?_
      refine va_get (D := D) (ci := 12) (v := .int 2) (C := RX12) (T := TX12) (N := 74) hx hb hT i_TX12 hown hK hP 0 rfl rfl 2 (by decide) (hT _ t_1717) (fun _ h9 => h9) rfl dX12_feed_49 ?_
      refine lv_lload_n hx hb dX12_feed_52 rfl (lv_at hl 2 rfl) ?_
      refine lv_bipush (v := 8) hx hb dX12_feed_53 (by decide) ?_
      refine lv_iload hx hb dX12_feed_55 (lv_at hl 0 rfl) ?_
      refine lv_imul hx hb dX12_feed_57 ?_
      refine lv_topi (fun z68 e69 => ?_)
      obtain rfl : z68 = 0 := e69.trans (by first | decide | rfl)
      refine lv_lshr hx hb dX12_feed_58 rfl ?_
      refine lv_topl (fun z70 e71 => ?_)
      refine lv_l2i hx hb dX12_feed_59 rfl ?_
      refine lv_topi (fun z72 e73 => ?_)
      refine lv_i2b hx hb dX12_feed_60 rfl ?_
      refine lv_topi (fun z74 e75 => ?_)
      refine va_bast hx hb hK hP hD hS 1 0 rfl rfl (vp_in_iff.mpr (by decide)) dX12_feed_61 (fun H locs hP hD hS => ?_)
      have hP : va_P D vwCl [(hm, .inr (12, [.int 0, .ref (ma 1), .int 2, .int (-1), .ref (ma 4), .int 0, .int 0, .int 0, .long 0, .int 0, .int 0, .int 0, .int 0, .long 0, .int 0, .int 0, .int 0, .ref (ma 17), .ref (ma 18), .ref (ma 19), .ref (ma 20), .ref (ma 21), .ref (ma 22), .ref (ma 23), .ref (ma 24), .ref (ma 25), .ref (ma 26), .ref (ma 27), .ref (ma 28), .ref (ma 29), .ref (ma 30), .ref (ma 31), .ref (ma 32), .ref (ma 33), .ref (ma 34), .ref (ma 35), .ref (ma 36), .ref (ma 37), .ref (ma 38), .ref (ma 39), .ref (ma 40), .ref (ma 41), .ref (ma 42), .ref (ma 43), .ref (ma 44), .ref (ma 45), .ref (ma 46), .ref (ma 47), .ref (ma 48), .int 0, .int 0, .int 0, .int 0, .int 0, .int 0, .int 0, .int 0, .int 0, .int 0, .ref (ma 59), .ref (ma 60), .int 0, .int 0, .int 0, .int 0, .int 0, .int 0, .ref (ma 67), .ref (ma 68), .ref (ma 69), .int 0, .int (-1), .int 0, .ref (ma 73)])), ((ma 1), .inl (cy 0, 1600, .inl (upd f65 (2 : Int32).toNatClampNeg (vp_nar .byte z74))))] H := hP
      have hD : va_D A [(hm, .inr (12, [.int 0, .ref (ma 1), .int 2, .int (-1), .ref (ma 4), .int 0, .int 0, .int 0, .long 0, .int 0, .int 0, .int 0, .int 0, .long 0, .int 0, .int 0, .int 0, .ref (ma 17), .ref (ma 18), .ref (ma 19), .ref (ma 20), .ref (ma 21), .ref (ma 22), .ref (ma 23), .ref (ma 24), .ref (ma 25), .ref (ma 26), .ref (ma 27), .ref (ma 28), .ref (ma 29), .ref (ma 30), .ref (ma 31), .ref (ma 32), .ref (ma 33), .ref (ma 34), .ref (ma 35), .ref (ma 36), .ref (ma 37), .ref (ma 38), .ref (ma 39), .ref (ma 40), .ref (ma 41), .ref (ma 42), .ref (ma 43), .ref (ma 44), .ref (ma 45), .ref (ma 46), .ref (ma 47), .ref (ma 48), .int 0, .int 0, .int 0, .int 0, .int 0, .int 0, .int 0, .int 0, .int 0, .int 0, .ref (ma 59), .ref (ma 60), .int 0, .int 0, .int 0, .int 0, .int 0, .int 0, .ref (ma 67), .ref (ma 68), .ref (ma 69), .int 0, .int (-1), .int 0, .ref (ma 73)])), ((ma 1), .inl (cy 0, 1600, .inl (upd f65 (2 : Int32).toNatClampNeg (vp_nar .byte z74))))] := hD
      generalize hff76 : (upd f65 (2 : Int32).toNatClampNeg (vp_nar .byte z74)) = f76 at hP hD
      refine lv_aload_n hx hb dX12_feed_62 rfl (lv_at hl 1 rfl) ?_
      refine lv_dup hx hb dX12_feed_63 rfl ?_
      refine va_get (D := D) (ci := 12) (v := .int 2) (C := RX12) (T := TX12) (N := 74) hx hb hT i_TX12 hown hK hP 0 rfl rfl 2 (by decide) (hT _ t_1717) (fun _ h9 => h9) rfl dX12_feed_64 ?_
      refine lv_iconst (v := 1) hx hb dX12_feed_67 (by decide) ?_
      refine lv_iadd hx hb dX12_feed_68 ?_
      refine lv_topi (fun z77 e78 => ?_)
      obtain rfl : z77 = 3 := e78.trans (by first | decide | rfl)
      refine va_put (D := D) (ci := 12) (v := .int 3) (ty := .int) (C := RX12) (T := TX12) (N := 74) hx hb hT i_TX12 tyX12 tyX12_ok nmX12 hown hK hP hD hS 0 rfl rfl 2 (by decide) (hT _ t_1717) (fun _ h9 => h9) rfl (by decide +kernel) rfl rfl (Nat.le_of_ble_eq_true rfl) dX12_feed_69 (fun H locs hP hD hS => ?_)
      have hP : va_P D vwCl [(hm, .inr (12, [.int 0, .ref (ma 1), .int 3, .int (-1), .ref (ma 4), .int 0, .int 0, .int 0, .long 0, .int 0, .int 0, .int 0, .int 0, .long 0, .int 0, .int 0, .int 0, .ref (ma 17), .ref (ma 18), .ref (ma 19), .ref (ma 20), .ref (ma 21), .ref (ma 22), .ref (ma 23), .ref (ma 24), .ref (ma 25), .ref (ma 26), .ref (ma 27), .ref (ma 28), .ref (ma 29), .ref (ma 30), .ref (ma 31), .ref (ma 32), .ref (ma 33), .ref (ma 34), .ref (ma 35), .ref (ma 36), .ref (ma 37), .ref (ma 38), .ref (ma 39), .ref (ma 40), .ref (ma 41), .ref (ma 42), .ref (ma 43), .ref (ma 44), .ref (ma 45), .ref (ma 46), .ref (ma 47), .ref (ma 48), .int 0, .int 0, .int 0, .int 0, .int 0, .int 0, .int 0, .int 0, .int 0, .int 0, .ref (ma 59), .ref (ma 60), .int 0, .int 0, .int 0, .int 0, .int 0, .int 0, .ref (ma 67), .ref (ma 68), .ref (ma 69), .int 0, .int (-1), .int 0, .ref (ma 73)])), ((ma 1), .inl (cy 0, 1600, .inl f76))] H := hP
      have hD : va_D A [(hm, .inr (12, [.int 0, .ref (ma 1), .int 3, .int (-1), .ref (ma 4), .int 0, .int 0, .int 0, .long 0, .int 0, .int 0, .int 0, .int 0, .long 0, .int 0, .int 0, .int 0, .ref (ma 17), .ref (ma 18), .ref (ma 19), .ref (ma 20), .ref (ma 21), .ref (ma 22), .ref (ma 23), .ref (ma 24), .ref (ma 25), .ref (ma 26), .ref (ma 27), .ref (ma 28), .ref (ma 29), .ref (ma 30), .ref (ma 31), .ref (ma 32), .ref (ma 33), .ref (ma 34), .ref (ma 35), .ref (ma 36), .ref (ma 37), .ref (ma 38), .ref (ma 39), .ref (ma 40), .ref (ma 41), .ref (ma 42), .ref (ma 43), .ref (ma 44), .ref (ma 45), .ref (ma 46), .ref (ma 47), .ref (ma 48), .int 0, .int 0, .int 0, .int 0, .int 0, .int 0, .int 0, .int 0, .int 0, .int 0, .ref (ma 59), .ref (ma 60), .int 0, .int 0, .int 0, .int 0, .int 0, .int 0, .ref (ma 67), .ref (ma 68), .ref (ma 69), .int 0, .int (-1), .int 0, .ref (ma 73)])), ((ma 1), .inl (cy 0, 1600, .inl f76))] := hD
      refine lv_iinc (v := (-1)) (lv' := [(4, .int (-1)), (0, .ref hm), (1, .long p0), (3, .int (nI 3))]) hx hb dX12_feed_72 hl (k := 0) rfl (by decide) (by decide) rfl (fun ls hl => ?_)
      refine lv_goto (tgt := 39) hx hb dX12_feed_75 (by decide) ?_
      refine lv_iload hx hb dX12_feed_39 (lv_at hl 0 rfl) ?_
      refine lv_if_lt (tgt := 78) hx hb dX12_feed_41 (by decide) (fun _ => ?_) (fun c9 => absurd (by decide) c9)
      refine lv_aload_n hx hb dX12_feed_78 rfl (lv_at hl 1 rfl) ?_
      refine va_get (D := D) (ci := 12) (v := .int 3) (C := RX12) (T := TX12) (N := 74) hx hb hT i_TX12 hown hK hP 0 rfl rfl 2 (by decide) (hT _ t_1717) (fun _ h9 => h9) rfl dX12_feed_79 ?_
      have hP9 := hP.sub (ws' := []) [] rfl
      have hD9 := hD.sub (ws' := []) [] (by decide) rfl
      refine W.widen (k := 0) (n := 0) (Nat.le_of_ble_eq_true rfl) (Nat.le_of_ble_eq_true rfl) ?_
      exact W.iret (v := 3) hx hb hr (fun t ht hW => ⟨⟨3, (), rfl, (by decide), by rw [ht]; exact hP9, hD9⟩, hS.F ht⟩) hS.2.2 dX12_feed_82
    · refine lv_aload_n hx hb dX12_feed_0 rfl (lv_at hl 0 rfl) ?_
      refine lv_iconst (v := 0) hx hb dX12_feed_1 (by decide) ?_
      refine va_put (D := D) (ci := 12) (v := .int 0) (ty := .int) (C := RX12) (T := TX12) (N := 74) hx hb hT i_TX12 tyX12 tyX12_ok nmX12 hown hK hP hD hS 0 rfl rfl 0 (by decide) (hT _ t_1715) (fun _ h9 => h9) rfl (by decide +kernel) rfl rfl (Nat.le_of_ble_eq_true rfl) dX12_feed_2 (fun H locs hP hD hS => ?_)
      have hP : va_P D vwCl [(hm, .inr (12, [.int 0, .ref (ma 1), .int 0, .int (-1), .ref (ma 4), .int 0, .int 0, .int 0, .long 0, .int 0, .int 0, .int 0, .int 0, .long 0, .int 0, .int 0, .int 0, .ref (ma 17), .ref (ma 18), .ref (ma 19), .ref (ma 20), .ref (ma 21), .ref (ma 22), .ref (ma 23), .ref (ma 24), .ref (ma 25), .ref (ma 26), .ref (ma 27), .ref (ma 28), .ref (ma 29), .ref (ma 30), .ref (ma 31), .ref (ma 32), .ref (ma 33), .ref (ma 34), .ref (ma 35), .ref (ma 36), .ref (ma 37), .ref (ma 38), .ref (ma 39), .ref (ma 40), .ref (ma 41), .ref (ma 42), .ref (ma 43), .ref (ma 44), .ref (ma 45), .ref (ma 46), .ref (ma 47), .ref (ma 48), .int 0, .int 0, .int 0, .int 0, .int 0, .int 0, .int 0, .int 0, .int 0, .int 0, .ref (ma 59), .ref (ma 60), .int 0, .int 0, .int 0, .int 0, .int 0, .int 0, .ref (ma 67), .ref (ma 68), .ref (ma 69), .int 0, .int (-1), .int 0, .ref (ma 73)])), ((ma 1), .inl (cy 0, 1600, .inl (fun _ => 0)))] H := hP
      have hD : va_D A [(hm, .inr (12, [.int 0, .ref (ma 1), .int 0, .int (-1), .ref (ma 4), .int 0, .int 0, .int 0, .long 0, .int 0, .int 0, .int 0, .int 0, .long 0, .int 0, .int 0, .int 0, .ref (ma 17), .ref (ma 18), .ref (ma 19), .ref (ma 20), .ref (ma 21), .ref (ma 22), .ref (ma 23), .ref (ma 24), .ref (ma 25), .ref (ma 26), .ref (ma 27), .ref (ma 28), .ref (ma 29), .ref (ma 30), .ref (ma 31), .ref (ma 32), .ref (ma 33), .ref (ma 34), .ref (ma 35), .ref (ma 36), .ref (ma 37), .ref (ma 38), .ref (ma 39), .ref (ma 40), .ref (ma 41), .ref (ma 42), .ref (ma 43), .ref (ma 44), .ref (ma 45), .ref (ma 46), .ref (ma 47), .ref (ma 48), .int 0, .int 0, .int 0, .int 0, .int 0, .int 0, .int 0, .int 0, .int 0, .int 0, .ref (ma 59), .ref (ma 60), .int 0, .int 0, .int 0, .int 0, .int 0, .int 0, .ref (ma 67), .ref (ma 68), .ref (ma 69), .int 0, .int (-1), .int 0, .ref (ma 73)])), ((ma 1), .inl (cy 0, 1600, .inl (fun _ => 0)))] := hD
      refine lv_iload_n hx hb dX12_feed_5 rfl (lv_at hl 2 rfl) ?_
      refine lv_iconst (v := 1) hx hb dX12_feed_6 (by decide) ?_
      refine lv_icmp_lt (tgt := 16) hx hb dX12_feed_7 (by decide) (fun c9 => absurd c9 (by decide)) (fun _ => ?_)
      refine lv_iload_n hx hb dX12_feed_10 rfl (lv_at hl 2 rfl) ?_
      refine lv_bipush (v := 8) hx hb dX12_feed_11 (by decide) ?_
      refine lv_icmp_le (tgt := 19) hx hb dX12_feed_13 (by decide) (fun _ => ?_) (fun c9 => absurd (by decide) c9)
      refine lv_aload_n hx hb dX12_feed_19 rfl (lv_at hl 0 rfl) ?_
      refine va_get (D := D) (ci := 12) (v := .int 0) (C := RX12) (T := TX12) (N := 74) hx hb hT i_TX12 hown hK hP 0 rfl rfl 2 (by decide) (hT _ t_1717) (fun _ h9 => h9) rfl dX12_feed_20 ?_
      refine lv_iload_n hx hb dX12_feed_23 rfl (lv_at hl 2 rfl) ?_
      refine lv_iadd hx hb dX12_feed_24 ?_
      refine lv_topi (fun z79 e80 => ?_)
      obtain rfl : z79 = 4 := e80.trans (by first | decide | rfl)
      refine lv_sipush (v := 1600) hx hb dX12_feed_25 (by decide) ?_
      refine lv_icmp_le (tgt := 34) hx hb dX12_feed_28 (by decide) (fun _ => ?_) (fun c9 => absurd (by decide) c9)
      refine lv_iload_n hx hb dX12_feed_34 rfl (lv_at hl 2 rfl) ?_
      refine lv_iconst (v := 1) hx hb dX12_feed_35 (by decide) ?_
      refine lv_isub hx hb dX12_feed_36 ?_
      refine lv_topi (fun z81 e82 => ?_)
      obtain rfl : z81 = 3 := e82.trans (by first | decide | rfl)
      refine lv_istore (lv' := [(4, .int 3), (0, .ref hm), (1, .long p0), (3, .int (nI 4))]) hx hb dX12_feed_37 hl (by decide) rfl (fun ls hl => ?_)
      refine lv_iload hx hb dX12_feed_39 (lv_at hl 0 rfl) ?_
      refine lv_if_lt (tgt := 78) hx hb dX12_feed_41 (by decide) (fun c9 => absurd c9 (by decide)) (fun _ => ?_)
      refine lv_aload_n hx hb dX12_feed_44 rfl (lv_at hl 1 rfl) ?_
      refine va_get (D := D) (ci := 12) (v := .ref (ma 1)) (C := RX12) (T := TX12) (N := 74) hx hb hT i_TX12 hown hK hP 0 rfl rfl 1 (by decide) (hT _ t_1716) (fun _ h9 => h9) rfl dX12_feed_45 ?_
      refine lv_aload_n hx hb dX12_feed_48 rfl (lv_at hl 1 rfl) ?_
      refine va_get (D := D) (ci := 12) (v := .int 0) (C := RX12) (T := TX12) (N := 74) hx hb hT i_TX12 hown hK hP 0 rfl rfl 2 (by decide) (hT _ t_1717) (fun _ h9 => h9) rfl dX12_feed_49 ?_
      refine lv_lload_n hx hb dX12_feed_52 rfl (lv_at hl 2 rfl) ?_
      refine lv_bipush (v := 8) hx hb dX12_feed_53 (by decide) ?_
      refine lv_iload hx hb dX12_feed_55 (lv_at hl 0 rfl) ?_
      refine lv_imul hx hb dX12_feed_57 ?_
      refine lv_topi (fun z83 e84 => ?_)
      obtain rfl : z83 = 24 := e84.trans (by first | decide | rfl)
      refine lv_lshr hx hb dX12_feed_58 rfl ?_
      refine lv_topl (fun z85 e86 => ?_)
      refine lv_l2i hx hb dX12_feed_59 rfl ?_
      refine lv_topi (fun z87 e88 => ?_)
      refine lv_i2b hx hb dX12_feed_60 rfl ?_
      refine lv_topi (fun z89 e90 => ?_)
      refine va_bast hx hb hK hP hD hS 1 0 rfl rfl (vp_in_iff.mpr (by decide)) dX12_feed_61 (fun H locs hP hD hS => ?_)
      have hP : va_P D vwCl [(hm, .inr (12, [.int 0, .ref (ma 1), .int 0, .int (-1), .ref (ma 4), .int 0, .int 0, .int 0, .long 0, .int 0, .int 0, .int 0, .int 0, .long 0, .int 0, .int 0, .int 0, .ref (ma 17), .ref (ma 18), .ref (ma 19), .ref (ma 20), .ref (ma 21), .ref (ma 22), .ref (ma 23), .ref (ma 24), .ref (ma 25), .ref (ma 26), .ref (ma 27), .ref (ma 28), .ref (ma 29), .ref (ma 30), .ref (ma 31), .ref (ma 32), .ref (ma 33), .ref (ma 34), .ref (ma 35), .ref (ma 36), .ref (ma 37), .ref (ma 38), .ref (ma 39), .ref (ma 40), .ref (ma 41), .ref (ma 42), .ref (ma 43), .ref (ma 44), .ref (ma 45), .ref (ma 46), .ref (ma 47), .ref (ma 48), .int 0, .int 0, .int 0, .int 0, .int 0, .int 0, .int 0, .int 0, .int 0, .int 0, .ref (ma 59), .ref (ma 60), .int 0, .int 0, .int 0, .int 0, .int 0, .int 0, .ref (ma 67), .ref (ma 68), .ref (ma 69), .int 0, .int (-1), .int 0, .ref (ma 73)])), ((ma 1), .inl (cy 0, 1600, .inl (upd (fun _ => 0) (0 : Int32).toNatClampNeg (vp_nar .byte z89))))] H := hP
      have hD : va_D A [(hm, .inr (12, [.int 0, .ref (ma 1), .int 0, .int (-1), .ref (ma 4), .int 0, .int 0, .int 0, .long 0, .int 0, .int 0, .int 0, .int 0, .long 0, .int 0, .int 0, .int 0, .ref (ma 17), .ref (ma 18), .ref (ma 19), .ref (ma 20), .ref (ma 21), .ref (ma 22), .ref (ma 23), .ref (ma 24), .ref (ma 25), .ref (ma 26), .ref (ma 27), .ref (ma 28), .ref (ma 29), .ref (ma 30), .ref (ma 31), .ref (ma 32), .ref (ma 33), .ref (ma 34), .ref (ma 35), .ref (ma 36), .ref (ma 37), .ref (ma 38), .ref (ma 39), .ref (ma 40), .ref (ma 41), .ref (ma 42), .ref (ma 43), .ref (ma 44), .ref (ma 45), .ref (ma 46), .ref (ma 47), .ref (ma 48), .int 0, .int 0, .int 0, .int 0, .int 0, .int 0, .int 0, .int 0, .int 0, .int 0, .ref (ma 59), .ref (ma 60), .int 0, .int 0, .int 0, .int 0, .int 0, .int 0, .ref (ma 67), .ref (ma 68), .ref (ma 69), .int 0, .int (-1), .int 0, .ref (ma 73)])), ((ma 1), .inl (cy 0, 1600, .inl (upd (fun _ => 0) (0 : Int32).toNatClampNeg (vp_nar .byte z89))))] := hD
      generalize hff91 : (upd (fun _ => 0) (0 : Int32).toNatClampNeg (vp_nar .byte z89)) = f91 at hP hD
      refine lv_aload_n hx hb dX12_feed_62 rfl (lv_at hl 1 rfl) ?_
      refine lv_dup hx hb dX12_feed_63 rfl ?_
      refine va_get (D := D) (ci := 12) (v := .int 0) (C := RX12) (T := TX12) (N := 74) hx hb hT i_TX12 hown hK hP 0 rfl rfl 2 (by decide) (hT _ t_1717) (fun _ h9 => h9) rfl dX12_feed_64 ?_
      refine lv_iconst (v := 1) hx hb dX12_feed_67 (by decide) ?_
      refine lv_iadd hx hb dX12_feed_68 ?_
      refine lv_topi (fun z92 e93 => ?_)
      obtain rfl : z92 = 1 := e93.trans (by first | decide | rfl)
      refine va_put (D := D) (ci := 12) (v := .int 1) (ty := .int) (C := RX12) (T := TX12) (N := 74) hx hb hT i_TX12 tyX12 tyX12_ok nmX12 hown hK hP hD hS 0 rfl rfl 2 (by decide) (hT _ t_1717) (fun _ h9 => h9) rfl (by decide +kernel) rfl rfl (Nat.le_of_ble_eq_true rfl) dX12_feed_69 (fun H locs hP hD hS => ?_)
      have hP : va_P D vwCl [(hm, .inr (12, [.int 0, .ref (ma 1), .int 1, .int (-1), .ref (ma 4), .int 0, .int 0, .int 0, .long 0, .int 0, .int 0, .int 0, .int 0, .long 0, .int 0, .int 0, .int 0, .ref (ma 17), .ref (ma 18), .ref (ma 19), .ref (ma 20), .ref (ma 21), .ref (ma 22), .ref (ma 23), .ref (ma 24), .ref (ma 25), .ref (ma 26), .ref (ma 27), .ref (ma 28), .ref (ma 29), .ref (ma 30), .ref (ma 31), .ref (ma 32), .ref (ma 33), .ref (ma 34), .ref (ma 35), .ref (ma 36), .ref (ma 37), .ref (ma 38), .ref (ma 39), .ref (ma 40), .ref (ma 41), .ref (ma 42), .ref (ma 43), .ref (ma 44), .ref (ma 45), .ref (ma 46), .ref (ma 47), .ref (ma 48), .int 0, .int 0, .int 0, .int 0, .int 0, .int 0, .int 0, .int 0, .int 0, .int 0, .ref (ma 59), .ref (ma 60), .int 0, .int 0, .int 0, .int 0, .int 0, .int 0, .ref (ma 67), .ref (ma 68), .ref (ma 69), .int 0, .int (-1), .int 0, .ref (ma 73)])), ((ma 1), .inl (cy 0, 1600, .inl f91))] H := hP
      have hD : va_D A [(hm, .inr (12, [.int 0, .ref (ma 1), .int 1, .int (-1), .ref (ma 4), .int 0, .int 0, .int 0, .long 0, .int 0, .int 0, .int 0, .int 0, .long 0, .int 0, .int 0, .int 0, .ref (ma 17), .ref (ma 18), .ref (ma 19), .ref (ma 20), .ref (ma 21), .ref (ma 22), .ref (ma 23), .ref (ma 24), .ref (ma 25), .ref (ma 26), .ref (ma 27), .ref (ma 28), .ref (ma 29), .ref (ma 30), .ref (ma 31), .ref (ma 32), .ref (ma 33), .ref (ma 34), .ref (ma 35), .ref (ma 36), .ref (ma 37), .ref (ma 38), .ref (ma 39), .ref (ma 40), .ref (ma 41), .ref (ma 42), .ref (ma 43), .ref (ma 44), .ref (ma 45), .ref (ma 46), .ref (ma 47), .ref (ma 48), .int 0, .int 0, .int 0, .int 0, .int 0, .int 0, .int 0, .int 0, .int 0, .int 0, .ref (ma 59), .ref (ma 60), .int 0, .int 0, .int 0, .int 0, .int 0, .int 0, .ref (ma 67), .ref (ma 68), .ref (ma 69), .int 0, .int (-1), .int 0, .ref (ma 73)])), ((ma 1), .inl (cy 0, 1600, .inl f91))] := hD
      refine lv_iinc (v := 2) (lv' := [(4, .int 2), (0, .ref hm), (1, .long p0), (3, .int (nI 4))]) hx hb dX12_feed_72 hl (k := 0) rfl (by decide) (by decide) rfl (fun ls hl => ?_)
      refine lv_goto (tgt := 39) hx hb dX12_feed_75 (by decide) ?_
      refine lv_iload hx hb dX12_feed_39 (lv_at hl 0 rfl) ?_
      refine lv_if_lt (tgt := 78) hx hb dX12_feed_41 (by decide) (fun c9 => absurd c9 (by decide)) (fun _ => ?_)
      refine lv_aload_n hx hb dX12_feed_44 rfl (lv_at hl 1 rfl) ?_
      refine va_get (D := D) (ci := 12) (v := .ref (ma 1)) (C := RX12) (T := TX12) (N := 74) hx hb hT i_TX12 hown hK hP 0 rfl rfl 1 (by decide) (hT _ t_1716) (fun _ h9 => h9) rfl dX12_feed_45 ?_
      refine lv_aload_n hx hb dX12_feed_48 rfl (lv_at hl 1 rfl) ?_
      refine va_get (D := D) (ci := 12) (v := .int 1) (C := RX12) (T := TX12) (N := 74) hx hb hT i_TX12 hown hK hP 0 rfl rfl 2 (by decide) (hT _ t_1717) (fun _ h9 => h9) rfl dX12_feed_49 ?_
      refine lv_lload_n hx hb dX12_feed_52 rfl (lv_at hl 2 rfl) ?_
      refine lv_bipush (v := 8) hx hb dX12_feed_53 (by decide) ?_
      refine lv_iload hx hb dX12_feed_55 (lv_at hl 0 rfl) ?_
      refine lv_imul hx hb dX12_feed_57 ?_
      refine lv_topi (fun z94 e95 => ?_)
      obtain rfl : z94 = 16 := e95.trans (by first | decide | rfl)
      refine lv_lshr hx hb dX12_feed_58 rfl ?_
      refine lv_topl (fun z96 e97 => ?_)
      refine lv_l2i hx hb dX12_feed_59 rfl ?_
      refine lv_topi (fun z98 e99 => ?_)
      refine lv_i2b hx hb dX12_feed_60 rfl ?_
      refine lv_topi (fun z100 e101 => ?_)
      refine va_bast hx hb hK hP hD hS 1 0 rfl rfl (vp_in_iff.mpr (by decide)) dX12_feed_61 (fun H locs hP hD hS => ?_)
      have hP : va_P D vwCl [(hm, .inr (12, [.int 0, .ref (ma 1), .int 1, .int (-1), .ref (ma 4), .int 0, .int 0, .int 0, .long 0, .int 0, .int 0, .int 0, .int 0, .long 0, .int 0, .int 0, .int 0, .ref (ma 17), .ref (ma 18), .ref (ma 19), .ref (ma 20), .ref (ma 21), .ref (ma 22), .ref (ma 23), .ref (ma 24), .ref (ma 25), .ref (ma 26), .ref (ma 27), .ref (ma 28), .ref (ma 29), .ref (ma 30), .ref (ma 31), .ref (ma 32), .ref (ma 33), .ref (ma 34), .ref (ma 35), .ref (ma 36), .ref (ma 37), .ref (ma 38), .ref (ma 39), .ref (ma 40), .ref (ma 41), .ref (ma 42), .ref (ma 43), .ref (ma 44), .ref (ma 45), .ref (ma 46), .ref (ma 47), .ref (ma 48), .int 0, .int 0, .int 0, .int 0, .int 0, .int 0, .int 0, .int 0, .int 0, .int 0, .ref (ma 59), .ref (ma 60), .int 0, .int 0, .int 0, .int 0, .int 0, .int 0, .ref (ma 67), .ref (ma 68), .ref (ma 69), .int 0, .int (-1), .int 0, .ref (ma 73)])), ((ma 1), .inl (cy 0, 1600, .inl (upd f91 (1 : Int32).toNatClampNeg (vp_nar .byte z100))))] H := hP
      have hD : va_D A [(hm, .inr (12, [.int 0, .ref (ma 1), .int 1, .int (-1), .ref (ma 4), .int 0, .int 0, .int 0, .long 0, .int 0, .int 0, .int 0, .int 0, .long 0, .int 0, .int 0, .int 0, .ref (ma 17), .ref (ma 18), .ref (ma 19), .ref (ma 20), .ref (ma 21), .ref (ma 22), .ref (ma 23), .ref (ma 24), .ref (ma 25), .ref (ma 26), .ref (ma 27), .ref (ma 28), .ref (ma 29), .ref (ma 30), .ref (ma 31), .ref (ma 32), .ref (ma 33), .ref (ma 34), .ref (ma 35), .ref (ma 36), .ref (ma 37), .ref (ma 38), .ref (ma 39), .ref (ma 40), .ref (ma 41), .ref (ma 42), .ref (ma 43), .ref (ma 44), .ref (ma 45), .ref (ma 46), .ref (ma 47), .ref (ma 48), .int 0, .int 0, .int 0, .int 0, .int 0, .int 0, .int 0, .int 0, .int 0, .int 0, .ref (ma 59), .ref (ma 60), .int 0, .int 0, .int 0, .int 0, .int 0, .int 0, .ref (ma 67), .ref (ma 68), .ref (ma 69), .int 0, .int (-1), .int 0, .ref (ma 73)])), ((ma 1), .inl (cy 0, 1600, .inl (upd f91 (1 : Int32).toNatClampNeg (vp_nar .byte z100))))] := hD
      generalize hff102 : (upd f91 (1 : Int32).toNatClampNeg (vp_nar .byte z100)) = f102 at hP hD
      refine lv_aload_n hx hb dX12_feed_62 rfl (lv_at hl 1 rfl) ?_
      refine lv_dup hx hb dX12_feed_63 rfl ?_
      refine va_get (D := D) (ci := 12) (v := .int 1) (C := RX12) (T := TX12) (N := 74) hx hb hT i_TX12 hown hK hP 0 rfl rfl 2 (by decide) (hT _ t_1717) (fun _ h9 => h9) rfl dX12_feed_64 ?_
      refine lv_iconst (v := 1) hx hb dX12_feed_67 (by decide) ?_
      refine lv_iadd hx hb dX12_feed_68 ?_
      refine lv_topi (fun z103 e104 => ?_)
      obtain rfl : z103 = 2 := e104.trans (by first | decide | rfl)
      refine va_put (D := D) (ci := 12) (v := .int 2) (ty := .int) (C := RX12) (T := TX12) (N := 74) hx hb hT i_TX12 tyX12 tyX12_ok nmX12 hown hK hP hD hS 0 rfl rfl 2 (by decide) (hT _ t_1717) (fun _ h9 => h9) rfl (by decide +kernel) rfl rfl (Nat.le_of_ble_eq_true rfl) dX12_feed_69 (fun H locs hP hD hS => ?_)
      have hP : va_P D vwCl [(hm, .inr (12, [.int 0, .ref (ma 1), .int 2, .int (-1), .ref (ma 4), .int 0, .int 0, .int 0, .long 0, .int 0, .int 0, .int 0, .int 0, .long 0, .int 0, .int 0, .int 0, .ref (ma 17), .ref (ma 18), .ref (ma 19), .ref (ma 20), .ref (ma 21), .ref (ma 22), .ref (ma 23), .ref (ma 24), .ref (ma 25), .ref (ma 26), .ref (ma 27), .ref (ma 28), .ref (ma 29), .ref (ma 30), .ref (ma 31), .ref (ma 32), .ref (ma 33), .ref (ma 34), .ref (ma 35), .ref (ma 36), .ref (ma 37), .ref (ma 38), .ref (ma 39), .ref (ma 40), .ref (ma 41), .ref (ma 42), .ref (ma 43), .ref (ma 44), .ref (ma 45), .ref (ma 46), .ref (ma 47), .ref (ma 48), .int 0, .int 0, .int 0, .int 0, .int 0, .int 0, .int 0, .int 0, .int 0, .int 0, .ref (ma 59), .ref (ma 60), .int 0, .int 0, .int 0, .int 0, .int 0, .int 0, .ref (ma 67), .ref (ma 68), .ref (ma 69), .int 0, .int (-1), .int 0, .ref (ma 73)])), ((ma 1), .inl (cy 0, 1600, .inl f102))] H := hP
      have hD : va_D A [(hm, .inr (12, [.int 0, .ref (ma 1), .int 2, .int (-1), .ref (ma 4), .int 0, .int 0, .int 0, .long 0, .int 0, .int 0, .int 0, .int 0, .long 0, .int 0, .int 0, .int 0, .ref (ma 17), .ref (ma 18), .ref (ma 19), .ref (ma 20), .ref (ma 21), .ref (ma 22), .ref (ma 23), .ref (ma 24), .ref (ma 25), .ref (ma 26), .ref (ma 27), .ref (ma 28), .ref (ma 29), .ref (ma 30), .ref (ma 31), .ref (ma 32), .ref (ma 33), .ref (ma 34), .ref (ma 35), .ref (ma 36), .ref (ma 37), .ref (ma 38), .ref (ma 39), .ref (ma 40), .ref (ma 41), .ref (ma 42), .ref (ma 43), .ref (ma 44), .ref (ma 45), .ref (ma 46), .ref (ma 47), .ref (ma 48), .int 0, .int 0, .int 0, .int 0, .int 0, .int 0, .int 0, .int 0, .int 0, .int 0, .ref (ma 59), .ref (ma 60), .int 0, .int 0, .int 0, .int 0, .int 0, .int 0, .ref (ma 67), .ref (ma 68), .ref (ma 69), .int 0, .int (-1), .int 0, .ref (ma 73)])), ((ma 1), .inl (cy 0, 1600, .inl f102))] := hD
      refine lv_iinc (v := 1) (lv' := [(4, .int 1), (0, .ref hm), (1, .long p0), (3, .int (nI 4))]) hx hb dX12_feed_72 hl (k := 0) rfl (by decide) (by decide) rfl (fun ls hl => ?_)
      refine lv_goto (tgt := 39) hx hb dX12_feed_75 (by decide) ?_
      refine lv_iload hx hb dX12_feed_39 (lv_at hl 0 rfl) ?_
      refine lv_if_lt (tgt := 78) hx hb dX12_feed_41 (by decide) (fun c9 => absurd c9 (by decide)) (fun _ => ?_)
      refine lv_aload_n hx hb dX12_feed_44 rfl (lv_at hl 1 rfl) ?_
      refine va_get (D := D) (ci := 12) (v := .ref (ma 1)) (C := RX12) (T := TX12) (N := 74) hx hb hT i_TX12 hown hK hP 0 rfl rfl 1 (by decide) (hT _ t_1716) (fun _ h9 => h9) rfl dX12_feed_45 ?_
      refine lv_aload_n hx hb dX12_feed_48 rfl (lv_at hl 1 rfl) ?_
      refine va_get (D := D) (ci := 12) (v := .int 2) (C := RX12) (T := TX12) (N := 74) hx hb hT i_TX12 hown hK hP 0 rfl rfl 2 (by decide) (hT _ t_1717) (fun _ h9 => h9) rfl dX12_feed_49 ?_
      refine lv_lload_n hx hb dX12_feed_52 rfl (lv_at hl 2 rfl) ?_
      refine lv_bipush (v := 8) hx hb dX12_feed_53 (by decide) ?_
      refine lv_iload hx hb dX12_feed_55 (lv_at hl 0 rfl) ?_
      refine lv_imul hx hb dX12_feed_57 ?_
      refine lv_topi (fun z105 e106 => ?_)
      obtain rfl : z105 = 8 := e106.trans (by first | decide | rfl)
      refine lv_lshr hx hb dX12_feed_58 rfl ?_
      refine lv_topl (fun z107 e108 => ?_)
      refine lv_l2i hx hb dX12_feed_59 rfl ?_
      refine lv_topi (fun z109 e110 => ?_)
      refine lv_i2b hx hb dX12_feed_60 rfl ?_
      refine lv_topi (fun z111 e112 => ?_)
      refine va_bast hx hb hK hP hD hS 1 0 rfl rfl (vp_in_iff.mpr (by decide)) dX12_feed_61 (fun H locs hP hD hS => ?_)
      have hP : va_P D vwCl [(hm, .inr (12, [.int 0, .ref (ma 1), .int 2, .int (-1), .ref (ma 4), .int 0, .int 0, .int 0, .long 0, .int 0, .int 0, .int 0, .int 0, .long 0, .int 0, .int 0, .int 0, .ref (ma 17), .ref (ma 18), .ref (ma 19), .ref (ma 20), .ref (ma 21), .ref (ma 22), .ref (ma 23), .ref (ma 24), .ref (ma 25), .ref (ma 26), .ref (ma 27), .ref (ma 28), .ref (ma 29), .ref (ma 30), .ref (ma 31), .ref (ma 32), .ref (ma 33), .ref (ma 34), .ref (ma 35), .ref (ma 36), .ref (ma 37), .ref (ma 38), .ref (ma 39), .ref (ma 40), .ref (ma 41), .ref (ma 42), .ref (ma 43), .ref (ma 44), .ref (ma 45), .ref (ma 46), .ref (ma 47), .ref (ma 48), .int 0, .int 0, .int 0, .int 0, .int 0, .int 0, .int 0, .int 0, .int 0, .int 0, .ref (ma 59), .ref (ma 60), .int 0, .int 0, .int 0, .int 0, .int 0, .int 0, .ref (ma 67), .ref (ma 68), .ref (ma 69), .int 0, .int (-1), .int 0, .ref (ma 73)])), ((ma 1), .inl (cy 0, 1600, .inl (upd f102 (2 : Int32).toNatClampNeg (vp_nar .byte z111))))] H := hP
      have hD : va_D A [(hm, .inr (12, [.int 0, .ref (ma 1), .int 2, .int (-1), .ref (ma 4), .int 0, .int 0, .int 0, .long 0, .int 0, .int 0, .int 0, .int 0, .long 0, .int 0, .int 0, .int 0, .ref (ma 17), .ref (ma 18), .ref (ma 19), .ref (ma 20), .ref (ma 21), .ref (ma 22), .ref (ma 23), .ref (ma 24), .ref (ma 25), .ref (ma 26), .ref (ma 27), .ref (ma 28), .ref (ma 29), .ref (ma 30), .ref (ma 31), .ref (ma 32), .ref (ma 33), .ref (ma 34), .ref (ma 35), .ref (ma 36), .ref (ma 37), .ref (ma 38), .ref (ma 39), .ref (ma 40), .ref (ma 41), .ref (ma 42), .ref (ma 43), .ref (ma 44), .ref (ma 45), .ref (ma 46), .ref (ma 47), .ref (ma 48), .int 0, .int 0, .int 0, .int 0, .int 0, .int 0, .int 0, .int 0, .int 0, .int 0, .ref (ma 59), .ref (ma 60), .int 0, .int 0, .int 0, .int 0, .int 0, .int 0, .ref (ma 67), .ref (ma 68), .ref (ma 69), .int 0, .int (-1), .int 0, .ref (ma 73)])), ((ma 1), .inl (cy 0, 1600, .inl (upd f102 (2 : Int32).toNatClampNeg (vp_nar .byte z111))))] := hD
      generalize hff113 : (upd f102 (2 : Int32).toNatClampNeg (vp_nar .byte z111)) = f113 at hP hD
      refine lv_aload_n hx hb dX12_feed_62 rfl (lv_at hl 1 rfl) ?_
      refine lv_dup hx hb dX12_feed_63 rfl ?_
      refine va_get (D := D) (ci := 12) (v := .int 2) (C := RX12) (T := TX12) (N := 74) hx hb hT i_TX12 hown hK hP 0 rfl rfl 2 (by decide) (hT _ t_1717) (fun _ h9 => h9) rfl dX12_feed_64 ?_
      refine lv_iconst (v := 1) hx hb dX12_feed_67 (by decide) ?_
      refine lv_iadd hx hb dX12_feed_68 ?_
      refine lv_topi (fun z114 e115 => ?_)
      obtain rfl : z114 = 3 := e115.trans (by first | decide | rfl)
      refine va_put (D := D) (ci := 12) (v := .int 3) (ty := .int) (C := RX12) (T := TX12) (N := 74) hx hb hT i_TX12 tyX12 tyX12_ok nmX12 hown hK hP hD hS 0 rfl rfl 2 (by decide) (hT _ t_1717) (fun _ h9 => h9) rfl (by decide +kernel) rfl rfl (Nat.le_of_ble_eq_true rfl) dX12_feed_69 (fun H locs hP hD hS => ?_)
      have hP : va_P D vwCl [(hm, .inr (12, [.int 0, .ref (ma 1), .int 3, .int (-1), .ref (ma 4), .int 0, .int 0, .int 0, .long 0, .int 0, .int 0, .int 0, .int 0, .long 0, .int 0, .int 0, .int 0, .ref (ma 17), .ref (ma 18), .ref (ma 19), .ref (ma 20), .ref (ma 21), .ref (ma 22), .ref (ma 23), .ref (ma 24), .ref (ma 25), .ref (ma 26), .ref (ma 27), .ref (ma 28), .ref (ma 29), .ref (ma 30), .ref (ma 31), .ref (ma 32), .ref (ma 33), .ref (ma 34), .ref (ma 35), .ref (ma 36), .ref (ma 37), .ref (ma 38), .ref (ma 39), .ref (ma 40), .ref (ma 41), .ref (ma 42), .ref (ma 43), .ref (ma 44), .ref (ma 45), .ref (ma 46), .ref (ma 47), .ref (ma 48), .int 0, .int 0, .int 0, .int 0, .int 0, .int 0, .int 0, .int 0, .int 0, .int 0, .ref (ma 59), .ref (ma 60), .int 0, .int 0, .int 0, .int 0, .int 0, .int 0, .ref (ma 67), .ref (ma 68), .ref (ma 69), .int 0, .int (-1), .int 0, .ref (ma 73)])), ((ma 1), .inl (cy 0, 1600, .inl f113))] H := hP
      have hD : va_D A [(hm, .inr (12, [.int 0, .ref (ma 1), .int 3, .int (-1), .ref (ma 4), .int 0, .int 0, .int 0, .long 0, .int 0, .int 0, .int 0, .int 0, .long 0, .int 0, .int 0, .int 0, .ref (ma 17), .ref (ma 18), .ref (ma 19), .ref (ma 20), .ref (ma 21), .ref (ma 22), .ref (ma 23), .ref (ma 24), .ref (ma 25), .ref (ma 26), .ref (ma 27), .ref (ma 28), .ref (ma 29), .ref (ma 30), .ref (ma 31), .ref (ma 32), .ref (ma 33), .ref (ma 34), .ref (ma 35), .ref (ma 36), .ref (ma 37), .ref (ma 38), .ref (ma 39), .ref (ma 40), .ref (ma 41), .ref (ma 42), .ref (ma 43), .ref (ma 44), .ref (ma 45), .ref (ma 46), .ref (ma 47), .ref (ma 48), .int 0, .int 0, .int 0, .int 0, .int 0, .int 0, .int 0, .int 0, .int 0, .int 0, .ref (ma 59), .ref (ma 60), .int 0, .int 0, .int 0, .int 0, .int 0, .int 0, .ref (ma 67), .ref (ma 68), .ref (ma 69), .int 0, .int (-1), .int 0, .ref (ma 73)])), ((ma 1), .inl (cy 0, 1600, .inl f113))] := hD
      refine lv_iinc (v := 0) (lv' := [(4, .int 0), (0, .ref hm), (1, .long p0), (3, .int (nI 4))]) hx hb dX12_feed_72 hl (k := 0) rfl (by decide) (by decide) rfl (fun ls hl => ?_)
      refine lv_goto (tgt := 39) hx hb dX12_feed_75 (by decide) ?_
      refine lv_iload hx hb dX12_feed_39 (lv_at hl 0 rfl) ?_
      refine lv_if_lt (tgt := 78) hx hb dX12_feed_41 (by decide) (fun c9 => absurd c9 (by decide)) (fun _ => ?_)
      refine lv_aload_n hx hb dX12_feed_44 rfl (lv_at hl 1 rfl) ?_
      refine va_get (D := D) (ci := 12) (v := .ref (ma 1)) (C := RX12) (T := TX12) (N := 74) hx hb hT i_TX12 hown hK hP 0 rfl rfl 1 (by decide) (hT _ t_1716) (fun _ h9 => h9) rfl dX12_feed_45 ?_
      refine lv_aload_n hx hb dX12_feed_48 rfl (lv_at hl 1 rfl) ?_
      refine va_get (D := D) (ci := 12) (v := .int 3) (C := RX12) (T := TX12) (N := 74) hx hb hT i_TX12 hown hK hP 0 rfl rfl 2 (by decide) (hT _ t_1717) (fun _ h9 => h9) rfl dX12_feed_49 ?_
      refine lv_lload_n hx hb dX12_feed_52 rfl (lv_at hl 2 rfl) ?_
      refine lv_bipush (v := 8) hx hb dX12_feed_53 (by decide) ?_
      refine lv_iload hx hb dX12_feed_55 (lv_at hl 0 rfl) ?_
      refine lv_imul hx hb dX12_feed_57 ?_
      refine lv_topi (fun z116 e117 => ?_)
      obtain rfl : z116 = 0 := e117.trans (by first | decide | rfl)
      refine lv_lshr hx hb dX12_feed_58 rfl ?_
      refine lv_topl (fun z118 e119 => ?_)
      refine lv_l2i hx hb dX12_feed_59 rfl ?_
      refine lv_topi (fun z120 e121 => ?_)
      refine lv_i2b hx hb dX12_feed_60 rfl ?_
      refine lv_topi (fun z122 e123 => ?_)
      refine va_bast hx hb hK hP hD hS 1 0 rfl rfl (vp_in_iff.mpr (by decide)) dX12_feed_61 (fun H locs hP hD hS => ?_)
      have hP : va_P D vwCl [(hm, .inr (12, [.int 0, .ref (ma 1), .int 3, .int (-1), .ref (ma 4), .int 0, .int 0, .int 0, .long 0, .int 0, .int 0, .int 0, .int 0, .long 0, .int 0, .int 0, .int 0, .ref (ma 17), .ref (ma 18), .ref (ma 19), .ref (ma 20), .ref (ma 21), .ref (ma 22), .ref (ma 23), .ref (ma 24), .ref (ma 25), .ref (ma 26), .ref (ma 27), .ref (ma 28), .ref (ma 29), .ref (ma 30), .ref (ma 31), .ref (ma 32), .ref (ma 33), .ref (ma 34), .ref (ma 35), .ref (ma 36), .ref (ma 37), .ref (ma 38), .ref (ma 39), .ref (ma 40), .ref (ma 41), .ref (ma 42), .ref (ma 43), .ref (ma 44), .ref (ma 45), .ref (ma 46), .ref (ma 47), .ref (ma 48), .int 0, .int 0, .int 0, .int 0, .int 0, .int 0, .int 0, .int 0, .int 0, .int 0, .ref (ma 59), .ref (ma 60), .int 0, .int 0, .int 0, .int 0, .int 0, .int 0, .ref (ma 67), .ref (ma 68), .ref (ma 69), .int 0, .int (-1), .int 0, .ref (ma 73)])), ((ma 1), .inl (cy 0, 1600, .inl (upd f113 (3 : Int32).toNatClampNeg (vp_nar .byte z122))))] H := hP
      have hD : va_D A [(hm, .inr (12, [.int 0, .ref (ma 1), .int 3, .int (-1), .ref (ma 4), .int 0, .int 0, .int 0, .long 0, .int 0, .int 0, .int 0, .int 0, .long 0, .int 0, .int 0, .int 0, .ref (ma 17), .ref (ma 18), .ref (ma 19), .ref (ma 20), .ref (ma 21), .ref (ma 22), .ref (ma 23), .ref (ma 24), .ref (ma 25), .ref (ma 26), .ref (ma 27), .ref (ma 28), .ref (ma 29), .ref (ma 30), .ref (ma 31), .ref (ma 32), .ref (ma 33), .ref (ma 34), .ref (ma 35), .ref (ma 36), .ref (ma 37), .ref (ma 38), .ref (ma 39), .ref (ma 40), .ref (ma 41), .ref (ma 42), .ref (ma 43), .ref (ma 44), .ref (ma 45), .ref (ma 46), .ref (ma 47), .ref (ma 48), .int 0, .int 0, .int 0, .int 0, .int 0, .int 0, .int 0, .int 0, .int 0, .int 0, .ref (ma 59), .ref (ma 60), .int 0, .int 0, .int 0, .int 0, .int 0, .int 0, .ref (ma 67), .ref (ma 68), .ref (ma 69), .int 0, .int (-1), .int 0, .ref (ma 73)])), ((ma 1), .inl (cy 0, 1600, .inl (upd f113 (3 : Int32).toNatClampNeg (vp_nar .byte z122))))] := hD
      generalize hff124 : (upd f113 (3 : Int32).toNatClampNeg (vp_nar .byte z122)) = f124 at hP hD
      refine lv_aload_n hx hb dX12_feed_62 rfl (lv_at hl 1 rfl) ?_
      refine lv_dup hx hb dX12_feed_63 rfl ?_
      refine va_get (D := D) (ci := 12) (v := .int 3) (C := RX12) (T := TX12) (N := 74) hx hb hT i_TX12 hown hK hP 0 rfl rfl 2 (by decide) (hT _ t_1717) (fun _ h9 => h9) rfl dX12_feed_64 ?_
      refine lv_iconst (v := 1) hx hb dX12_feed_67 (by decide) ?_
      refine lv_iadd hx hb dX12_feed_68 ?_
      refine lv_topi (fun z125 e126 => ?_)
      obtain rfl : z125 = 4 := e126.trans (by first | decide | rfl)
      refine va_put (D := D) (ci := 12) (v := .int 4) (ty := .int) (C := RX12) (T := TX12) (N := 74) hx hb hT i_TX12 tyX12 tyX12_ok nmX12 hown hK hP hD hS 0 rfl rfl 2 (by decide) (hT _ t_1717) (fun _ h9 => h9) rfl (by decide +kernel) rfl rfl (Nat.le_of_ble_eq_true rfl) dX12_feed_69 (fun H locs hP hD hS => ?_)
      have hP : va_P D vwCl [(hm, .inr (12, [.int 0, .ref (ma 1), .int 4, .int (-1), .ref (ma 4), .int 0, .int 0, .int 0, .long 0, .int 0, .int 0, .int 0, .int 0, .long 0, .int 0, .int 0, .int 0, .ref (ma 17), .ref (ma 18), .ref (ma 19), .ref (ma 20), .ref (ma 21), .ref (ma 22), .ref (ma 23), .ref (ma 24), .ref (ma 25), .ref (ma 26), .ref (ma 27), .ref (ma 28), .ref (ma 29), .ref (ma 30), .ref (ma 31), .ref (ma 32), .ref (ma 33), .ref (ma 34), .ref (ma 35), .ref (ma 36), .ref (ma 37), .ref (ma 38), .ref (ma 39), .ref (ma 40), .ref (ma 41), .ref (ma 42), .ref (ma 43), .ref (ma 44), .ref (ma 45), .ref (ma 46), .ref (ma 47), .ref (ma 48), .int 0, .int 0, .int 0, .int 0, .int 0, .int 0, .int 0, .int 0, .int 0, .int 0, .ref (ma 59), .ref (ma 60), .int 0, .int 0, .int 0, .int 0, .int 0, .int 0, .ref (ma 67), .ref (ma 68), .ref (ma 69), .int 0, .int (-1), .int 0, .ref (ma 73)])), ((ma 1), .inl (cy 0, 1600, .inl f124))] H := hP
      have hD : va_D A [(hm, .inr (12, [.int 0, .ref (ma 1), .int 4, .int (-1), .ref (ma 4), .int 0, .int 0, .int 0, .long 0, .int 0, .int 0, .int 0, .int 0, .long 0, .int 0, .int 0, .int 0, .ref (ma 17), .ref (ma 18), .ref (ma 19), .ref (ma 20), .ref (ma 21), .ref (ma 22), .ref (ma 23), .ref (ma 24), .ref (ma 25), .ref (ma 26), .ref (ma 27), .ref (ma 28), .ref (ma 29), .ref (ma 30), .ref (ma 31), .ref (ma 32), .ref (ma 33), .ref (ma 34), .ref (ma 35), .ref (ma 36), .ref (ma 37), .ref (ma 38), .ref (ma 39), .ref (ma 40), .ref (ma 41), .ref (ma 42), .ref (ma 43), .ref (ma 44), .ref (ma 45), .ref (ma 46), .ref (ma 47), .ref (ma 48), .int 0, .int 0, .int 0, .int 0, .int 0, .int 0, .int 0, .int 0, .int 0, .int 0, .ref (ma 59), .ref (ma 60), .int 0, .int 0, .int 0, .int 0, .int 0, .int 0, .ref (ma 67), .ref (ma 68), .ref (ma 69), .int 0, .int (-1), .int 0, .ref (ma 73)])), ((ma 1), .inl (cy 0, 1600, .inl f124))] := hD
      refine lv_iinc (v := (-1)) (lv' := [(4, .int (-1)), (0, .ref hm), (1, .long p0), (3, .int (nI 4))]) hx hb dX12_feed_72 hl (k := 0) rfl (by decide) (by decide) rfl (fun ls hl => ?_)
      refine lv_goto (tgt := 39) hx hb dX12_feed_75 (by decide) ?_
      refine lv_iload hx hb dX12_feed_39 (lv_at hl 0 rfl) ?_
      refine lv_if_lt (tgt := 78) hx hb dX12_feed_41 (by decide) (fun _ => ?_) (fun c9 => absurd (by decide) c9)
      refine lv_aload_n hx hb dX12_feed_78 rfl (lv_at hl 1 rfl) ?_
      refine va_get (D := D) (ci := 12) (v := .int 4) (C := RX12) (T := TX12) (N := 74) hx hb hT i_TX12 hown hK hP 0 rfl rfl 2 (by decide) (hT _ t_1717) (fun _ h9 => h9) rfl dX12_feed_79 ?_
      have hP9 := hP.sub (ws' := []) [] rfl
      have hD9 := hD.sub (ws' := []) [] (by decide) rfl
      refine W.widen (k := 0) (n := 0) (Nat.le_of_ble_eq_true rfl) (Nat.le_of_ble_eq_true rfl) ?_
      exact W.iret (v := 4) hx hb hr (fun t ht hW => ⟨⟨4, (), rfl, (by decide), by rw [ht]; exact hP9, hD9⟩, hS.F ht⟩) hS.2.2 dX12_feed_82
    · refine lv_aload_n hx hb dX12_feed_0 rfl (lv_at hl 0 rfl) ?_
      refine lv_iconst (v := 0) hx hb dX12_feed_1 (by decide) ?_
      refine va_put (D := D) (ci := 12) (v := .int 0) (ty := .int) (C := RX12) (T := TX12) (N := 74) hx hb hT i_TX12 tyX12 tyX12_ok nmX12 hown hK hP hD hS 0 rfl rfl 0 (by decide) (hT _ t_1715) (fun _ h9 => h9) rfl (by decide +kernel) rfl rfl (Nat.le_of_ble_eq_true rfl) dX12_feed_2 (fun H locs hP hD hS => ?_)
      have hP : va_P D vwCl [(hm, .inr (12, [.int 0, .ref (ma 1), .int 0, .int (-1), .ref (ma 4), .int 0, .int 0, .int 0, .long 0, .int 0, .int 0, .int 0, .int 0, .long 0, .int 0, .int 0, .int 0, .ref (ma 17), .ref (ma 18), .ref (ma 19), .ref (ma 20), .ref (ma 21), .ref (ma 22), .ref (ma 23), .ref (ma 24), .ref (ma 25), .ref (ma 26), .ref (ma 27), .ref (ma 28), .ref (ma 29), .ref (ma 30), .ref (ma 31), .ref (ma 32), .ref (ma 33), .ref (ma 34), .ref (ma 35), .ref (ma 36), .ref (ma 37), .ref (ma 38), .ref (ma 39), .ref (ma 40), .ref (ma 41), .ref (ma 42), .ref (ma 43), .ref (ma 44), .ref (ma 45), .ref (ma 46), .ref (ma 47), .ref (ma 48), .int 0, .int 0, .int 0, .int 0, .int 0, .int 0, .int 0, .int 0, .int 0, .int 0, .ref (ma 59), .ref (ma 60), .int 0, .int 0, .int 0, .int 0, .int 0, .int 0, .ref (ma 67), .ref (ma 68), .ref (ma 69), .int 0, .int (-1), .int 0, .ref (ma 73)])), ((ma 1), .inl (cy 0, 1600, .inl (fun _ => 0)))] H := hP
      have hD : va_D A [(hm, .inr (12, [.int 0, .ref (ma 1), .int 0, .int (-1), .ref (ma 4), .int 0, .int 0, .int 0, .long 0, .int 0, .int 0, .int 0, .int 0, .long 0, .int 0, .int 0, .int 0, .ref (ma 17), .ref (ma 18), .ref (ma 19), .ref (ma 20), .ref (ma 21), .ref (ma 22), .ref (ma 23), .ref (ma 24), .ref (ma 25), .ref (ma 26), .ref (ma 27), .ref (ma 28), .ref (ma 29), .ref (ma 30), .ref (ma 31), .ref (ma 32), .ref (ma 33), .ref (ma 34), .ref (ma 35), .ref (ma 36), .ref (ma 37), .ref (ma 38), .ref (ma 39), .ref (ma 40), .ref (ma 41), .ref (ma 42), .ref (ma 43), .ref (ma 44), .ref (ma 45), .ref (ma 46), .ref (ma 47), .ref (ma 48), .int 0, .int 0, .int 0, .int 0, .int 0, .int 0, .int 0, .int 0, .int 0, .int 0, .ref (ma 59), .ref (ma 60), .int 0, .int 0, .int 0, .int 0, .int 0, .int 0, .ref (ma 67), .ref (ma 68), .ref (ma 69), .int 0, .int (-1), .int 0, .ref (ma 73)])), ((ma 1), .inl (cy 0, 1600, .inl (fun _ => 0)))] := hD
      refine lv_iload_n hx hb dX12_feed_5 rfl (lv_at hl 2 rfl) ?_
      refine lv_iconst (v := 1) hx hb dX12_feed_6 (by decide) ?_
      refine lv_icmp_lt (tgt := 16) hx hb dX12_feed_7 (by decide) (fun c9 => absurd c9 (by decide)) (fun _ => ?_)
      refine lv_iload_n hx hb dX12_feed_10 rfl (lv_at hl 2 rfl) ?_
      refine lv_bipush (v := 8) hx hb dX12_feed_11 (by decide) ?_
      refine lv_icmp_le (tgt := 19) hx hb dX12_feed_13 (by decide) (fun _ => ?_) (fun c9 => absurd (by decide) c9)
      refine lv_aload_n hx hb dX12_feed_19 rfl (lv_at hl 0 rfl) ?_
      refine va_get (D := D) (ci := 12) (v := .int 0) (C := RX12) (T := TX12) (N := 74) hx hb hT i_TX12 hown hK hP 0 rfl rfl 2 (by decide) (hT _ t_1717) (fun _ h9 => h9) rfl dX12_feed_20 ?_
      refine lv_iload_n hx hb dX12_feed_23 rfl (lv_at hl 2 rfl) ?_
      refine lv_iadd hx hb dX12_feed_24 ?_
      refine lv_topi (fun z127 e128 => ?_)
      obtain rfl : z127 = 5 := e128.trans (by first | decide | rfl)
      refine lv_sipush (v := 1600) hx hb dX12_feed_25 (by decide) ?_
      refine lv_icmp_le (tgt := 34) hx hb dX12_feed_28 (by decide) (fun _ => ?_) (fun c9 => absurd (by decide) c9)
      refine lv_iload_n hx hb dX12_feed_34 rfl (lv_at hl 2 rfl) ?_
      refine lv_iconst (v := 1) hx hb dX12_feed_35 (by decide) ?_
      refine lv_isub hx hb dX12_feed_36 ?_
      refine lv_topi (fun z129 e130 => ?_)
      obtain rfl : z129 = 4 := e130.trans (by first | decide | rfl)
      refine lv_istore (lv' := [(4, .int 4), (0, .ref hm), (1, .long p0), (3, .int (nI 5))]) hx hb dX12_feed_37 hl (by decide) rfl (fun ls hl => ?_)
      refine lv_iload hx hb dX12_feed_39 (lv_at hl 0 rfl) ?_
      refine lv_if_lt (tgt := 78) hx hb dX12_feed_41 (by decide) (fun c9 => absurd c9 (by decide)) (fun _ => ?_)
      refine lv_aload_n hx hb dX12_feed_44 rfl (lv_at hl 1 rfl) ?_
      refine va_get (D := D) (ci := 12) (v := .ref (ma 1)) (C := RX12) (T := TX12) (N := 74) hx hb hT i_TX12 hown hK hP 0 rfl rfl 1 (by decide) (hT _ t_1716) (fun _ h9 => h9) rfl dX12_feed_45 ?_
      refine lv_aload_n hx hb dX12_feed_48 rfl (lv_at hl 1 rfl) ?_
      refine va_get (D := D) (ci := 12) (v := .int 0) (C := RX12) (T := TX12) (N := 74) hx hb hT i_TX12 hown hK hP 0 rfl rfl 2 (by decide) (hT _ t_1717) (fun _ h9 => h9) rfl dX12_feed_49 ?_
      refine lv_lload_n hx hb dX12_feed_52 rfl (lv_at hl 2 rfl) ?_
      refine lv_bipush (v := 8) hx hb dX12_feed_53 (by decide) ?_
      refine lv_iload hx hb dX12_feed_55 (lv_at hl 0 rfl) ?_
      refine lv_imul hx hb dX12_feed_57 ?_
      refine lv_topi (fun z131 e132 => ?_)
      obtain rfl : z131 = 32 := e132.trans (by first | decide | rfl)
      refine lv_lshr hx hb dX12_feed_58 rfl ?_
      refine lv_topl (fun z133 e134 => ?_)
      refine lv_l2i hx hb dX12_feed_59 rfl ?_
      refine lv_topi (fun z135 e136 => ?_)
      refine lv_i2b hx hb dX12_feed_60 rfl ?_
      refine lv_topi (fun z137 e138 => ?_)
      refine va_bast hx hb hK hP hD hS 1 0 rfl rfl (vp_in_iff.mpr (by decide)) dX12_feed_61 (fun H locs hP hD hS => ?_)
      have hP : va_P D vwCl [(hm, .inr (12, [.int 0, .ref (ma 1), .int 0, .int (-1), .ref (ma 4), .int 0, .int 0, .int 0, .long 0, .int 0, .int 0, .int 0, .int 0, .long 0, .int 0, .int 0, .int 0, .ref (ma 17), .ref (ma 18), .ref (ma 19), .ref (ma 20), .ref (ma 21), .ref (ma 22), .ref (ma 23), .ref (ma 24), .ref (ma 25), .ref (ma 26), .ref (ma 27), .ref (ma 28), .ref (ma 29), .ref (ma 30), .ref (ma 31), .ref (ma 32), .ref (ma 33), .ref (ma 34), .ref (ma 35), .ref (ma 36), .ref (ma 37), .ref (ma 38), .ref (ma 39), .ref (ma 40), .ref (ma 41), .ref (ma 42), .ref (ma 43), .ref (ma 44), .ref (ma 45), .ref (ma 46), .ref (ma 47), .ref (ma 48), .int 0, .int 0, .int 0, .int 0, .int 0, .int 0, .int 0, .int 0, .int 0, .int 0, .ref (ma 59), .ref (ma 60), .int 0, .int 0, .int 0, .int 0, .int 0, .int 0, .ref (ma 67), .ref (ma 68), .ref (ma 69), .int 0, .int (-1), .int 0, .ref (ma 73)])), ((ma 1), .inl (cy 0, 1600, .inl (upd (fun _ => 0) (0 : Int32).toNatClampNeg (vp_nar .byte z137))))] H := hP
      have hD : va_D A [(hm, .inr (12, [.int 0, .ref (ma 1), .int 0, .int (-1), .ref (ma 4), .int 0, .int 0, .int 0, .long 0, .int 0, .int 0, .int 0, .int 0, .long 0, .int 0, .int 0, .int 0, .ref (ma 17), .ref (ma 18), .ref (ma 19), .ref (ma 20), .ref (ma 21), .ref (ma 22), .ref (ma 23), .ref (ma 24), .ref (ma 25), .ref (ma 26), .ref (ma 27), .ref (ma 28), .ref (ma 29), .ref (ma 30), .ref (ma 31), .ref (ma 32), .ref (ma 33), .ref (ma 34), .ref (ma 35), .ref (ma 36), .ref (ma 37), .ref (ma 38), .ref (ma 39), .ref (ma 40), .ref (ma 41), .ref (ma 42), .ref (ma 43), .ref (ma 44), .ref (ma 45), .ref (ma 46), .ref (ma 47), .ref (ma 48), .int 0, .int 0, .int 0, .int 0, .int 0, .int 0, .int 0, .int 0, .int 0, .int 0, .ref (ma 59), .ref (ma 60), .int 0, .int 0, .int 0, .int 0, .int 0, .int 0, .ref (ma 67), .ref (ma 68), .ref (ma 69), .int 0, .int (-1), .int 0, .ref (ma 73)])), ((ma 1), .inl (cy 0, 1600, .inl (upd (fun _ => 0) (0 : Int32).toNatClampNeg (vp_nar .byte z137))))] := hD
      generalize hff139 : (upd (fun _ => 0) (0 : Int32).toNatClampNeg (vp_nar .byte z137)) = f139 at hP hD
      refine lv_aload_n hx hb dX12_feed_62 rfl (lv_at hl 1 rfl) ?_
      refine lv_dup hx hb dX12_feed_63 rfl ?_
      refine va_get (D := D) (ci := 12) (v := .int 0) (C := RX12) (T := TX12) (N := 74) hx hb hT i_TX12 hown hK hP 0 rfl rfl 2 (by decide) (hT _ t_1717) (fun _ h9 => h9) rfl dX12_feed_64 ?_
      refine lv_iconst (v := 1) hx hb dX12_feed_67 (by decide) ?_
      refine lv_iadd hx hb dX12_feed_68 ?_
      refine lv_topi (fun z140 e141 => ?_)
      obtain rfl : z140 = 1 := e141.trans (by first | decide | rfl)
      refine va_put (D := D) (ci := 12) (v := .int 1) (ty := .int) (C := RX12) (T := TX12) (N := 74) hx hb hT i_TX12 tyX12 tyX12_ok nmX12 hown hK hP hD hS 0 rfl rfl 2 (by decide) (hT _ t_1717) (fun _ h9 => h9) rfl (by decide +kernel) rfl rfl (Nat.le_of_ble_eq_true rfl) dX12_feed_69 (fun H locs hP hD hS => ?_)
      have hP : va_P D vwCl [(hm, .inr (12, [.int 0, .ref (ma 1), .int 1, .int (-1), .ref (ma 4), .int 0, .int 0, .int 0, .long 0, .int 0, .int 0, .int 0, .int 0, .long 0, .int 0, .int 0, .int 0, .ref (ma 17), .ref (ma 18), .ref (ma 19), .ref (ma 20), .ref (ma 21), .ref (ma 22), .ref (ma 23), .ref (ma 24), .ref (ma 25), .ref (ma 26), .ref (ma 27), .ref (ma 28), .ref (ma 29), .ref (ma 30), .ref (ma 31), .ref (ma 32), .ref (ma 33), .ref (ma 34), .ref (ma 35), .ref (ma 36), .ref (ma 37), .ref (ma 38), .ref (ma 39), .ref (ma 40), .ref (ma 41), .ref (ma 42), .ref (ma 43), .ref (ma 44), .ref (ma 45), .ref (ma 46), .ref (ma 47), .ref (ma 48), .int 0, .int 0, .int 0, .int 0, .int 0, .int 0, .int 0, .int 0, .int 0, .int 0, .ref (ma 59), .ref (ma 60), .int 0, .int 0, .int 0, .int 0, .int 0, .int 0, .ref (ma 67), .ref (ma 68), .ref (ma 69), .int 0, .int (-1), .int 0, .ref (ma 73)])), ((ma 1), .inl (cy 0, 1600, .inl f139))] H := hP
      have hD : va_D A [(hm, .inr (12, [.int 0, .ref (ma 1), .int 1, .int (-1), .ref (ma 4), .int 0, .int 0, .int 0, .long 0, .int 0, .int 0, .int 0, .int 0, .long 0, .int 0, .int 0, .int 0, .ref (ma 17), .ref (ma 18), .ref (ma 19), .ref (ma 20), .ref (ma 21), .ref (ma 22), .ref (ma 23), .ref (ma 24), .ref (ma 25), .ref (ma 26), .ref (ma 27), .ref (ma 28), .ref (ma 29), .ref (ma 30), .ref (ma 31), .ref (ma 32), .ref (ma 33), .ref (ma 34), .ref (ma 35), .ref (ma 36), .ref (ma 37), .ref (ma 38), .ref (ma 39), .ref (ma 40), .ref (ma 41), .ref (ma 42), .ref (ma 43), .ref (ma 44), .ref (ma 45), .ref (ma 46), .ref (ma 47), .ref (ma 48), .int 0, .int 0, .int 0, .int 0, .int 0, .int 0, .int 0, .int 0, .int 0, .int 0, .ref (ma 59), .ref (ma 60), .int 0, .int 0, .int 0, .int 0, .int 0, .int 0, .ref (ma 67), .ref (ma 68), .ref (ma 69), .int 0, .int (-1), .int 0, .ref (ma 73)])), ((ma 1), .inl (cy 0, 1600, .inl f139))] := hD
      refine lv_iinc (v := 3) (lv' := [(4, .int 3), (0, .ref hm), (1, .long p0), (3, .int (nI 5))]) hx hb dX12_feed_72 hl (k := 0) rfl (by decide) (by decide) rfl (fun ls hl => ?_)
      refine lv_goto (tgt := 39) hx hb dX12_feed_75 (by decide) ?_
      refine lv_iload hx hb dX12_feed_39 (lv_at hl 0 rfl) ?_
      refine lv_if_lt (tgt := 78) hx hb dX12_feed_41 (by decide) (fun c9 => absurd c9 (by decide)) (fun _ => ?_)
      refine lv_aload_n hx hb dX12_feed_44 rfl (lv_at hl 1 rfl) ?_
      refine va_get (D := D) (ci := 12) (v := .ref (ma 1)) (C := RX12) (T := TX12) (N := 74) hx hb hT i_TX12 hown hK hP 0 rfl rfl 1 (by decide) (hT _ t_1716) (fun _ h9 => h9) rfl dX12_feed_45 ?_
      refine lv_aload_n hx hb dX12_feed_48 rfl (lv_at hl 1 rfl) ?_
      refine va_get (D := D) (ci := 12) (v := .int 1) (C := RX12) (T := TX12) (N := 74) hx hb hT i_TX12 hown hK hP 0 rfl rfl 2 (by decide) (hT _ t_1717) (fun _ h9 => h9) rfl dX12_feed_49 ?_
      refine lv_lload_n hx hb dX12_feed_52 rfl (lv_at hl 2 rfl) ?_
      refine lv_bipush (v := 8) hx hb dX12_feed_53 (by decide) ?_
      refine lv_iload hx hb dX12_feed_55 (lv_at hl 0 rfl) ?_
      refine lv_imul hx hb dX12_feed_57 ?_
      refine lv_topi (fun z142 e143 => ?_)
      obtain rfl : z142 = 24 := e143.trans (by first | decide | rfl)
      refine lv_lshr hx hb dX12_feed_58 rfl ?_
      refine lv_topl (fun z144 e145 => ?_)
      refine lv_l2i hx hb dX12_feed_59 rfl ?_
      refine lv_topi (fun z146 e147 => ?_)
      refine lv_i2b hx hb dX12_feed_60 rfl ?_
      refine lv_topi (fun z148 e149 => ?_)
      refine va_bast hx hb hK hP hD hS 1 0 rfl rfl (vp_in_iff.mpr (by decide)) dX12_feed_61 (fun H locs hP hD hS => ?_)
      have hP : va_P D vwCl [(hm, .inr (12, [.int 0, .ref (ma 1), .int 1, .int (-1), .ref (ma 4), .int 0, .int 0, .int 0, .long 0, .int 0, .int 0, .int 0, .int 0, .long 0, .int 0, .int 0, .int 0, .ref (ma 17), .ref (ma 18), .ref (ma 19), .ref (ma 20), .ref (ma 21), .ref (ma 22), .ref (ma 23), .ref (ma 24), .ref (ma 25), .ref (ma 26), .ref (ma 27), .ref (ma 28), .ref (ma 29), .ref (ma 30), .ref (ma 31), .ref (ma 32), .ref (ma 33), .ref (ma 34), .ref (ma 35), .ref (ma 36), .ref (ma 37), .ref (ma 38), .ref (ma 39), .ref (ma 40), .ref (ma 41), .ref (ma 42), .ref (ma 43), .ref (ma 44), .ref (ma 45), .ref (ma 46), .ref (ma 47), .ref (ma 48), .int 0, .int 0, .int 0, .int 0, .int 0, .int 0, .int 0, .int 0, .int 0, .int 0, .ref (ma 59), .ref (ma 60), .int 0, .int 0, .int 0, .int 0, .int 0, .int 0, .ref (ma 67), .ref (ma 68), .ref (ma 69), .int 0, .int (-1), .int 0, .ref (ma 73)])), ((ma 1), .inl (cy 0, 1600, .inl (upd f139 (1 : Int32).toNatClampNeg (vp_nar .byte z148))))] H := hP
      have hD : va_D A [(hm, .inr (12, [.int 0, .ref (ma 1), .int 1, .int (-1), .ref (ma 4), .int 0, .int 0, .int 0, .long 0, .int 0, .int 0, .int 0, .int 0, .long 0, .int 0, .int 0, .int 0, .ref (ma 17), .ref (ma 18), .ref (ma 19), .ref (ma 20), .ref (ma 21), .ref (ma 22), .ref (ma 23), .ref (ma 24), .ref (ma 25), .ref (ma 26), .ref (ma 27), .ref (ma 28), .ref (ma 29), .ref (ma 30), .ref (ma 31), .ref (ma 32), .ref (ma 33), .ref (ma 34), .ref (ma 35), .ref (ma 36), .ref (ma 37), .ref (ma 38), .ref (ma 39), .ref (ma 40), .ref (ma 41), .ref (ma 42), .ref (ma 43), .ref (ma 44), .ref (ma 45), .ref (ma 46), .ref (ma 47), .ref (ma 48), .int 0, .int 0, .int 0, .int 0, .int 0, .int 0, .int 0, .int 0, .int 0, .int 0, .ref (ma 59), .ref (ma 60), .int 0, .int 0, .int 0, .int 0, .int 0, .int 0, .ref (ma 67), .ref (ma 68), .ref (ma 69), .int 0, .int (-1), .int 0, .ref (ma 73)])), ((ma 1), .inl (cy 0, 1600, .inl (upd f139 (1 : Int32).toNatClampNeg (vp_nar .byte z148))))] := hD
      generalize hff150 : (upd f139 (1 : Int32).toNatClampNeg (vp_nar .byte z148)) = f150 at hP hD
      refine lv_aload_n hx hb dX12_feed_62 rfl (lv_at hl 1 rfl) ?_
      refine lv_dup hx hb dX12_feed_63 rfl ?_
      refine va_get (D := D) (ci := 12) (v := .int 1) (C := RX12) (T := TX12) (N := 74) hx hb hT i_TX12 hown hK hP 0 rfl rfl 2 (by decide) (hT _ t_1717) (fun _ h9 => h9) rfl dX12_feed_64 ?_
      refine lv_iconst (v := 1) hx hb dX12_feed_67 (by decide) ?_
      refine lv_iadd hx hb dX12_feed_68 ?_
      refine lv_topi (fun z151 e152 => ?_)
      obtain rfl : z151 = 2 := e152.trans (by first | decide | rfl)
      refine va_put (D := D) (ci := 12) (v := .int 2) (ty := .int) (C := RX12) (T := TX12) (N := 74) hx hb hT i_TX12 tyX12 tyX12_ok nmX12 hown hK hP hD hS 0 rfl rfl 2 (by decide) (hT _ t_1717) (fun _ h9 => h9) rfl (by decide +kernel) rfl rfl (Nat.le_of_ble_eq_true rfl) dX12_feed_69 (fun H locs hP hD hS => ?_)
      have hP : va_P D vwCl [(hm, .inr (12, [.int 0, .ref (ma 1), .int 2, .int (-1), .ref (ma 4), .int 0, .int 0, .int 0, .long 0, .int 0, .int 0, .int 0, .int 0, .long 0, .int 0, .int 0, .int 0, .ref (ma 17), .ref (ma 18), .ref (ma 19), .ref (ma 20), .ref (ma 21), .ref (ma 22), .ref (ma 23), .ref (ma 24), .ref (ma 25), .ref (ma 26), .ref (ma 27), .ref (ma 28), .ref (ma 29), .ref (ma 30), .ref (ma 31), .ref (ma 32), .ref (ma 33), .ref (ma 34), .ref (ma 35), .ref (ma 36), .ref (ma 37), .ref (ma 38), .ref (ma 39), .ref (ma 40), .ref (ma 41), .ref (ma 42), .ref (ma 43), .ref (ma 44), .ref (ma 45), .ref (ma 46), .ref (ma 47), .ref (ma 48), .int 0, .int 0, .int 0, .int 0, .int 0, .int 0, .int 0, .int 0, .int 0, .int 0, .ref (ma 59), .ref (ma 60), .int 0, .int 0, .int 0, .int 0, .int 0, .int 0, .ref (ma 67), .ref (ma 68), .ref (ma 69), .int 0, .int (-1), .int 0, .ref (ma 73)])), ((ma 1), .inl (cy 0, 1600, .inl f150))] H := hP
      have hD : va_D A [(hm, .inr (12, [.int 0, .ref (ma 1), .int 2, .int (-1), .ref (ma 4), .int 0, .int 0, .int 0, .long 0, .int 0, .int 0, .int 0, .int 0, .long 0, .int 0, .int 0, .int 0, .ref (ma 17), .ref (ma 18), .ref (ma 19), .ref (ma 20), .ref (ma 21), .ref (ma 22), .ref (ma 23), .ref (ma 24), .ref (ma 25), .ref (ma 26), .ref (ma 27), .ref (ma 28), .ref (ma 29), .ref (ma 30), .ref (ma 31), .ref (ma 32), .ref (ma 33), .ref (ma 34), .ref (ma 35), .ref (ma 36), .ref (ma 37), .ref (ma 38), .ref (ma 39), .ref (ma 40), .ref (ma 41), .ref (ma 42), .ref (ma 43), .ref (ma 44), .ref (ma 45), .ref (ma 46), .ref (ma 47), .ref (ma 48), .int 0, .int 0, .int 0, .int 0, .int 0, .int 0, .int 0, .int 0, .int 0, .int 0, .ref (ma 59), .ref (ma 60), .int 0, .int 0, .int 0, .int 0, .int 0, .int 0, .ref (ma 67), .ref (ma 68), .ref (ma 69), .int 0, .int (-1), .int 0, .ref (ma 73)])), ((ma 1), .inl (cy 0, 1600, .inl f150))] := hD
      refine lv_iinc (v := 2) (lv' := [(4, .int 2), (0, .ref hm), (1, .long p0), (3, .int (nI 5))]) hx hb dX12_feed_72 hl (k := 0) rfl (by decide) (by decide) rfl (fun ls hl => ?_)
      refine lv_goto (tgt := 39) hx hb dX12_feed_75 (by decide) ?_
      refine lv_iload hx hb dX12_feed_39 (lv_at hl 0 rfl) ?_
      refine lv_if_lt (tgt := 78) hx hb dX12_feed_41 (by decide) (fun c9 => absurd c9 (by decide)) (fun _ => ?_)
      refine lv_aload_n hx hb dX12_feed_44 rfl (lv_at hl 1 rfl) ?_
      refine va_get (D := D) (ci := 12) (v := .ref (ma 1)) (C := RX12) (T := TX12) (N := 74) hx hb hT i_TX12 hown hK hP 0 rfl rfl 1 (by decide) (hT _ t_1716) (fun _ h9 => h9) rfl dX12_feed_45 ?_
      refine lv_aload_n hx hb dX12_feed_48 rfl (lv_at hl 1 rfl) ?_
      refine va_get (D := D) (ci := 12) (v := .int 2) (C := RX12) (T := TX12) (N := 74) hx hb hT i_TX12 hown hK hP 0 rfl rfl 2 (by decide) (hT _ t_1717) (fun _ h9 => h9) rfl dX12_feed_49 ?_
      refine lv_lload_n hx hb dX12_feed_52 rfl (lv_at hl 2 rfl) ?_
      refine lv_bipush (v := 8) hx hb dX12_feed_53 (by decide) ?_
      refine lv_iload hx hb dX12_feed_55 (lv_at hl 0 rfl) ?_
      refine lv_imul hx hb dX12_feed_57 ?_
      refine lv_topi (fun z153 e154 => ?_)
      obtain rfl : z153 = 16 := e154.trans (by first | decide | rfl)
      refine lv_lshr hx hb dX12_feed_58 rfl ?_
      refine lv_topl (fun z155 e156 => ?_)
      refine lv_l2i hx hb dX12_feed_59 rfl ?_
      refine lv_topi (fun z157 e158 => ?_)
      refine lv_i2b hx hb dX12_feed_60 rfl ?_
      refine lv_topi (fun z159 e160 => ?_)
      refine va_bast hx hb hK hP hD hS 1 0 rfl rfl (vp_in_iff.mpr (by decide)) dX12_feed_61 (fun H locs hP hD hS => ?_)
      have hP : va_P D vwCl [(hm, .inr (12, [.int 0, .ref (ma 1), .int 2, .int (-1), .ref (ma 4), .int 0, .int 0, .int 0, .long 0, .int 0, .int 0, .int 0, .int 0, .long 0, .int 0, .int 0, .int 0, .ref (ma 17), .ref (ma 18), .ref (ma 19), .ref (ma 20), .ref (ma 21), .ref (ma 22), .ref (ma 23), .ref (ma 24), .ref (ma 25), .ref (ma 26), .ref (ma 27), .ref (ma 28), .ref (ma 29), .ref (ma 30), .ref (ma 31), .ref (ma 32), .ref (ma 33), .ref (ma 34), .ref (ma 35), .ref (ma 36), .ref (ma 37), .ref (ma 38), .ref (ma 39), .ref (ma 40), .ref (ma 41), .ref (ma 42), .ref (ma 43), .ref (ma 44), .ref (ma 45), .ref (ma 46), .ref (ma 47), .ref (ma 48), .int 0, .int 0, .int 0, .int 0, .int 0, .int 0, .int 0, .int 0, .int 0, .int 0, .ref (ma 59), .ref (ma 60), .int 0, .int 0, .int 0, .int 0, .int 0, .int 0, .ref (ma 67), .ref (ma 68), .ref (ma 69), .int 0, .int (-1), .int 0, .ref (ma 73)])), ((ma 1), .inl (cy 0, 1600, .inl (upd f150 (2 : Int32).toNatClampNeg (vp_nar .byte z159))))] H := hP
      have hD : va_D A [(hm, .inr (12, [.int 0, .ref (ma 1), .int 2, .int (-1), .ref (ma 4), .int 0, .int 0, .int 0, .long 0, .int 0, .int 0, .int 0, .int 0, .long 0, .int 0, .int 0, .int 0, .ref (ma 17), .ref (ma 18), .ref (ma 19), .ref (ma 20), .ref (ma 21), .ref (ma 22), .ref (ma 23), .ref (ma 24), .ref (ma 25), .ref (ma 26), .ref (ma 27), .ref (ma 28), .ref (ma 29), .ref (ma 30), .ref (ma 31), .ref (ma 32), .ref (ma 33), .ref (ma 34), .ref (ma 35), .ref (ma 36), .ref (ma 37), .ref (ma 38), .ref (ma 39), .ref (ma 40), .ref (ma 41), .ref (ma 42), .ref (ma 43), .ref (ma 44), .ref (ma 45), .ref (ma 46), .ref (ma 47), .ref (ma 48), .int 0, .int 0, .int 0, .int 0, .int 0, .int 0, .int 0, .int 0, .int 0, .int 0, .ref (ma 59), .ref (ma 60), .int 0, .int 0, .int 0, .int 0, .int 0, .int 0, .ref (ma 67), .ref (ma 68), .ref (ma 69), .int 0, .int (-1), .int 0, .ref (ma 73)])), ((ma 1), .inl (cy 0, 1600, .inl (upd f150 (2 : Int32).toNatClampNeg (vp_nar .byte z159))))] := hD
      generalize hff161 : (upd f150 (2 : Int32).toNatClampNeg (vp_nar .byte z159)) = f161 at hP hD
      refine lv_aload_n hx hb dX12_feed_62 rfl (lv_at hl 1 rfl) ?_
      refine lv_dup hx hb dX12_feed_63 rfl ?_
      refine va_get (D := D) (ci := 12) (v := .int 2) (C := RX12) (T := TX12) (N := 74) hx hb hT i_TX12 hown hK hP 0 rfl rfl 2 (by decide) (hT _ t_1717) (fun _ h9 => h9) rfl dX12_feed_64 ?_
      refine lv_iconst (v := 1) hx hb dX12_feed_67 (by decide) ?_
      refine lv_iadd hx hb dX12_feed_68 ?_
      refine lv_topi (fun z162 e163 => ?_)
      obtain rfl : z162 = 3 := e163.trans (by first | decide | rfl)
      refine va_put (D := D) (ci := 12) (v := .int 3) (ty := .int) (C := RX12) (T := TX12) (N := 74) hx hb hT i_TX12 tyX12 tyX12_ok nmX12 hown hK hP hD hS 0 rfl rfl 2 (by decide) (hT _ t_1717) (fun _ h9 => h9) rfl (by decide +kernel) rfl rfl (Nat.le_of_ble_eq_true rfl) dX12_feed_69 (fun H locs hP hD hS => ?_)
      have hP : va_P D vwCl [(hm, .inr (12, [.int 0, .ref (ma 1), .int 3, .int (-1), .ref (ma 4), .int 0, .int 0, .int 0, .long 0, .int 0, .int 0, .int 0, .int 0, .long 0, .int 0, .int 0, .int 0, .ref (ma 17), .ref (ma 18), .ref (ma 19), .ref (ma 20), .ref (ma 21), .ref (ma 22), .ref (ma 23), .ref (ma 24), .ref (ma 25), .ref (ma 26), .ref (ma 27), .ref (ma 28), .ref (ma 29), .ref (ma 30), .ref (ma 31), .ref (ma 32), .ref (ma 33), .ref (ma 34), .ref (ma 35), .ref (ma 36), .ref (ma 37), .ref (ma 38), .ref (ma 39), .ref (ma 40), .ref (ma 41), .ref (ma 42), .ref (ma 43), .ref (ma 44), .ref (ma 45), .ref (ma 46), .ref (ma 47), .ref (ma 48), .int 0, .int 0, .int 0, .int 0, .int 0, .int 0, .int 0, .int 0, .int 0, .int 0, .ref (ma 59), .ref (ma 60), .int 0, .int 0, .int 0, .int 0, .int 0, .int 0, .ref (ma 67), .ref (ma 68), .ref (ma 69), .int 0, .int (-1), .int 0, .ref (ma 73)])), ((ma 1), .inl (cy 0, 1600, .inl f161))] H := hP
      have hD : va_D A [(hm, .inr (12, [.int 0, .ref (ma 1), .int 3, .int (-1), .ref (ma 4), .int 0, .int 0, .int 0, .long 0, .int 0, .int 0, .int 0, .int 0, .long 0, .int 0, .int 0, .int 0, .ref (ma 17), .ref (ma 18), .ref (ma 19), .ref (ma 20), .ref (ma 21), .ref (ma 22), .ref (ma 23), .ref (ma 24), .ref (ma 25), .ref (ma 26), .ref (ma 27), .ref (ma 28), .ref (ma 29), .ref (ma 30), .ref (ma 31), .ref (ma 32), .ref (ma 33), .ref (ma 34), .ref (ma 35), .ref (ma 36), .ref (ma 37), .ref (ma 38), .ref (ma 39), .ref (ma 40), .ref (ma 41), .ref (ma 42), .ref (ma 43), .ref (ma 44), .ref (ma 45), .ref (ma 46), .ref (ma 47), .ref (ma 48), .int 0, .int 0, .int 0, .int 0, .int 0, .int 0, .int 0, .int 0, .int 0, .int 0, .ref (ma 59), .ref (ma 60), .int 0, .int 0, .int 0, .int 0, .int 0, .int 0, .ref (ma 67), .ref (ma 68), .ref (ma 69), .int 0, .int (-1), .int 0, .ref (ma 73)])), ((ma 1), .inl (cy 0, 1600, .inl f161))] := hD
      refine lv_iinc (v := 1) (lv' := [(4, .int 1), (0, .ref hm), (1, .long p0), (3, .int (nI 5))]) hx hb dX12_feed_72 hl (k := 0) rfl (by decide) (by decide) rfl (fun ls hl => ?_)
      refine lv_goto (tgt := 39) hx hb dX12_feed_75 (by decide) ?_
      refine lv_iload hx hb dX12_feed_39 (lv_at hl 0 rfl) ?_
      refine lv_if_lt (tgt := 78) hx hb dX12_feed_41 (by decide) (fun c9 => absurd c9 (by decide)) (fun _ => ?_)
      refine lv_aload_n hx hb dX12_feed_44 rfl (lv_at hl 1 rfl) ?_
      refine va_get (D := D) (ci := 12) (v := .ref (ma 1)) (C := RX12) (T := TX12) (N := 74) hx hb hT i_TX12 hown hK hP 0 rfl rfl 1 (by decide) (hT _ t_1716) (fun _ h9 => h9) rfl dX12_feed_45 ?_
      refine lv_aload_n hx hb dX12_feed_48 rfl (lv_at hl 1 rfl) ?_
      refine va_get (D := D) (ci := 12) (v := .int 3) (C := RX12) (T := TX12) (N := 74) hx hb hT i_TX12 hown hK hP 0 rfl rfl 2 (by decide) (hT _ t_1717) (fun _ h9 => h9) rfl dX12_feed_49 ?_
      refine lv_lload_n hx hb dX12_feed_52 rfl (lv_at hl 2 rfl) ?_
      refine lv_bipush (v := 8) hx hb dX12_feed_53 (by decide) ?_
      refine lv_iload hx hb dX12_feed_55 (lv_at hl 0 rfl) ?_
      refine lv_imul hx hb dX12_feed_57 ?_
      refine lv_topi (fun z164 e165 => ?_)
      obtain rfl : z164 = 8 := e165.trans (by first | decide | rfl)
      refine lv_lshr hx hb dX12_feed_58 rfl ?_
      refine lv_topl (fun z166 e167 => ?_)
      refine lv_l2i hx hb dX12_feed_59 rfl ?_
      refine lv_topi (fun z168 e169 => ?_)
      refine lv_i2b hx hb dX12_feed_60 rfl ?_
      refine lv_topi (fun z170 e171 => ?_)
      refine va_bast hx hb hK hP hD hS 1 0 rfl rfl (vp_in_iff.mpr (by decide)) dX12_feed_61 (fun H locs hP hD hS => ?_)
      have hP : va_P D vwCl [(hm, .inr (12, [.int 0, .ref (ma 1), .int 3, .int (-1), .ref (ma 4), .int 0, .int 0, .int 0, .long 0, .int 0, .int 0, .int 0, .int 0, .long 0, .int 0, .int 0, .int 0, .ref (ma 17), .ref (ma 18), .ref (ma 19), .ref (ma 20), .ref (ma 21), .ref (ma 22), .ref (ma 23), .ref (ma 24), .ref (ma 25), .ref (ma 26), .ref (ma 27), .ref (ma 28), .ref (ma 29), .ref (ma 30), .ref (ma 31), .ref (ma 32), .ref (ma 33), .ref (ma 34), .ref (ma 35), .ref (ma 36), .ref (ma 37), .ref (ma 38), .ref (ma 39), .ref (ma 40), .ref (ma 41), .ref (ma 42), .ref (ma 43), .ref (ma 44), .ref (ma 45), .ref (ma 46), .ref (ma 47), .ref (ma 48), .int 0, .int 0, .int 0, .int 0, .int 0, .int 0, .int 0, .int 0, .int 0, .int 0, .ref (ma 59), .ref (ma 60), .int 0, .int 0, .int 0, .int 0, .int 0, .int 0, .ref (ma 67), .ref (ma 68), .ref (ma 69), .int 0, .int (-1), .int 0, .ref (ma 73)])), ((ma 1), .inl (cy 0, 1600, .inl (upd f161 (3 : Int32).toNatClampNeg (vp_nar .byte z170))))] H := hP
      have hD : va_D A [(hm, .inr (12, [.int 0, .ref (ma 1), .int 3, .int (-1), .ref (ma 4), .int 0, .int 0, .int 0, .long 0, .int 0, .int 0, .int 0, .int 0, .long 0, .int 0, .int 0, .int 0, .ref (ma 17), .ref (ma 18), .ref (ma 19), .ref (ma 20), .ref (ma 21), .ref (ma 22), .ref (ma 23), .ref (ma 24), .ref (ma 25), .ref (ma 26), .ref (ma 27), .ref (ma 28), .ref (ma 29), .ref (ma 30), .ref (ma 31), .ref (ma 32), .ref (ma 33), .ref (ma 34), .ref (ma 35), .ref (ma 36), .ref (ma 37), .ref (ma 38), .ref (ma 39), .ref (ma 40), .ref (ma 41), .ref (ma 42), .ref (ma 43), .ref (ma 44), .ref (ma 45), .ref (ma 46), .ref (ma 47), .ref (ma 48), .int 0, .int 0, .int 0, .int 0, .int 0, .int 0, .int 0, .int 0, .int 0, .int 0, .ref (ma 59), .ref (ma 60), .int 0, .int 0, .int 0, .int 0, .int 0, .int 0, .ref (ma 67), .ref (ma 68), .ref (ma 69), .int 0, .int (-1), .int 0, .ref (ma 73)])), ((ma 1), .inl (cy 0, 1600, .inl (upd f161 (3 : Int32).toNatClampNeg (vp_nar .byte z170))))] := hD
      generalize hff172 : (upd f161 (3 : Int32).toNatClampNeg (vp_nar .byte z170)) = f172 at hP hD
      refine lv_aload_n hx hb dX12_feed_62 rfl (lv_at hl 1 rfl) ?_
      refine lv_dup hx hb dX12_feed_63 rfl ?_
      refine va_get (D := D) (ci := 12) (v := .int 3) (C := RX12) (T := TX12) (N := 74) hx hb hT i_TX12 hown hK hP 0 rfl rfl 2 (by decide) (hT _ t_1717) (fun _ h9 => h9) rfl dX12_feed_64 ?_
      refine lv_iconst (v := 1) hx hb dX12_feed_67 (by decide) ?_
      refine lv_iadd hx hb dX12_feed_68 ?_
      refine lv_topi (fun z173 e174 => ?_)
      obtain rfl : z173 = 4 := e174.trans (by first | decide | rfl)
      refine va_put (D := D) (ci := 12) (v := .int 4) (ty := .int) (C := RX12) (T := TX12) (N := 74) hx hb hT i_TX12 tyX12 tyX12_ok nmX12 hown hK hP hD hS 0 rfl rfl 2 (by decide) (hT _ t_1717) (fun _ h9 => h9) rfl (by decide +kernel) rfl rfl (Nat.le_of_ble_eq_true rfl) dX12_feed_69 (fun H locs hP hD hS => ?_)
      have hP : va_P D vwCl [(hm, .inr (12, [.int 0, .ref (ma 1), .int 4, .int (-1), .ref (ma 4), .int 0, .int 0, .int 0, .long 0, .int 0, .int 0, .int 0, .int 0, .long 0, .int 0, .int 0, .int 0, .ref (ma 17), .ref (ma 18), .ref (ma 19), .ref (ma 20), .ref (ma 21), .ref (ma 22), .ref (ma 23), .ref (ma 24), .ref (ma 25), .ref (ma 26), .ref (ma 27), .ref (ma 28), .ref (ma 29), .ref (ma 30), .ref (ma 31), .ref (ma 32), .ref (ma 33), .ref (ma 34), .ref (ma 35), .ref (ma 36), .ref (ma 37), .ref (ma 38), .ref (ma 39), .ref (ma 40), .ref (ma 41), .ref (ma 42), .ref (ma 43), .ref (ma 44), .ref (ma 45), .ref (ma 46), .ref (ma 47), .ref (ma 48), .int 0, .int 0, .int 0, .int 0, .int 0, .int 0, .int 0, .int 0, .int 0, .int 0, .ref (ma 59), .ref (ma 60), .int 0, .int 0, .int 0, .int 0, .int 0, .int 0, .ref (ma 67), .ref (ma 68), .ref (ma 69), .int 0, .int (-1), .int 0, .ref (ma 73)])), ((ma 1), .inl (cy 0, 1600, .inl f172))] H := hP
      have hD : va_D A [(hm, .inr (12, [.int 0, .ref (ma 1), .int 4, .int (-1), .ref (ma 4), .int 0, .int 0, .int 0, .long 0, .int 0, .int 0, .int 0, .int 0, .long 0, .int 0, .int 0, .int 0, .ref (ma 17), .ref (ma 18), .ref (ma 19), .ref (ma 20), .ref (ma 21), .ref (ma 22), .ref (ma 23), .ref (ma 24), .ref (ma 25), .ref (ma 26), .ref (ma 27), .ref (ma 28), .ref (ma 29), .ref (ma 30), .ref (ma 31), .ref (ma 32), .ref (ma 33), .ref (ma 34), .ref (ma 35), .ref (ma 36), .ref (ma 37), .ref (ma 38), .ref (ma 39), .ref (ma 40), .ref (ma 41), .ref (ma 42), .ref (ma 43), .ref (ma 44), .ref (ma 45), .ref (ma 46), .ref (ma 47), .ref (ma 48), .int 0, .int 0, .int 0, .int 0, .int 0, .int 0, .int 0, .int 0, .int 0, .int 0, .ref (ma 59), .ref (ma 60), .int 0, .int 0, .int 0, .int 0, .int 0, .int 0, .ref (ma 67), .ref (ma 68), .ref (ma 69), .int 0, .int (-1), .int 0, .ref (ma 73)])), ((ma 1), .inl (cy 0, 1600, .inl f172))] := hD
      refine lv_iinc (v := 0) (lv' := [(4, .int 0), (0, .ref hm), (1, .long p0), (3, .int (nI 5))]) hx hb dX12_feed_72 hl (k := 0) rfl (by decide) (by decide) rfl (fun ls hl => ?_)
      refine lv_goto (tgt := 39) hx hb dX12_feed_75 (by decide) ?_
      refine lv_iload hx hb dX12_feed_39 (lv_at hl 0 rfl) ?_
      refine lv_if_lt (tgt := 78) hx hb dX12_feed_41 (by decide) (fun c9 => absurd c9 (by decide)) (fun _ => ?_)
      refine lv_aload_n hx hb dX12_feed_44 rfl (lv_at hl 1 rfl) ?_
      refine va_get (D := D) (ci := 12) (v := .ref (ma 1)) (C := RX12) (T := TX12) (N := 74) hx hb hT i_TX12 hown hK hP 0 rfl rfl 1 (by decide) (hT _ t_1716) (fun _ h9 => h9) rfl dX12_feed_45 ?_
      refine lv_aload_n hx hb dX12_feed_48 rfl (lv_at hl 1 rfl) ?_
      refine va_get (D := D) (ci := 12) (v := .int 4) (C := RX12) (T := TX12) (N := 74) hx hb hT i_TX12 hown hK hP 0 rfl rfl 2 (by decide) (hT _ t_1717) (fun _ h9 => h9) rfl dX12_feed_49 ?_
      refine lv_lload_n hx hb dX12_feed_52 rfl (lv_at hl 2 rfl) ?_
      refine lv_bipush (v := 8) hx hb dX12_feed_53 (by decide) ?_
      refine lv_iload hx hb dX12_feed_55 (lv_at hl 0 rfl) ?_
      refine lv_imul hx hb dX12_feed_57 ?_
      refine lv_topi (fun z175 e176 => ?_)
      obtain rfl : z175 = 0 := e176.trans (by first | decide | rfl)
      refine lv_lshr hx hb dX12_feed_58 rfl ?_
      refine lv_topl (fun z177 e178 => ?_)
      refine lv_l2i hx hb dX12_feed_59 rfl ?_
      refine lv_topi (fun z179 e180 => ?_)
      refine lv_i2b hx hb dX12_feed_60 rfl ?_
      refine lv_topi (fun z181 e182 => ?_)
      refine va_bast hx hb hK hP hD hS 1 0 rfl rfl (vp_in_iff.mpr (by decide)) dX12_feed_61 (fun H locs hP hD hS => ?_)
      have hP : va_P D vwCl [(hm, .inr (12, [.int 0, .ref (ma 1), .int 4, .int (-1), .ref (ma 4), .int 0, .int 0, .int 0, .long 0, .int 0, .int 0, .int 0, .int 0, .long 0, .int 0, .int 0, .int 0, .ref (ma 17), .ref (ma 18), .ref (ma 19), .ref (ma 20), .ref (ma 21), .ref (ma 22), .ref (ma 23), .ref (ma 24), .ref (ma 25), .ref (ma 26), .ref (ma 27), .ref (ma 28), .ref (ma 29), .ref (ma 30), .ref (ma 31), .ref (ma 32), .ref (ma 33), .ref (ma 34), .ref (ma 35), .ref (ma 36), .ref (ma 37), .ref (ma 38), .ref (ma 39), .ref (ma 40), .ref (ma 41), .ref (ma 42), .ref (ma 43), .ref (ma 44), .ref (ma 45), .ref (ma 46), .ref (ma 47), .ref (ma 48), .int 0, .int 0, .int 0, .int 0, .int 0, .int 0, .int 0, .int 0, .int 0, .int 0, .ref (ma 59), .ref (ma 60), .int 0, .int 0, .int 0, .int 0, .int 0, .int 0, .ref (ma 67), .ref (ma 68), .ref (ma 69), .int 0, .int (-1), .int 0, .ref (ma 73)])), ((ma 1), .inl (cy 0, 1600, .inl (upd f172 (4 : Int32).toNatClampNeg (vp_nar .byte z181))))] H := hP
      have hD : va_D A [(hm, .inr (12, [.int 0, .ref (ma 1), .int 4, .int (-1), .ref (ma 4), .int 0, .int 0, .int 0, .long 0, .int 0, .int 0, .int 0, .int 0, .long 0, .int 0, .int 0, .int 0, .ref (ma 17), .ref (ma 18), .ref (ma 19), .ref (ma 20), .ref (ma 21), .ref (ma 22), .ref (ma 23), .ref (ma 24), .ref (ma 25), .ref (ma 26), .ref (ma 27), .ref (ma 28), .ref (ma 29), .ref (ma 30), .ref (ma 31), .ref (ma 32), .ref (ma 33), .ref (ma 34), .ref (ma 35), .ref (ma 36), .ref (ma 37), .ref (ma 38), .ref (ma 39), .ref (ma 40), .ref (ma 41), .ref (ma 42), .ref (ma 43), .ref (ma 44), .ref (ma 45), .ref (ma 46), .ref (ma 47), .ref (ma 48), .int 0, .int 0, .int 0, .int 0, .int 0, .int 0, .int 0, .int 0, .int 0, .int 0, .ref (ma 59), .ref (ma 60), .int 0, .int 0, .int 0, .int 0, .int 0, .int 0, .ref (ma 67), .ref (ma 68), .ref (ma 69), .int 0, .int (-1), .int 0, .ref (ma 73)])), ((ma 1), .inl (cy 0, 1600, .inl (upd f172 (4 : Int32).toNatClampNeg (vp_nar .byte z181))))] := hD
      generalize hff183 : (upd f172 (4 : Int32).toNatClampNeg (vp_nar .byte z181)) = f183 at hP hD
      refine lv_aload_n hx hb dX12_feed_62 rfl (lv_at hl 1 rfl) ?_
      refine lv_dup hx hb dX12_feed_63 rfl ?_
      refine va_get (D := D) (ci := 12) (v := .int 4) (C := RX12) (T := TX12) (N := 74) hx hb hT i_TX12 hown hK hP 0 rfl rfl 2 (by decide) (hT _ t_1717) (fun _ h9 => h9) rfl dX12_feed_64 ?_
      refine lv_iconst (v := 1) hx hb dX12_feed_67 (by decide) ?_
      refine lv_iadd hx hb dX12_feed_68 ?_
      refine lv_topi (fun z184 e185 => ?_)
      obtain rfl : z184 = 5 := e185.trans (by first | decide | rfl)
      refine va_put (D := D) (ci := 12) (v := .int 5) (ty := .int) (C := RX12) (T := TX12) (N := 74) hx hb hT i_TX12 tyX12 tyX12_ok nmX12 hown hK hP hD hS 0 rfl rfl 2 (by decide) (hT _ t_1717) (fun _ h9 => h9) rfl (by decide +kernel) rfl rfl (Nat.le_of_ble_eq_true rfl) dX12_feed_69 (fun H locs hP hD hS => ?_)
      have hP : va_P D vwCl [(hm, .inr (12, [.int 0, .ref (ma 1), .int 5, .int (-1), .ref (ma 4), .int 0, .int 0, .int 0, .long 0, .int 0, .int 0, .int 0, .int 0, .long 0, .int 0, .int 0, .int 0, .ref (ma 17), .ref (ma 18), .ref (ma 19), .ref (ma 20), .ref (ma 21), .ref (ma 22), .ref (ma 23), .ref (ma 24), .ref (ma 25), .ref (ma 26), .ref (ma 27), .ref (ma 28), .ref (ma 29), .ref (ma 30), .ref (ma 31), .ref (ma 32), .ref (ma 33), .ref (ma 34), .ref (ma 35), .ref (ma 36), .ref (ma 37), .ref (ma 38), .ref (ma 39), .ref (ma 40), .ref (ma 41), .ref (ma 42), .ref (ma 43), .ref (ma 44), .ref (ma 45), .ref (ma 46), .ref (ma 47), .ref (ma 48), .int 0, .int 0, .int 0, .int 0, .int 0, .int 0, .int 0, .int 0, .int 0, .int 0, .ref (ma 59), .ref (ma 60), .int 0, .int 0, .int 0, .int 0, .int 0, .int 0, .ref (ma 67), .ref (ma 68), .ref (ma 69), .int 0, .int (-1), .int 0, .ref (ma 73)])), ((ma 1), .inl (cy 0, 1600, .inl f183))] H := hP
      have hD : va_D A [(hm, .inr (12, [.int 0, .ref (ma 1), .int 5, .int (-1), .ref (ma 4), .int 0, .int 0, .int 0, .long 0, .int 0, .int 0, .int 0, .int 0, .long 0, .int 0, .int 0, .int 0, .ref (ma 17), .ref (ma 18), .ref (ma 19), .ref (ma 20), .ref (ma 21), .ref (ma 22), .ref (ma 23), .ref (ma 24), .ref (ma 25), .ref (ma 26), .ref (ma 27), .ref (ma 28), .ref (ma 29), .ref (ma 30), .ref (ma 31), .ref (ma 32), .ref (ma 33), .ref (ma 34), .ref (ma 35), .ref (ma 36), .ref (ma 37), .ref (ma 38), .ref (ma 39), .ref (ma 40), .ref (ma 41), .ref (ma 42), .ref (ma 43), .ref (ma 44), .ref (ma 45), .ref (ma 46), .ref (ma 47), .ref (ma 48), .int 0, .int 0, .int 0, .int 0, .int 0, .int 0, .int 0, .int 0, .int 0, .int 0, .ref (ma 59), .ref (ma 60), .int 0, .int 0, .int 0, .int 0, .int 0, .int 0, .ref (ma 67), .ref (ma 68), .ref (ma 69), .int 0, .int (-1), .int 0, .ref (ma 73)])), ((ma 1), .inl (cy 0, 1600, .inl f183))] := hD
      refine lv_iinc (v := (-1)) (lv' := [(4, .int (-1)), (0, .ref hm), (1, .long p0), (3, .int (nI 5))]) hx hb dX12_feed_72 hl (k := 0) rfl (by decide) (by decide) rfl (fun ls hl => ?_)
      refine lv_goto (tgt := 39) hx hb dX12_feed_75 (by decide) ?_
      refine lv_iload hx hb dX12_feed_39 (lv_at hl 0 rfl) ?_
      refine lv_if_lt (tgt := 78) hx hb dX12_feed_41 (by decide) (fun _ => ?_) (fun c9 => absurd (by decide) c9)
      refine lv_aload_n hx hb dX12_feed_78 rfl (lv_at hl 1 rfl) ?_
      refine va_get (D := D) (ci := 12) (v := .int 5) (C := RX12) (T := TX12) (N := 74) hx hb hT i_TX12 hown hK hP 0 rfl rfl 2 (by decide) (hT _ t_1717) (fun _ h9 => h9) rfl dX12_feed_79 ?_
      have hP9 := hP.sub (ws' := []) [] rfl
      have hD9 := hD.sub (ws' := []) [] (by decide) rfl
      refine W.widen (k := 0) (n := 0) (Nat.le_of_ble_eq_true rfl) (Nat.le_of_ble_eq_true rfl) ?_
      exact W.iret (v := 5) hx hb hr (fun t ht hW => ⟨⟨5, (), rfl, (by decide), by rw [ht]; exact hP9, hD9⟩, hS.F ht⟩) hS.2.2 dX12_feed_82
    · refine lv_aload_n hx hb dX12_feed_0 rfl (lv_at hl 0 rfl) ?_
      refine lv_iconst (v := 0) hx hb dX12_feed_1 (by decide) ?_
      refine va_put (D := D) (ci := 12) (v := .int 0) (ty := .int) (C := RX12) (T := TX12) (N := 74) hx hb hT i_TX12 tyX12 tyX12_ok nmX12 hown hK hP hD hS 0 rfl rfl 0 (by decide) (hT _ t_1715) (fun _ h9 => h9) rfl (by decide +kernel) rfl rfl (Nat.le_of_ble_eq_true rfl) dX12_feed_2 (fun H locs hP hD hS => ?_)
      have hP : va_P D vwCl [(hm, .inr (12, [.int 0, .ref (ma 1), .int 0, .int (-1), .ref (ma 4), .int 0, .int 0, .int 0, .long 0, .int 0, .int 0, .int 0, .int 0, .long 0, .int 0, .int 0, .int 0, .ref (ma 17), .ref (ma 18), .ref (ma 19), .ref (ma 20), .ref (ma 21), .ref (ma 22), .ref (ma 23), .ref (ma 24), .ref (ma 25), .ref (ma 26), .ref (ma 27), .ref (ma 28), .ref (ma 29), .ref (ma 30), .ref (ma 31), .ref (ma 32), .ref (ma 33), .ref (ma 34), .ref (ma 35), .ref (ma 36), .ref (ma 37), .ref (ma 38), .ref (ma 39), .ref (ma 40), .ref (ma 41), .ref (ma 42), .ref (ma 43), .ref (ma 44), .ref (ma 45), .ref (ma 46), .ref (ma 47), .ref (ma 48), .int 0, .int 0, .int 0, .int 0, .int 0, .int 0, .int 0, .int 0, .int 0, .int 0, .ref (ma 59), .ref (ma 60), .int 0, .int 0, .int 0, .int 0, .int 0, .int 0, .ref (ma 67), .ref (ma 68), .ref (ma 69), .int 0, .int (-1), .int 0, .ref (ma 73)])), ((ma 1), .inl (cy 0, 1600, .inl (fun _ => 0)))] H := hP
      have hD : va_D A [(hm, .inr (12, [.int 0, .ref (ma 1), .int 0, .int (-1), .ref (ma 4), .int 0, .int 0, .int 0, .long 0, .int 0, .int 0, .int 0, .int 0, .long 0, .int 0, .int 0, .int 0, .ref (ma 17), .ref (ma 18), .ref (ma 19), .ref (ma 20), .ref (ma 21), .ref (ma 22), .ref (ma 23), .ref (ma 24), .ref (ma 25), .ref (ma 26), .ref (ma 27), .ref (ma 28), .ref (ma 29), .ref (ma 30), .ref (ma 31), .ref (ma 32), .ref (ma 33), .ref (ma 34), .ref (ma 35), .ref (ma 36), .ref (ma 37), .ref (ma 38), .ref (ma 39), .ref (ma 40), .ref (ma 41), .ref (ma 42), .ref (ma 43), .ref (ma 44), .ref (ma 45), .ref (ma 46), .ref (ma 47), .ref (ma 48), .int 0, .int 0, .int 0, .int 0, .int 0, .int 0, .int 0, .int 0, .int 0, .int 0, .ref (ma 59), .ref (ma 60), .int 0, .int 0, .int 0, .int 0, .int 0, .int 0, .ref (ma 67), .ref (ma 68), .ref (ma 69), .int 0, .int (-1), .int 0, .ref (ma 73)])), ((ma 1), .inl (cy 0, 1600, .inl (fun _ => 0)))] := hD
      refine lv_iload_n hx hb dX12_feed_5 rfl (lv_at hl 2 rfl) ?_
      refine lv_iconst (v := 1) hx hb dX12_feed_6 (by decide) ?_
      refine lv_icmp_lt (tgt := 16) hx hb dX12_feed_7 (by decide) (fun c9 => absurd c9 (by decide)) (fun _ => ?_)
      refine lv_iload_n hx hb dX12_feed_10 rfl (lv_at hl 2 rfl) ?_
      refine lv_bipush (v := 8) hx hb dX12_feed_11 (by decide) ?_
      refine lv_icmp_le (tgt := 19) hx hb dX12_feed_13 (by decide) (fun _ => ?_) (fun c9 => absurd (by decide) c9)
      refine lv_aload_n hx hb dX12_feed_19 rfl (lv_at hl 0 rfl) ?_
      refine va_get (D := D) (ci := 12) (v := .int 0) (C := RX12) (T := TX12) (N := 74) hx hb hT i_TX12 hown hK hP 0 rfl rfl 2 (by decide) (hT _ t_1717) (fun _ h9 => h9) rfl dX12_feed_20 ?_
      refine lv_iload_n hx hb dX12_feed_23 rfl (lv_at hl 2 rfl) ?_
      refine lv_iadd hx hb dX12_feed_24 ?_
      refine lv_topi (fun z186 e187 => ?_)
      obtain rfl : z186 = 6 := e187.trans (by first | decide | rfl)
      refine lv_sipush (v := 1600) hx hb dX12_feed_25 (by decide) ?_
      refine lv_icmp_le (tgt := 34) hx hb dX12_feed_28 (by decide) (fun _ => ?_) (fun c9 => absurd (by decide) c9)
      refine lv_iload_n hx hb dX12_feed_34 rfl (lv_at hl 2 rfl) ?_
      refine lv_iconst (v := 1) hx hb dX12_feed_35 (by decide) ?_
      refine lv_isub hx hb dX12_feed_36 ?_
      refine lv_topi (fun z188 e189 => ?_)
      obtain rfl : z188 = 5 := e189.trans (by first | decide | rfl)
      refine lv_istore (lv' := [(4, .int 5), (0, .ref hm), (1, .long p0), (3, .int (nI 6))]) hx hb dX12_feed_37 hl (by decide) rfl (fun ls hl => ?_)
      refine lv_iload hx hb dX12_feed_39 (lv_at hl 0 rfl) ?_
      refine lv_if_lt (tgt := 78) hx hb dX12_feed_41 (by decide) (fun c9 => absurd c9 (by decide)) (fun _ => ?_)
      refine lv_aload_n hx hb dX12_feed_44 rfl (lv_at hl 1 rfl) ?_
      refine va_get (D := D) (ci := 12) (v := .ref (ma 1)) (C := RX12) (T := TX12) (N := 74) hx hb hT i_TX12 hown hK hP 0 rfl rfl 1 (by decide) (hT _ t_1716) (fun _ h9 => h9) rfl dX12_feed_45 ?_
      refine lv_aload_n hx hb dX12_feed_48 rfl (lv_at hl 1 rfl) ?_
      refine va_get (D := D) (ci := 12) (v := .int 0) (C := RX12) (T := TX12) (N := 74) hx hb hT i_TX12 hown hK hP 0 rfl rfl 2 (by decide) (hT _ t_1717) (fun _ h9 => h9) rfl dX12_feed_49 ?_
      refine lv_lload_n hx hb dX12_feed_52 rfl (lv_at hl 2 rfl) ?_
      refine lv_bipush (v := 8) hx hb dX12_feed_53 (by decide) ?_
      refine lv_iload hx hb dX12_feed_55 (lv_at hl 0 rfl) ?_
      refine lv_imul hx hb dX12_feed_57 ?_
      refine lv_topi (fun z190 e191 => ?_)
      obtain rfl : z190 = 40 := e191.trans (by first | decide | rfl)
      refine lv_lshr hx hb dX12_feed_58 rfl ?_
      refine lv_topl (fun z192 e193 => ?_)
      refine lv_l2i hx hb dX12_feed_59 rfl ?_
      refine lv_topi (fun z194 e195 => ?_)
      refine lv_i2b hx hb dX12_feed_60 rfl ?_
      refine lv_topi (fun z196 e197 => ?_)
      refine va_bast hx hb hK hP hD hS 1 0 rfl rfl (vp_in_iff.mpr (by decide)) dX12_feed_61 (fun H locs hP hD hS => ?_)
      have hP : va_P D vwCl [(hm, .inr (12, [.int 0, .ref (ma 1), .int 0, .int (-1), .ref (ma 4), .int 0, .int 0, .int 0, .long 0, .int 0, .int 0, .int 0, .int 0, .long 0, .int 0, .int 0, .int 0, .ref (ma 17), .ref (ma 18), .ref (ma 19), .ref (ma 20), .ref (ma 21), .ref (ma 22), .ref (ma 23), .ref (ma 24), .ref (ma 25), .ref (ma 26), .ref (ma 27), .ref (ma 28), .ref (ma 29), .ref (ma 30), .ref (ma 31), .ref (ma 32), .ref (ma 33), .ref (ma 34), .ref (ma 35), .ref (ma 36), .ref (ma 37), .ref (ma 38), .ref (ma 39), .ref (ma 40), .ref (ma 41), .ref (ma 42), .ref (ma 43), .ref (ma 44), .ref (ma 45), .ref (ma 46), .ref (ma 47), .ref (ma 48), .int 0, .int 0, .int 0, .int 0, .int 0, .int 0, .int 0, .int 0, .int 0, .int 0, .ref (ma 59), .ref (ma 60), .int 0, .int 0, .int 0, .int 0, .int 0, .int 0, .ref (ma 67), .ref (ma 68), .ref (ma 69), .int 0, .int (-1), .int 0, .ref (ma 73)])), ((ma 1), .inl (cy 0, 1600, .inl (upd (fun _ => 0) (0 : Int32).toNatClampNeg (vp_nar .byte z196))))] H := hP
      have hD : va_D A [(hm, .inr (12, [.int 0, .ref (ma 1), .int 0, .int (-1), .ref (ma 4), .int 0, .int 0, .int 0, .long 0, .int 0, .int 0, .int 0, .int 0, .long 0, .int 0, .int 0, .int 0, .ref (ma 17), .ref (ma 18), .ref (ma 19), .ref (ma 20), .ref (ma 21), .ref (ma 22), .ref (ma 23), .ref (ma 24), .ref (ma 25), .ref (ma 26), .ref (ma 27), .ref (ma 28), .ref (ma 29), .ref (ma 30), .ref (ma 31), .ref (ma 32), .ref (ma 33), .ref (ma 34), .ref (ma 35), .ref (ma 36), .ref (ma 37), .ref (ma 38), .ref (ma 39), .ref (ma 40), .ref (ma 41), .ref (ma 42), .ref (ma 43), .ref (ma 44), .ref (ma 45), .ref (ma 46), .ref (ma 47), .ref (ma 48), .int 0, .int 0, .int 0, .int 0, .int 0, .int 0, .int 0, .int 0, .int 0, .int 0, .ref (ma 59), .ref (ma 60), .int 0, .int 0, .int 0, .int 0, .int 0, .int 0, .ref (ma 67), .ref (ma 68), .ref (ma 69), .int 0, .int (-1), .int 0, .ref (ma 73)])), ((ma 1), .inl (cy 0, 1600, .inl (upd (fun _ => 0) (0 : Int32).toNatClampNeg (vp_nar .byte z196))))] := hD
      generalize hff198 : (upd (fun _ => 0) (0 : Int32).toNatClampNeg (vp_nar .byte z196)) = f198 at hP hD
      refine lv_aload_n hx hb dX12_feed_62 rfl (lv_at hl 1 rfl) ?_
      refine lv_dup hx hb dX12_feed_63 rfl ?_
      refine va_get (D := D) (ci := 12) (v := .int 0) (C := RX12) (T := TX12) (N := 74) hx hb hT i_TX12 hown hK hP 0 rfl rfl 2 (by decide) (hT _ t_1717) (fun _ h9 => h9) rfl dX12_feed_64 ?_
      refine lv_iconst (v := 1) hx hb dX12_feed_67 (by decide) ?_
      refine lv_iadd hx hb dX12_feed_68 ?_
      refine lv_topi (fun z199 e200 => ?_)
      obtain rfl : z199 = 1 := e200.trans (by first | decide | rfl)
      refine va_put (D := D) (ci := 12) (v := .int 1) (ty := .int) (C := RX12) (T := TX12) (N := 74) hx hb hT i_TX12 tyX12 tyX12_ok nmX12 hown hK hP hD hS 0 rfl rfl 2 (by decide) (hT _ t_1717) (fun _ h9 => h9) rfl (by decide +kernel) rfl rfl (Nat.le_of_ble_eq_true rfl) dX12_feed_69 (fun H locs hP hD hS => ?_)
      have hP : va_P D vwCl [(hm, .inr (12, [.int 0, .ref (ma 1), .int 1, .int (-1), .ref (ma 4), .int 0, .int 0, .int 0, .long 0, .int 0, .int 0, .int 0, .int 0, .long 0, .int 0, .int 0, .int 0, .ref (ma 17), .ref (ma 18), .ref (ma 19), .ref (ma 20), .ref (ma 21), .ref (ma 22), .ref (ma 23), .ref (ma 24), .ref (ma 25), .ref (ma 26), .ref (ma 27), .ref (ma 28), .ref (ma 29), .ref (ma 30), .ref (ma 31), .ref (ma 32), .ref (ma 33), .ref (ma 34), .ref (ma 35), .ref (ma 36), .ref (ma 37), .ref (ma 38), .ref (ma 39), .ref (ma 40), .ref (ma 41), .ref (ma 42), .ref (ma 43), .ref (ma 44), .ref (ma 45), .ref (ma 46), .ref (ma 47), .ref (ma 48), .int 0, .int 0, .int 0, .int 0, .int 0, .int 0, .int 0, .int 0, .int 0, .int 0, .ref (ma 59), .ref (ma 60), .int 0, .int 0, .int 0, .int 0, .int 0, .int 0, .ref (ma 67), .ref (ma 68), .ref (ma 69), .int 0, .int (-1), .int 0, .ref (ma 73)])), ((ma 1), .inl (cy 0, 1600, .inl f198))] H := hP
      have hD : va_D A [(hm, .inr (12, [.int 0, .ref (ma 1), .int 1, .int (-1), .ref (ma 4), .int 0, .int 0, .int 0, .long 0, .int 0, .int 0, .int 0, .int 0, .long 0, .int 0, .int 0, .int 0, .ref (ma 17), .ref (ma 18), .ref (ma 19), .ref (ma 20), .ref (ma 21), .ref (ma 22), .ref (ma 23), .ref (ma 24), .ref (ma 25), .ref (ma 26), .ref (ma 27), .ref (ma 28), .ref (ma 29), .ref (ma 30), .ref (ma 31), .ref (ma 32), .ref (ma 33), .ref (ma 34), .ref (ma 35), .ref (ma 36), .ref (ma 37), .ref (ma 38), .ref (ma 39), .ref (ma 40), .ref (ma 41), .ref (ma 42), .ref (ma 43), .ref (ma 44), .ref (ma 45), .ref (ma 46), .ref (ma 47), .ref (ma 48), .int 0, .int 0, .int 0, .int 0, .int 0, .int 0, .int 0, .int 0, .int 0, .int 0, .ref (ma 59), .ref (ma 60), .int 0, .int 0, .int 0, .int 0, .int 0, .int 0, .ref (ma 67), .ref (ma 68), .ref (ma 69), .int 0, .int (-1), .int 0, .ref (ma 73)])), ((ma 1), .inl (cy 0, 1600, .inl f198))] := hD
      refine lv_iinc (v := 4) (lv' := [(4, .int 4), (0, .ref hm), (1, .long p0), (3, .int (nI 6))]) hx hb dX12_feed_72 hl (k := 0) rfl (by decide) (by decide) rfl (fun ls hl => ?_)
      refine lv_goto (tgt := 39) hx hb dX12_feed_75 (by decide) ?_
      refine lv_iload hx hb dX12_feed_39 (lv_at hl 0 rfl) ?_
      refine lv_if_lt (tgt := 78) hx hb dX12_feed_41 (by decide) (fun c9 => absurd c9 (by decide)) (fun _ => ?_)
      refine lv_aload_n hx hb dX12_feed_44 rfl (lv_at hl 1 rfl) ?_
      refine va_get (D := D) (ci := 12) (v := .ref (ma 1)) (C := RX12) (T := TX12) (N := 74) hx hb hT i_TX12 hown hK hP 0 rfl rfl 1 (by decide) (hT _ t_1716) (fun _ h9 => h9) rfl dX12_feed_45 ?_
      refine lv_aload_n hx hb dX12_feed_48 rfl (lv_at hl 1 rfl) ?_
      refine va_get (D := D) (ci := 12) (v := .int 1) (C := RX12) (T := TX12) (N := 74) hx hb hT i_TX12 hown hK hP 0 rfl rfl 2 (by decide) (hT _ t_1717) (fun _ h9 => h9) rfl dX12_feed_49 ?_
      refine lv_lload_n hx hb dX12_feed_52 rfl (lv_at hl 2 rfl) ?_
      refine lv_bipush (v := 8) hx hb dX12_feed_53 (by decide) ?_
      refine lv_iload hx hb dX12_feed_55 (lv_at hl 0 rfl) ?_
      refine lv_imul hx hb dX12_feed_57 ?_
      refine lv_topi (fun z201 e202 => ?_)
      obtain rfl : z201 = 32 := e202.trans (by first | decide | rfl)
      refine lv_lshr hx hb dX12_feed_58 rfl ?_
      refine lv_topl (fun z203 e204 => ?_)
      refine lv_l2i hx hb dX12_feed_59 rfl ?_
      refine lv_topi (fun z205 e206 => ?_)
      refine lv_i2b hx hb dX12_feed_60 rfl ?_
      refine lv_topi (fun z207 e208 => ?_)
      refine va_bast hx hb hK hP hD hS 1 0 rfl rfl (vp_in_iff.mpr (by decide)) dX12_feed_61 (fun H locs hP hD hS => ?_)
      have hP : va_P D vwCl [(hm, .inr (12, [.int 0, .ref (ma 1), .int 1, .int (-1), .ref (ma 4), .int 0, .int 0, .int 0, .long 0, .int 0, .int 0, .int 0, .int 0, .long 0, .int 0, .int 0, .int 0, .ref (ma 17), .ref (ma 18), .ref (ma 19), .ref (ma 20), .ref (ma 21), .ref (ma 22), .ref (ma 23), .ref (ma 24), .ref (ma 25), .ref (ma 26), .ref (ma 27), .ref (ma 28), .ref (ma 29), .ref (ma 30), .ref (ma 31), .ref (ma 32), .ref (ma 33), .ref (ma 34), .ref (ma 35), .ref (ma 36), .ref (ma 37), .ref (ma 38), .ref (ma 39), .ref (ma 40), .ref (ma 41), .ref (ma 42), .ref (ma 43), .ref (ma 44), .ref (ma 45), .ref (ma 46), .ref (ma 47), .ref (ma 48), .int 0, .int 0, .int 0, .int 0, .int 0, .int 0, .int 0, .int 0, .int 0, .int 0, .ref (ma 59), .ref (ma 60), .int 0, .int 0, .int 0, .int 0, .int 0, .int 0, .ref (ma 67), .ref (ma 68), .ref (ma 69), .int 0, .int (-1), .int 0, .ref (ma 73)])), ((ma 1), .inl (cy 0, 1600, .inl (upd f198 (1 : Int32).toNatClampNeg (vp_nar .byte z207))))] H := hP
      have hD : va_D A [(hm, .inr (12, [.int 0, .ref (ma 1), .int 1, .int (-1), .ref (ma 4), .int 0, .int 0, .int 0, .long 0, .int 0, .int 0, .int 0, .int 0, .long 0, .int 0, .int 0, .int 0, .ref (ma 17), .ref (ma 18), .ref (ma 19), .ref (ma 20), .ref (ma 21), .ref (ma 22), .ref (ma 23), .ref (ma 24), .ref (ma 25), .ref (ma 26), .ref (ma 27), .ref (ma 28), .ref (ma 29), .ref (ma 30), .ref (ma 31), .ref (ma 32), .ref (ma 33), .ref (ma 34), .ref (ma 35), .ref (ma 36), .ref (ma 37), .ref (ma 38), .ref (ma 39), .ref (ma 40), .ref (ma 41), .ref (ma 42), .ref (ma 43), .ref (ma 44), .ref (ma 45), .ref (ma 46), .ref (ma 47), .ref (ma 48), .int 0, .int 0, .int 0, .int 0, .int 0, .int 0, .int 0, .int 0, .int 0, .int 0, .ref (ma 59), .ref (ma 60), .int 0, .int 0, .int 0, .int 0, .int 0, .int 0, .ref (ma 67), .ref (ma 68), .ref (ma 69), .int 0, .int (-1), .int 0, .ref (ma 73)])), ((ma 1), .inl (cy 0, 1600, .inl (upd f198 (1 : Int32).toNatClampNeg (vp_nar .byte z207))))] := hD
      generalize hff209 : (upd f198 (1 : Int32).toNatClampNeg (vp_nar .byte z207)) = f209 at hP hD
      refine lv_aload_n hx hb dX12_feed_62 rfl (lv_at hl 1 rfl) ?_
      refine lv_dup hx hb dX12_feed_63 rfl ?_
      refine va_get (D := D) (ci := 12) (v := .int 1) (C := RX12) (T := TX12) (N := 74) hx hb hT i_TX12 hown hK hP 0 rfl rfl 2 (by decide) (hT _ t_1717) (fun _ h9 => h9) rfl dX12_feed_64 ?_
      refine lv_iconst (v := 1) hx hb dX12_feed_67 (by decide) ?_
      refine lv_iadd hx hb dX12_feed_68 ?_
      refine lv_topi (fun z210 e211 => ?_)
      obtain rfl : z210 = 2 := e211.trans (by first | decide | rfl)
      refine va_put (D := D) (ci := 12) (v := .int 2) (ty := .int) (C := RX12) (T := TX12) (N := 74) hx hb hT i_TX12 tyX12 tyX12_ok nmX12 hown hK hP hD hS 0 rfl rfl 2 (by decide) (hT _ t_1717) (fun _ h9 => h9) rfl (by decide +kernel) rfl rfl (Nat.le_of_ble_eq_true rfl) dX12_feed_69 (fun H locs hP hD hS => ?_)
      have hP : va_P D vwCl [(hm, .inr (12, [.int 0, .ref (ma 1), .int 2, .int (-1), .ref (ma 4), .int 0, .int 0, .int 0, .long 0, .int 0, .int 0, .int 0, .int 0, .long 0, .int 0, .int 0, .int 0, .ref (ma 17), .ref (ma 18), .ref (ma 19), .ref (ma 20), .ref (ma 21), .ref (ma 22), .ref (ma 23), .ref (ma 24), .ref (ma 25), .ref (ma 26), .ref (ma 27), .ref (ma 28), .ref (ma 29), .ref (ma 30), .ref (ma 31), .ref (ma 32), .ref (ma 33), .ref (ma 34), .ref (ma 35), .ref (ma 36), .ref (ma 37), .ref (ma 38), .ref (ma 39), .ref (ma 40), .ref (ma 41), .ref (ma 42), .ref (ma 43), .ref (ma 44), .ref (ma 45), .ref (ma 46), .ref (ma 47), .ref (ma 48), .int 0, .int 0, .int 0, .int 0, .int 0, .int 0, .int 0, .int 0, .int 0, .int 0, .ref (ma 59), .ref (ma 60), .int 0, .int 0, .int 0, .int 0, .int 0, .int 0, .ref (ma 67), .ref (ma 68), .ref (ma 69), .int 0, .int (-1), .int 0, .ref (ma 73)])), ((ma 1), .inl (cy 0, 1600, .inl f209))] H := hP
      have hD : va_D A [(hm, .inr (12, [.int 0, .ref (ma 1), .int 2, .int (-1), .ref (ma 4), .int 0, .int 0, .int 0, .long 0, .int 0, .int 0, .int 0, .int 0, .long 0, .int 0, .int 0, .int 0, .ref (ma 17), .ref (ma 18), .ref (ma 19), .ref (ma 20), .ref (ma 21), .ref (ma 22), .ref (ma 23), .ref (ma 24), .ref (ma 25), .ref (ma 26), .ref (ma 27), .ref (ma 28), .ref (ma 29), .ref (ma 30), .ref (ma 31), .ref (ma 32), .ref (ma 33), .ref (ma 34), .ref (ma 35), .ref (ma 36), .ref (ma 37), .ref (ma 38), .ref (ma 39), .ref (ma 40), .ref (ma 41), .ref (ma 42), .ref (ma 43), .ref (ma 44), .ref (ma 45), .ref (ma 46), .ref (ma 47), .ref (ma 48), .int 0, .int 0, .int 0, .int 0, .int 0, .int 0, .int 0, .int 0, .int 0, .int 0, .ref (ma 59), .ref (ma 60), .int 0, .int 0, .int 0, .int 0, .int 0, .int 0, .ref (ma 67), .ref (ma 68), .ref (ma 69), .int 0, .int (-1), .int 0, .ref (ma 73)])), ((ma 1), .inl (cy 0, 1600, .inl f209))] := hD
      refine lv_iinc (v := 3) (lv' := [(4, .int 3), (0, .ref hm), (1, .long p0), (3, .int (nI 6))]) hx hb dX12_feed_72 hl (k := 0) rfl (by decide) (by decide) rfl (fun ls hl => ?_)
      refine lv_goto (tgt := 39) hx hb dX12_feed_75 (by decide) ?_
      refine lv_iload hx hb dX12_feed_39 (lv_at hl 0 rfl) ?_
      refine lv_if_lt (tgt := 78) hx hb dX12_feed_41 (by decide) (fun c9 => absurd c9 (by decide)) (fun _ => ?_)
      refine lv_aload_n hx hb dX12_feed_44 rfl (lv_at hl 1 rfl) ?_
      refine va_get (D := D) (ci := 12) (v := .ref (ma 1)) (C := RX12) (T := TX12) (N := 74) hx hb hT i_TX12 hown hK hP 0 rfl rfl 1 (by decide) (hT _ t_1716) (fun _ h9 => h9) rfl dX12_feed_45 ?_
      refine lv_aload_n hx hb dX12_feed_48 rfl (lv_at hl 1 rfl) ?_
      refine va_get (D := D) (ci := 12) (v := .int 2) (C := RX12) (T := TX12) (N := 74) hx hb hT i_TX12 hown hK hP 0 rfl rfl 2 (by decide) (hT _ t_1717) (fun _ h9 => h9) rfl dX12_feed_49 ?_
      refine lv_lload_n hx hb dX12_feed_52 rfl (lv_at hl 2 rfl) ?_
      refine lv_bipush (v := 8) hx hb dX12_feed_53 (by decide) ?_
      refine lv_iload hx hb dX12_feed_55 (lv_at hl 0 rfl) ?_
      refine lv_imul hx hb dX12_feed_57 ?_
      refine lv_topi (fun z212 e213 => ?_)
      obtain rfl : z212 = 24 := e213.trans (by first | decide | rfl)
      refine lv_lshr hx hb dX12_feed_58 rfl ?_
      refine lv_topl (fun z214 e215 => ?_)
      refine lv_l2i hx hb dX12_feed_59 rfl ?_
      refine lv_topi (fun z216 e217 => ?_)
      refine lv_i2b hx hb dX12_feed_60 rfl ?_
      refine lv_topi (fun z218 e219 => ?_)
      refine va_bast hx hb hK hP hD hS 1 0 rfl rfl (vp_in_iff.mpr (by decide)) dX12_feed_61 (fun H locs hP hD hS => ?_)
      have hP : va_P D vwCl [(hm, .inr (12, [.int 0, .ref (ma 1), .int 2, .int (-1), .ref (ma 4), .int 0, .int 0, .int 0, .long 0, .int 0, .int 0, .int 0, .int 0, .long 0, .int 0, .int 0, .int 0, .ref (ma 17), .ref (ma 18), .ref (ma 19), .ref (ma 20), .ref (ma 21), .ref (ma 22), .ref (ma 23), .ref (ma 24), .ref (ma 25), .ref (ma 26), .ref (ma 27), .ref (ma 28), .ref (ma 29), .ref (ma 30), .ref (ma 31), .ref (ma 32), .ref (ma 33), .ref (ma 34), .ref (ma 35), .ref (ma 36), .ref (ma 37), .ref (ma 38), .ref (ma 39), .ref (ma 40), .ref (ma 41), .ref (ma 42), .ref (ma 43), .ref (ma 44), .ref (ma 45), .ref (ma 46), .ref (ma 47), .ref (ma 48), .int 0, .int 0, .int 0, .int 0, .int 0, .int 0, .int 0, .int 0, .int 0, .int 0, .ref (ma 59), .ref (ma 60), .int 0, .int 0, .int 0, .int 0, .int 0, .int 0, .ref (ma 67), .ref (ma 68), .ref (ma 69), .int 0, .int (-1), .int 0, .ref (ma 73)])), ((ma 1), .inl (cy 0, 1600, .inl (upd f209 (2 : Int32).toNatClampNeg (vp_nar .byte z218))))] H := hP
      have hD : va_D A [(hm, .inr (12, [.int 0, .ref (ma 1), .int 2, .int (-1), .ref (ma 4), .int 0, .int 0, .int 0, .long 0, .int 0, .int 0, .int 0, .int 0, .long 0, .int 0, .int 0, .int 0, .ref (ma 17), .ref (ma 18), .ref (ma 19), .ref (ma 20), .ref (ma 21), .ref (ma 22), .ref (ma 23), .ref (ma 24), .ref (ma 25), .ref (ma 26), .ref (ma 27), .ref (ma 28), .ref (ma 29), .ref (ma 30), .ref (ma 31), .ref (ma 32), .ref (ma 33), .ref (ma 34), .ref (ma 35), .ref (ma 36), .ref (ma 37), .ref (ma 38), .ref (ma 39), .ref (ma 40), .ref (ma 41), .ref (ma 42), .ref (ma 43), .ref (ma 44), .ref (ma 45), .ref (ma 46), .ref (ma 47), .ref (ma 48), .int 0, .int 0, .int 0, .int 0, .int 0, .int 0, .int 0, .int 0, .int 0, .int 0, .ref (ma 59), .ref (ma 60), .int 0, .int 0, .int 0, .int 0, .int 0, .int 0, .ref (ma 67), .ref (ma 68), .ref (ma 69), .int 0, .int (-1), .int 0, .ref (ma 73)])), ((ma 1), .inl (cy 0, 1600, .inl (upd f209 (2 : Int32).toNatClampNeg (vp_nar .byte z218))))] := hD
      generalize hff220 : (upd f209 (2 : Int32).toNatClampNeg (vp_nar .byte z218)) = f220 at hP hD
      refine lv_aload_n hx hb dX12_feed_62 rfl (lv_at hl 1 rfl) ?_
      refine lv_dup hx hb dX12_feed_63 rfl ?_
      refine va_get (D := D) (ci := 12) (v := .int 2) (C := RX12) (T := TX12) (N := 74) hx hb hT i_TX12 hown hK hP 0 rfl rfl 2 (by decide) (hT _ t_1717) (fun _ h9 => h9) rfl dX12_feed_64 ?_
      refine lv_iconst (v := 1) hx hb dX12_feed_67 (by decide) ?_
      refine lv_iadd hx hb dX12_feed_68 ?_
      refine lv_topi (fun z221 e222 => ?_)
      obtain rfl : z221 = 3 := e222.trans (by first | decide | rfl)
      refine va_put (D := D) (ci := 12) (v := .int 3) (ty := .int) (C := RX12) (T := TX12) (N := 74) hx hb hT i_TX12 tyX12 tyX12_ok nmX12 hown hK hP hD hS 0 rfl rfl 2 (by decide) (hT _ t_1717) (fun _ h9 => h9) rfl (by decide +kernel) rfl rfl (Nat.le_of_ble_eq_true rfl) dX12_feed_69 (fun H locs hP hD hS => ?_)
      have hP : va_P D vwCl [(hm, .inr (12, [.int 0, .ref (ma 1), .int 3, .int (-1), .ref (ma 4), .int 0, .int 0, .int 0, .long 0, .int 0, .int 0, .int 0, .int 0, .long 0, .int 0, .int 0, .int 0, .ref (ma 17), .ref (ma 18), .ref (ma 19), .ref (ma 20), .ref (ma 21), .ref (ma 22), .ref (ma 23), .ref (ma 24), .ref (ma 25), .ref (ma 26), .ref (ma 27), .ref (ma 28), .ref (ma 29), .ref (ma 30), .ref (ma 31), .ref (ma 32), .ref (ma 33), .ref (ma 34), .ref (ma 35), .ref (ma 36), .ref (ma 37), .ref (ma 38), .ref (ma 39), .ref (ma 40), .ref (ma 41), .ref (ma 42), .ref (ma 43), .ref (ma 44), .ref (ma 45), .ref (ma 46), .ref (ma 47), .ref (ma 48), .int 0, .int 0, .int 0, .int 0, .int 0, .int 0, .int 0, .int 0, .int 0, .int 0, .ref (ma 59), .ref (ma 60), .int 0, .int 0, .int 0, .int 0, .int 0, .int 0, .ref (ma 67), .ref (ma 68), .ref (ma 69), .int 0, .int (-1), .int 0, .ref (ma 73)])), ((ma 1), .inl (cy 0, 1600, .inl f220))] H := hP
      have hD : va_D A [(hm, .inr (12, [.int 0, .ref (ma 1), .int 3, .int (-1), .ref (ma 4), .int 0, .int 0, .int 0, .long 0, .int 0, .int 0, .int 0, .int 0, .long 0, .int 0, .int 0, .int 0, .ref (ma 17), .ref (ma 18), .ref (ma 19), .ref (ma 20), .ref (ma 21), .ref (ma 22), .ref (ma 23), .ref (ma 24), .ref (ma 25), .ref (ma 26), .ref (ma 27), .ref (ma 28), .ref (ma 29), .ref (ma 30), .ref (ma 31), .ref (ma 32), .ref (ma 33), .ref (ma 34), .ref (ma 35), .ref (ma 36), .ref (ma 37), .ref (ma 38), .ref (ma 39), .ref (ma 40), .ref (ma 41), .ref (ma 42), .ref (ma 43), .ref (ma 44), .ref (ma 45), .ref (ma 46), .ref (ma 47), .ref (ma 48), .int 0, .int 0, .int 0, .int 0, .int 0, .int 0, .int 0, .int 0, .int 0, .int 0, .ref (ma 59), .ref (ma 60), .int 0, .int 0, .int 0, .int 0, .int 0, .int 0, .ref (ma 67), .ref (ma 68), .ref (ma 69), .int 0, .int (-1), .int 0, .ref (ma 73)])), ((ma 1), .inl (cy 0, 1600, .inl f220))] := hD
      refine lv_iinc (v := 2) (lv' := [(4, .int 2), (0, .ref hm), (1, .long p0), (3, .int (nI 6))]) hx hb dX12_feed_72 hl (k := 0) rfl (by decide) (by decide) rfl (fun ls hl => ?_)
      refine lv_goto (tgt := 39) hx hb dX12_feed_75 (by decide) ?_
      refine lv_iload hx hb dX12_feed_39 (lv_at hl 0 rfl) ?_
      refine lv_if_lt (tgt := 78) hx hb dX12_feed_41 (by decide) (fun c9 => absurd c9 (by decide)) (fun _ => ?_)
      refine lv_aload_n hx hb dX12_feed_44 rfl (lv_at hl 1 rfl) ?_
      refine va_get (D := D) (ci := 12) (v := .ref (ma 1)) (C := RX12) (T := TX12) (N := 74) hx hb hT i_TX12 hown hK hP 0 rfl rfl 1 (by decide) (hT _ t_1716) (fun _ h9 => h9) rfl dX12_feed_45 ?_
      refine lv_aload_n hx hb dX12_feed_48 rfl (lv_at hl 1 rfl) ?_
      refine va_get (D := D) (ci := 12) (v := .int 3) (C := RX12) (T := TX12) (N := 74) hx hb hT i_TX12 hown hK hP 0 rfl rfl 2 (by decide) (hT _ t_1717) (fun _ h9 => h9) rfl dX12_feed_49 ?_
      refine lv_lload_n hx hb dX12_feed_52 rfl (lv_at hl 2 rfl) ?_
      refine lv_bipush (v := 8) hx hb dX12_feed_53 (by decide) ?_
      refine lv_iload hx hb dX12_feed_55 (lv_at hl 0 rfl) ?_
      refine lv_imul hx hb dX12_feed_57 ?_
      refine lv_topi (fun z223 e224 => ?_)
      obtain rfl : z223 = 16 := e224.trans (by first | decide | rfl)
      refine lv_lshr hx hb dX12_feed_58 rfl ?_
      refine lv_topl (fun z225 e226 => ?_)
      refine lv_l2i hx hb dX12_feed_59 rfl ?_
      refine lv_topi (fun z227 e228 => ?_)
      refine lv_i2b hx hb dX12_feed_60 rfl ?_
      refine lv_topi (fun z229 e230 => ?_)
      refine va_bast hx hb hK hP hD hS 1 0 rfl rfl (vp_in_iff.mpr (by decide)) dX12_feed_61 (fun H locs hP hD hS => ?_)
      have hP : va_P D vwCl [(hm, .inr (12, [.int 0, .ref (ma 1), .int 3, .int (-1), .ref (ma 4), .int 0, .int 0, .int 0, .long 0, .int 0, .int 0, .int 0, .int 0, .long 0, .int 0, .int 0, .int 0, .ref (ma 17), .ref (ma 18), .ref (ma 19), .ref (ma 20), .ref (ma 21), .ref (ma 22), .ref (ma 23), .ref (ma 24), .ref (ma 25), .ref (ma 26), .ref (ma 27), .ref (ma 28), .ref (ma 29), .ref (ma 30), .ref (ma 31), .ref (ma 32), .ref (ma 33), .ref (ma 34), .ref (ma 35), .ref (ma 36), .ref (ma 37), .ref (ma 38), .ref (ma 39), .ref (ma 40), .ref (ma 41), .ref (ma 42), .ref (ma 43), .ref (ma 44), .ref (ma 45), .ref (ma 46), .ref (ma 47), .ref (ma 48), .int 0, .int 0, .int 0, .int 0, .int 0, .int 0, .int 0, .int 0, .int 0, .int 0, .ref (ma 59), .ref (ma 60), .int 0, .int 0, .int 0, .int 0, .int 0, .int 0, .ref (ma 67), .ref (ma 68), .ref (ma 69), .int 0, .int (-1), .int 0, .ref (ma 73)])), ((ma 1), .inl (cy 0, 1600, .inl (upd f220 (3 : Int32).toNatClampNeg (vp_nar .byte z229))))] H := hP
      have hD : va_D A [(hm, .inr (12, [.int 0, .ref (ma 1), .int 3, .int (-1), .ref (ma 4), .int 0, .int 0, .int 0, .long 0, .int 0, .int 0, .int 0, .int 0, .long 0, .int 0, .int 0, .int 0, .ref (ma 17), .ref (ma 18), .ref (ma 19), .ref (ma 20), .ref (ma 21), .ref (ma 22), .ref (ma 23), .ref (ma 24), .ref (ma 25), .ref (ma 26), .ref (ma 27), .ref (ma 28), .ref (ma 29), .ref (ma 30), .ref (ma 31), .ref (ma 32), .ref (ma 33), .ref (ma 34), .ref (ma 35), .ref (ma 36), .ref (ma 37), .ref (ma 38), .ref (ma 39), .ref (ma 40), .ref (ma 41), .ref (ma 42), .ref (ma 43), .ref (ma 44), .ref (ma 45), .ref (ma 46), .ref (ma 47), .ref (ma 48), .int 0, .int 0, .int 0, .int 0, .int 0, .int 0, .int 0, .int 0, .int 0, .int 0, .ref (ma 59), .ref (ma 60), .int 0, .int 0, .int 0, .int 0, .int 0, .int 0, .ref (ma 67), .ref (ma 68), .ref (ma 69), .int 0, .int (-1), .int 0, .ref (ma 73)])), ((ma 1), .inl (cy 0, 1600, .inl (upd f220 (3 : Int32).toNatClampNeg (vp_nar .byte z229))))] := hD
      generalize hff231 : (upd f220 (3 : Int32).toNatClampNeg (vp_nar .byte z229)) = f231 at hP hD
      refine lv_aload_n hx hb dX12_feed_62 rfl (lv_at hl 1 rfl) ?_
      refine lv_dup hx hb dX12_feed_63 rfl ?_
      refine va_get (D := D) (ci := 12) (v := .int 3) (C := RX12) (T := TX12) (N := 74) hx hb hT i_TX12 hown hK hP 0 rfl rfl 2 (by decide) (hT _ t_1717) (fun _ h9 => h9) rfl dX12_feed_64 ?_
      refine lv_iconst (v := 1) hx hb dX12_feed_67 (by decide) ?_
      refine lv_iadd hx hb dX12_feed_68 ?_
      refine lv_topi (fun z232 e233 => ?_)
      obtain rfl : z232 = 4 := e233.trans (by first | decide | rfl)
      refine va_put (D := D) (ci := 12) (v := .int 4) (ty := .int) (C := RX12) (T := TX12) (N := 74) hx hb hT i_TX12 tyX12 tyX12_ok nmX12 hown hK hP hD hS 0 rfl rfl 2 (by decide) (hT _ t_1717) (fun _ h9 => h9) rfl (by decide +kernel) rfl rfl (Nat.le_of_ble_eq_true rfl) dX12_feed_69 (fun H locs hP hD hS => ?_)
      have hP : va_P D vwCl [(hm, .inr (12, [.int 0, .ref (ma 1), .int 4, .int (-1), .ref (ma 4), .int 0, .int 0, .int 0, .long 0, .int 0, .int 0, .int 0, .int 0, .long 0, .int 0, .int 0, .int 0, .ref (ma 17), .ref (ma 18), .ref (ma 19), .ref (ma 20), .ref (ma 21), .ref (ma 22), .ref (ma 23), .ref (ma 24), .ref (ma 25), .ref (ma 26), .ref (ma 27), .ref (ma 28), .ref (ma 29), .ref (ma 30), .ref (ma 31), .ref (ma 32), .ref (ma 33), .ref (ma 34), .ref (ma 35), .ref (ma 36), .ref (ma 37), .ref (ma 38), .ref (ma 39), .ref (ma 40), .ref (ma 41), .ref (ma 42), .ref (ma 43), .ref (ma 44), .ref (ma 45), .ref (ma 46), .ref (ma 47), .ref (ma 48), .int 0, .int 0, .int 0, .int 0, .int 0, .int 0, .int 0, .int 0, .int 0, .int 0, .ref (ma 59), .ref (ma 60), .int 0, .int 0, .int 0, .int 0, .int 0, .int 0, .ref (ma 67), .ref (ma 68), .ref (ma 69), .int 0, .int (-1), .int 0, .ref (ma 73)])), ((ma 1), .inl (cy 0, 1600, .inl f231))] H := hP
      have hD : va_D A [(hm, .inr (12, [.int 0, .ref (ma 1), .int 4, .int (-1), .ref (ma 4), .int 0, .int 0, .int 0, .long 0, .int 0, .int 0, .int 0, .int 0, .long 0, .int 0, .int 0, .int 0, .ref (ma 17), .ref (ma 18), .ref (ma 19), .ref (ma 20), .ref (ma 21), .ref (ma 22), .ref (ma 23), .ref (ma 24), .ref (ma 25), .ref (ma 26), .ref (ma 27), .ref (ma 28), .ref (ma 29), .ref (ma 30), .ref (ma 31), .ref (ma 32), .ref (ma 33), .ref (ma 34), .ref (ma 35), .ref (ma 36), .ref (ma 37), .ref (ma 38), .ref (ma 39), .ref (ma 40), .ref (ma 41), .ref (ma 42), .ref (ma 43), .ref (ma 44), .ref (ma 45), .ref (ma 46), .ref (ma 47), .ref (ma 48), .int 0, .int 0, .int 0, .int 0, .int 0, .int 0, .int 0, .int 0, .int 0, .int 0, .ref (ma 59), .ref (ma 60), .int 0, .int 0, .int 0, .int 0, .int 0, .int 0, .ref (ma 67), .ref (ma 68), .ref (ma 69), .int 0, .int (-1), .int 0, .ref (ma 73)])), ((ma 1), .inl (cy 0, 1600, .inl f231))] := hD
      refine lv_iinc (v := 1) (lv' := [(4, .int 1), (0, .ref hm), (1, .long p0), (3, .int (nI 6))]) hx hb dX12_feed_72 hl (k := 0) rfl (by decide) (by decide) rfl (fun ls hl => ?_)
      refine lv_goto (tgt := 39) hx hb dX12_feed_75 (by decide) ?_
      refine lv_iload hx hb dX12_feed_39 (lv_at hl 0 rfl) ?_
      refine lv_if_lt (tgt := 78) hx hb dX12_feed_41 (by decide) (fun c9 => absurd c9 (by decide)) (fun _ => ?_)
      refine lv_aload_n hx hb dX12_feed_44 rfl (lv_at hl 1 rfl) ?_
      refine va_get (D := D) (ci := 12) (v := .ref (ma 1)) (C := RX12) (T := TX12) (N := 74) hx hb hT i_TX12 hown hK hP 0 rfl rfl 1 (by decide) (hT _ t_1716) (fun _ h9 => h9) rfl dX12_feed_45 ?_
      refine lv_aload_n hx hb dX12_feed_48 rfl (lv_at hl 1 rfl) ?_
      refine va_get (D := D) (ci := 12) (v := .int 4) (C := RX12) (T := TX12) (N := 74) hx hb hT i_TX12 hown hK hP 0 rfl rfl 2 (by decide) (hT _ t_1717) (fun _ h9 => h9) rfl dX12_feed_49 ?_
      refine lv_lload_n hx hb dX12_feed_52 rfl (lv_at hl 2 rfl) ?_
      refine lv_bipush (v := 8) hx hb dX12_feed_53 (by decide) ?_
      refine lv_iload hx hb dX12_feed_55 (lv_at hl 0 rfl) ?_
      refine lv_imul hx hb dX12_feed_57 ?_
      refine lv_topi (fun z234 e235 => ?_)
      obtain rfl : z234 = 8 := e235.trans (by first | decide | rfl)
      refine lv_lshr hx hb dX12_feed_58 rfl ?_
      refine lv_topl (fun z236 e237 => ?_)
      refine lv_l2i hx hb dX12_feed_59 rfl ?_
      refine lv_topi (fun z238 e239 => ?_)
      refine lv_i2b hx hb dX12_feed_60 rfl ?_
      refine lv_topi (fun z240 e241 => ?_)
      refine va_bast hx hb hK hP hD hS 1 0 rfl rfl (vp_in_iff.mpr (by decide)) dX12_feed_61 (fun H locs hP hD hS => ?_)
      have hP : va_P D vwCl [(hm, .inr (12, [.int 0, .ref (ma 1), .int 4, .int (-1), .ref (ma 4), .int 0, .int 0, .int 0, .long 0, .int 0, .int 0, .int 0, .int 0, .long 0, .int 0, .int 0, .int 0, .ref (ma 17), .ref (ma 18), .ref (ma 19), .ref (ma 20), .ref (ma 21), .ref (ma 22), .ref (ma 23), .ref (ma 24), .ref (ma 25), .ref (ma 26), .ref (ma 27), .ref (ma 28), .ref (ma 29), .ref (ma 30), .ref (ma 31), .ref (ma 32), .ref (ma 33), .ref (ma 34), .ref (ma 35), .ref (ma 36), .ref (ma 37), .ref (ma 38), .ref (ma 39), .ref (ma 40), .ref (ma 41), .ref (ma 42), .ref (ma 43), .ref (ma 44), .ref (ma 45), .ref (ma 46), .ref (ma 47), .ref (ma 48), .int 0, .int 0, .int 0, .int 0, .int 0, .int 0, .int 0, .int 0, .int 0, .int 0, .ref (ma 59), .ref (ma 60), .int 0, .int 0, .int 0, .int 0, .int 0, .int 0, .ref (ma 67), .ref (ma 68), .ref (ma 69), .int 0, .int (-1), .int 0, .ref (ma 73)])), ((ma 1), .inl (cy 0, 1600, .inl (upd f231 (4 : Int32).toNatClampNeg (vp_nar .byte z240))))] H := hP
      have hD : va_D A [(hm, .inr (12, [.int 0, .ref (ma 1), .int 4, .int (-1), .ref (ma 4), .int 0, .int 0, .int 0, .long 0, .int 0, .int 0, .int 0, .int 0, .long 0, .int 0, .int 0, .int 0, .ref (ma 17), .ref (ma 18), .ref (ma 19), .ref (ma 20), .ref (ma 21), .ref (ma 22), .ref (ma 23), .ref (ma 24), .ref (ma 25), .ref (ma 26), .ref (ma 27), .ref (ma 28), .ref (ma 29), .ref (ma 30), .ref (ma 31), .ref (ma 32), .ref (ma 33), .ref (ma 34), .ref (ma 35), .ref (ma 36), .ref (ma 37), .ref (ma 38), .ref (ma 39), .ref (ma 40), .ref (ma 41), .ref (ma 42), .ref (ma 43), .ref (ma 44), .ref (ma 45), .ref (ma 46), .ref (ma 47), .ref (ma 48), .int 0, .int 0, .int 0, .int 0, .int 0, .int 0, .int 0, .int 0, .int 0, .int 0, .ref (ma 59), .ref (ma 60), .int 0, .int 0, .int 0, .int 0, .int 0, .int 0, .ref (ma 67), .ref (ma 68), .ref (ma 69), .int 0, .int (-1), .int 0, .ref (ma 73)])), ((ma 1), .inl (cy 0, 1600, .inl (upd f231 (4 : Int32).toNatClampNeg (vp_nar .byte z240))))] := hD
      generalize hff242 : (upd f231 (4 : Int32).toNatClampNeg (vp_nar .byte z240)) = f242 at hP hD
      refine lv_aload_n hx hb dX12_feed_62 rfl (lv_at hl 1 rfl) ?_
      refine lv_dup hx hb dX12_feed_63 rfl ?_
      refine va_get (D := D) (ci := 12) (v := .int 4) (C := RX12) (T := TX12) (N := 74) hx hb hT i_TX12 hown hK hP 0 rfl rfl 2 (by decide) (hT _ t_1717) (fun _ h9 => h9) rfl dX12_feed_64 ?_
      refine lv_iconst (v := 1) hx hb dX12_feed_67 (by decide) ?_
      refine lv_iadd hx hb dX12_feed_68 ?_
      refine lv_topi (fun z243 e244 => ?_)
      obtain rfl : z243 = 5 := e244.trans (by first | decide | rfl)
      refine va_put (D := D) (ci := 12) (v := .int 5) (ty := .int) (C := RX12) (T := TX12) (N := 74) hx hb hT i_TX12 tyX12 tyX12_ok nmX12 hown hK hP hD hS 0 rfl rfl 2 (by decide) (hT _ t_1717) (fun _ h9 => h9) rfl (by decide +kernel) rfl rfl (Nat.le_of_ble_eq_true rfl) dX12_feed_69 (fun H locs hP hD hS => ?_)
      have hP : va_P D vwCl [(hm, .inr (12, [.int 0, .ref (ma 1), .int 5, .int (-1), .ref (ma 4), .int 0, .int 0, .int 0, .long 0, .int 0, .int 0, .int 0, .int 0, .long 0, .int 0, .int 0, .int 0, .ref (ma 17), .ref (ma 18), .ref (ma 19), .ref (ma 20), .ref (ma 21), .ref (ma 22), .ref (ma 23), .ref (ma 24), .ref (ma 25), .ref (ma 26), .ref (ma 27), .ref (ma 28), .ref (ma 29), .ref (ma 30), .ref (ma 31), .ref (ma 32), .ref (ma 33), .ref (ma 34), .ref (ma 35), .ref (ma 36), .ref (ma 37), .ref (ma 38), .ref (ma 39), .ref (ma 40), .ref (ma 41), .ref (ma 42), .ref (ma 43), .ref (ma 44), .ref (ma 45), .ref (ma 46), .ref (ma 47), .ref (ma 48), .int 0, .int 0, .int 0, .int 0, .int 0, .int 0, .int 0, .int 0, .int 0, .int 0, .ref (ma 59), .ref (ma 60), .int 0, .int 0, .int 0, .int 0, .int 0, .int 0, .ref (ma 67), .ref (ma 68), .ref (ma 69), .int 0, .int (-1), .int 0, .ref (ma 73)])), ((ma 1), .inl (cy 0, 1600, .inl f242))] H := hP
      have hD : va_D A [(hm, .inr (12, [.int 0, .ref (ma 1), .int 5, .int (-1), .ref (ma 4), .int 0, .int 0, .int 0, .long 0, .int 0, .int 0, .int 0, .int 0, .long 0, .int 0, .int 0, .int 0, .ref (ma 17), .ref (ma 18), .ref (ma 19), .ref (ma 20), .ref (ma 21), .ref (ma 22), .ref (ma 23), .ref (ma 24), .ref (ma 25), .ref (ma 26), .ref (ma 27), .ref (ma 28), .ref (ma 29), .ref (ma 30), .ref (ma 31), .ref (ma 32), .ref (ma 33), .ref (ma 34), .ref (ma 35), .ref (ma 36), .ref (ma 37), .ref (ma 38), .ref (ma 39), .ref (ma 40), .ref (ma 41), .ref (ma 42), .ref (ma 43), .ref (ma 44), .ref (ma 45), .ref (ma 46), .ref (ma 47), .ref (ma 48), .int 0, .int 0, .int 0, .int 0, .int 0, .int 0, .int 0, .int 0, .int 0, .int 0, .ref (ma 59), .ref (ma 60), .int 0, .int 0, .int 0, .int 0, .int 0, .int 0, .ref (ma 67), .ref (ma 68), .ref (ma 69), .int 0, .int (-1), .int 0, .ref (ma 73)])), ((ma 1), .inl (cy 0, 1600, .inl f242))] := hD
      refine lv_iinc (v := 0) (lv' := [(4, .int 0), (0, .ref hm), (1, .long p0), (3, .int (nI 6))]) hx hb dX12_feed_72 hl (k := 0) rfl (by decide) (by decide) rfl (fun ls hl => ?_)
      refine lv_goto (tgt := 39) hx hb dX12_feed_75 (by decide) ?_
      refine lv_iload hx hb dX12_feed_39 (lv_at hl 0 rfl) ?_
      refine lv_if_lt (tgt := 78) hx hb dX12_feed_41 (by decide) (fun c9 => absurd c9 (by decide)) (fun _ => ?_)
      refine lv_aload_n hx hb dX12_feed_44 rfl (lv_at hl 1 rfl) ?_
      refine va_get (D := D) (ci := 12) (v := .ref (ma 1)) (C := RX12) (T := TX12) (N := 74) hx hb hT i_TX12 hown hK hP 0 rfl rfl 1 (by decide) (hT _ t_1716) (fun _ h9 => h9) rfl dX12_feed_45 ?_
      refine lv_aload_n hx hb dX12_feed_48 rfl (lv_at hl 1 rfl) ?_
      refine va_get (D := D) (ci := 12) (v := .int 5) (C := RX12) (T := TX12) (N := 74) hx hb hT i_TX12 hown hK hP 0 rfl rfl 2 (by decide) (hT _ t_1717) (fun _ h9 => h9) rfl dX12_feed_49 ?_
      refine lv_lload_n hx hb dX12_feed_52 rfl (lv_at hl 2 rfl) ?_
      refine lv_bipush (v := 8) hx hb dX12_feed_53 (by decide) ?_
      refine lv_iload hx hb dX12_feed_55 (lv_at hl 0 rfl) ?_
      refine lv_imul hx hb dX12_feed_57 ?_
      refine lv_topi (fun z245 e246 => ?_)
      obtain rfl : z245 = 0 := e246.trans (by first | decide | rfl)
      refine lv_lshr hx hb dX12_feed_58 rfl ?_
      refine lv_topl (fun z247 e248 => ?_)
      refine lv_l2i hx hb dX12_feed_59 rfl ?_
      refine lv_topi (fun z249 e250 => ?_)
      refine lv_i2b hx hb dX12_feed_60 rfl ?_
      refine lv_topi (fun z251 e252 => ?_)
      refine va_bast hx hb hK hP hD hS 1 0 rfl rfl (vp_in_iff.mpr (by decide)) dX12_feed_61 (fun H locs hP hD hS => ?_)
      have hP : va_P D vwCl [(hm, .inr (12, [.int 0, .ref (ma 1), .int 5, .int (-1), .ref (ma 4), .int 0, .int 0, .int 0, .long 0, .int 0, .int 0, .int 0, .int 0, .long 0, .int 0, .int 0, .int 0, .ref (ma 17), .ref (ma 18), .ref (ma 19), .ref (ma 20), .ref (ma 21), .ref (ma 22), .ref (ma 23), .ref (ma 24), .ref (ma 25), .ref (ma 26), .ref (ma 27), .ref (ma 28), .ref (ma 29), .ref (ma 30), .ref (ma 31), .ref (ma 32), .ref (ma 33), .ref (ma 34), .ref (ma 35), .ref (ma 36), .ref (ma 37), .ref (ma 38), .ref (ma 39), .ref (ma 40), .ref (ma 41), .ref (ma 42), .ref (ma 43), .ref (ma 44), .ref (ma 45), .ref (ma 46), .ref (ma 47), .ref (ma 48), .int 0, .int 0, .int 0, .int 0, .int 0, .int 0, .int 0, .int 0, .int 0, .int 0, .ref (ma 59), .ref (ma 60), .int 0, .int 0, .int 0, .int 0, .int 0, .int 0, .ref (ma 67), .ref (ma 68), .ref (ma 69), .int 0, .int (-1), .int 0, .ref (ma 73)])), ((ma 1), .inl (cy 0, 1600, .inl (upd f242 (5 : Int32).toNatClampNeg (vp_nar .byte z251))))] H := hP
      have hD : va_D A [(hm, .inr (12, [.int 0, .ref (ma 1), .int 5, .int (-1), .ref (ma 4), .int 0, .int 0, .int 0, .long 0, .int 0, .int 0, .int 0, .int 0, .long 0, .int 0, .int 0, .int 0, .ref (ma 17), .ref (ma 18), .ref (ma 19), .ref (ma 20), .ref (ma 21), .ref (ma 22), .ref (ma 23), .ref (ma 24), .ref (ma 25), .ref (ma 26), .ref (ma 27), .ref (ma 28), .ref (ma 29), .ref (ma 30), .ref (ma 31), .ref (ma 32), .ref (ma 33), .ref (ma 34), .ref (ma 35), .ref (ma 36), .ref (ma 37), .ref (ma 38), .ref (ma 39), .ref (ma 40), .ref (ma 41), .ref (ma 42), .ref (ma 43), .ref (ma 44), .ref (ma 45), .ref (ma 46), .ref (ma 47), .ref (ma 48), .int 0, .int 0, .int 0, .int 0, .int 0, .int 0, .int 0, .int 0, .int 0, .int 0, .ref (ma 59), .ref (ma 60), .int 0, .int 0, .int 0, .int 0, .int 0, .int 0, .ref (ma 67), .ref (ma 68), .ref (ma 69), .int 0, .int (-1), .int 0, .ref (ma 73)])), ((ma 1), .inl (cy 0, 1600, .inl (upd f242 (5 : Int32).toNatClampNeg (vp_nar .byte z251))))] := hD
      generalize hff253 : (upd f242 (5 : Int32).toNatClampNeg (vp_nar .byte z251)) = f253 at hP hD
      refine lv_aload_n hx hb dX12_feed_62 rfl (lv_at hl 1 rfl) ?_
      refine lv_dup hx hb dX12_feed_63 rfl ?_
      refine va_get (D := D) (ci := 12) (v := .int 5) (C := RX12) (T := TX12) (N := 74) hx hb hT i_TX12 hown hK hP 0 rfl rfl 2 (by decide) (hT _ t_1717) (fun _ h9 => h9) rfl dX12_feed_64 ?_
      refine lv_iconst (v := 1) hx hb dX12_feed_67 (by decide) ?_
      refine lv_iadd hx hb dX12_feed_68 ?_
      refine lv_topi (fun z254 e255 => ?_)
      obtain rfl : z254 = 6 := e255.trans (by first | decide | rfl)
      refine va_put (D := D) (ci := 12) (v := .int 6) (ty := .int) (C := RX12) (T := TX12) (N := 74) hx hb hT i_TX12 tyX12 tyX12_ok nmX12 hown hK hP hD hS 0 rfl rfl 2 (by decide) (hT _ t_1717) (fun _ h9 => h9) rfl (by decide +kernel) rfl rfl (Nat.le_of_ble_eq_true rfl) dX12_feed_69 (fun H locs hP hD hS => ?_)
      have hP : va_P D vwCl [(hm, .inr (12, [.int 0, .ref (ma 1), .int 6, .int (-1), .ref (ma 4), .int 0, .int 0, .int 0, .long 0, .int 0, .int 0, .int 0, .int 0, .long 0, .int 0, .int 0, .int 0, .ref (ma 17), .ref (ma 18), .ref (ma 19), .ref (ma 20), .ref (ma 21), .ref (ma 22), .ref (ma 23), .ref (ma 24), .ref (ma 25), .ref (ma 26), .ref (ma 27), .ref (ma 28), .ref (ma 29), .ref (ma 30), .ref (ma 31), .ref (ma 32), .ref (ma 33), .ref (ma 34), .ref (ma 35), .ref (ma 36), .ref (ma 37), .ref (ma 38), .ref (ma 39), .ref (ma 40), .ref (ma 41), .ref (ma 42), .ref (ma 43), .ref (ma 44), .ref (ma 45), .ref (ma 46), .ref (ma 47), .ref (ma 48), .int 0, .int 0, .int 0, .int 0, .int 0, .int 0, .int 0, .int 0, .int 0, .int 0, .ref (ma 59), .ref (ma 60), .int 0, .int 0, .int 0, .int 0, .int 0, .int 0, .ref (ma 67), .ref (ma 68), .ref (ma 69), .int 0, .int (-1), .int 0, .ref (ma 73)])), ((ma 1), .inl (cy 0, 1600, .inl f253))] H := hP
      have hD : va_D A [(hm, .inr (12, [.int 0, .ref (ma 1), .int 6, .int (-1), .ref (ma 4), .int 0, .int 0, .int 0, .long 0, .int 0, .int 0, .int 0, .int 0, .long 0, .int 0, .int 0, .int 0, .ref (ma 17), .ref (ma 18), .ref (ma 19), .ref (ma 20), .ref (ma 21), .ref (ma 22), .ref (ma 23), .ref (ma 24), .ref (ma 25), .ref (ma 26), .ref (ma 27), .ref (ma 28), .ref (ma 29), .ref (ma 30), .ref (ma 31), .ref (ma 32), .ref (ma 33), .ref (ma 34), .ref (ma 35), .ref (ma 36), .ref (ma 37), .ref (ma 38), .ref (ma 39), .ref (ma 40), .ref (ma 41), .ref (ma 42), .ref (ma 43), .ref (ma 44), .ref (ma 45), .ref (ma 46), .ref (ma 47), .ref (ma 48), .int 0, .int 0, .int 0, .int 0, .int 0, .int 0, .int 0, .int 0, .int 0, .int 0, .ref (ma 59), .ref (ma 60), .int 0, .int 0, .int 0, .int 0, .int 0, .int 0, .ref (ma 67), .ref (ma 68), .ref (ma 69), .int 0, .int (-1), .int 0, .ref (ma 73)])), ((ma 1), .inl (cy 0, 1600, .inl f253))] := hD
      refine lv_iinc (v := (-1)) (lv' := [(4, .int (-1)), (0, .ref hm), (1, .long p0), (3, .int (nI 6))]) hx hb dX12_feed_72 hl (k := 0) rfl (by decide) (by decide) rfl (fun ls hl => ?_)
      refine lv_goto (tgt := 39) hx hb dX12_feed_75 (by decide) ?_
      refine lv_iload hx hb dX12_feed_39 (lv_at hl 0 rfl) ?_
      refine lv_if_lt (tgt := 78) hx hb dX12_feed_41 (by decide) (fun _ => ?_) (fun c9 => absurd (by decide) c9)
      refine lv_aload_n hx hb dX12_feed_78 rfl (lv_at hl 1 rfl) ?_
      refine va_get (D := D) (ci := 12) (v := .int 6) (C := RX12) (T := TX12) (N := 74) hx hb hT i_TX12 hown hK hP 0 rfl rfl 2 (by decide) (hT _ t_1717) (fun _ h9 => h9) rfl dX12_feed_79 ?_
      have hP9 := hP.sub (ws' := []) [] rfl
      have hD9 := hD.sub (ws' := []) [] (by decide) rfl
      refine W.widen (k := 0) (n := 0) (Nat.le_of_ble_eq_true rfl) (Nat.le_of_ble_eq_true rfl) ?_
      exact W.iret (v := 6) hx hb hr (fun t ht hW => ⟨⟨6, (), rfl, (by decide), by rw [ht]; exact hP9, hD9⟩, hS.F ht⟩) hS.2.2 dX12_feed_82
    · refine lv_aload_n hx hb dX12_feed_0 rfl (lv_at hl 0 rfl) ?_
      refine lv_iconst (v := 0) hx hb dX12_feed_1 (by decide) ?_
      refine va_put (D := D) (ci := 12) (v := .int 0) (ty := .int) (C := RX12) (T := TX12) (N := 74) hx hb hT i_TX12 tyX12 tyX12_ok nmX12 hown hK hP hD hS 0 rfl rfl 0 (by decide) (hT _ t_1715) (fun _ h9 => h9) rfl (by decide +kernel) rfl rfl (Nat.le_of_ble_eq_true rfl) dX12_feed_2 (fun H locs hP hD hS => ?_)
      have hP : va_P D vwCl [(hm, .inr (12, [.int 0, .ref (ma 1), .int 0, .int (-1), .ref (ma 4), .int 0, .int 0, .int 0, .long 0, .int 0, .int 0, .int 0, .int 0, .long 0, .int 0, .int 0, .int 0, .ref (ma 17), .ref (ma 18), .ref (ma 19), .ref (ma 20), .ref (ma 21), .ref (ma 22), .ref (ma 23), .ref (ma 24), .ref (ma 25), .ref (ma 26), .ref (ma 27), .ref (ma 28), .ref (ma 29), .ref (ma 30), .ref (ma 31), .ref (ma 32), .ref (ma 33), .ref (ma 34), .ref (ma 35), .ref (ma 36), .ref (ma 37), .ref (ma 38), .ref (ma 39), .ref (ma 40), .ref (ma 41), .ref (ma 42), .ref (ma 43), .ref (ma 44), .ref (ma 45), .ref (ma 46), .ref (ma 47), .ref (ma 48), .int 0, .int 0, .int 0, .int 0, .int 0, .int 0, .int 0, .int 0, .int 0, .int 0, .ref (ma 59), .ref (ma 60), .int 0, .int 0, .int 0, .int 0, .int 0, .int 0, .ref (ma 67), .ref (ma 68), .ref (ma 69), .int 0, .int (-1), .int 0, .ref (ma 73)])), ((ma 1), .inl (cy 0, 1600, .inl (fun _ => 0)))] H := hP
      have hD : va_D A [(hm, .inr (12, [.int 0, .ref (ma 1), .int 0, .int (-1), .ref (ma 4), .int 0, .int 0, .int 0, .long 0, .int 0, .int 0, .int 0, .int 0, .long 0, .int 0, .int 0, .int 0, .ref (ma 17), .ref (ma 18), .ref (ma 19), .ref (ma 20), .ref (ma 21), .ref (ma 22), .ref (ma 23), .ref (ma 24), .ref (ma 25), .ref (ma 26), .ref (ma 27), .ref (ma 28), .ref (ma 29), .ref (ma 30), .ref (ma 31), .ref (ma 32), .ref (ma 33), .ref (ma 34), .ref (ma 35), .ref (ma 36), .ref (ma 37), .ref (ma 38), .ref (ma 39), .ref (ma 40), .ref (ma 41), .ref (ma 42), .ref (ma 43), .ref (ma 44), .ref (ma 45), .ref (ma 46), .ref (ma 47), .ref (ma 48), .int 0, .int 0, .int 0, .int 0, .int 0, .int 0, .int 0, .int 0, .int 0, .int 0, .ref (ma 59), .ref (ma 60), .int 0, .int 0, .int 0, .int 0, .int 0, .int 0, .ref (ma 67), .ref (ma 68), .ref (ma 69), .int 0, .int (-1), .int 0, .ref (ma 73)])), ((ma 1), .inl (cy 0, 1600, .inl (fun _ => 0)))] := hD
      refine lv_iload_n hx hb dX12_feed_5 rfl (lv_at hl 2 rfl) ?_
      refine lv_iconst (v := 1) hx hb dX12_feed_6 (by decide) ?_
      refine lv_icmp_lt (tgt := 16) hx hb dX12_feed_7 (by decide) (fun c9 => absurd c9 (by decide)) (fun _ => ?_)
      refine lv_iload_n hx hb dX12_feed_10 rfl (lv_at hl 2 rfl) ?_
      refine lv_bipush (v := 8) hx hb dX12_feed_11 (by decide) ?_
      refine lv_icmp_le (tgt := 19) hx hb dX12_feed_13 (by decide) (fun _ => ?_) (fun c9 => absurd (by decide) c9)
      refine lv_aload_n hx hb dX12_feed_19 rfl (lv_at hl 0 rfl) ?_
      refine va_get (D := D) (ci := 12) (v := .int 0) (C := RX12) (T := TX12) (N := 74) hx hb hT i_TX12 hown hK hP 0 rfl rfl 2 (by decide) (hT _ t_1717) (fun _ h9 => h9) rfl dX12_feed_20 ?_
      refine lv_iload_n hx hb dX12_feed_23 rfl (lv_at hl 2 rfl) ?_
      refine lv_iadd hx hb dX12_feed_24 ?_
      refine lv_topi (fun z256 e257 => ?_)
      obtain rfl : z256 = 7 := e257.trans (by first | decide | rfl)
      refine lv_sipush (v := 1600) hx hb dX12_feed_25 (by decide) ?_
      refine lv_icmp_le (tgt := 34) hx hb dX12_feed_28 (by decide) (fun _ => ?_) (fun c9 => absurd (by decide) c9)
      refine lv_iload_n hx hb dX12_feed_34 rfl (lv_at hl 2 rfl) ?_
      refine lv_iconst (v := 1) hx hb dX12_feed_35 (by decide) ?_
      refine lv_isub hx hb dX12_feed_36 ?_
      refine lv_topi (fun z258 e259 => ?_)
      obtain rfl : z258 = 6 := e259.trans (by first | decide | rfl)
      refine lv_istore (lv' := [(4, .int 6), (0, .ref hm), (1, .long p0), (3, .int (nI 7))]) hx hb dX12_feed_37 hl (by decide) rfl (fun ls hl => ?_)
      refine lv_iload hx hb dX12_feed_39 (lv_at hl 0 rfl) ?_
      refine lv_if_lt (tgt := 78) hx hb dX12_feed_41 (by decide) (fun c9 => absurd c9 (by decide)) (fun _ => ?_)
      refine lv_aload_n hx hb dX12_feed_44 rfl (lv_at hl 1 rfl) ?_
      refine va_get (D := D) (ci := 12) (v := .ref (ma 1)) (C := RX12) (T := TX12) (N := 74) hx hb hT i_TX12 hown hK hP 0 rfl rfl 1 (by decide) (hT _ t_1716) (fun _ h9 => h9) rfl dX12_feed_45 ?_
      refine lv_aload_n hx hb dX12_feed_48 rfl (lv_at hl 1 rfl) ?_
      refine va_get (D := D) (ci := 12) (v := .int 0) (C := RX12) (T := TX12) (N := 74) hx hb hT i_TX12 hown hK hP 0 rfl rfl 2 (by decide) (hT _ t_1717) (fun _ h9 => h9) rfl dX12_feed_49 ?_
      refine lv_lload_n hx hb dX12_feed_52 rfl (lv_at hl 2 rfl) ?_
      refine lv_bipush (v := 8) hx hb dX12_feed_53 (by decide) ?_
      refine lv_iload hx hb dX12_feed_55 (lv_at hl 0 rfl) ?_
      refine lv_imul hx hb dX12_feed_57 ?_
      refine lv_topi (fun z260 e261 => ?_)
      obtain rfl : z260 = 48 := e261.trans (by first | decide | rfl)
      refine lv_lshr hx hb dX12_feed_58 rfl ?_
      refine lv_topl (fun z262 e263 => ?_)
      refine lv_l2i hx hb dX12_feed_59 rfl ?_
      refine lv_topi (fun z264 e265 => ?_)
      refine lv_i2b hx hb dX12_feed_60 rfl ?_
      refine lv_topi (fun z266 e267 => ?_)
      refine va_bast hx hb hK hP hD hS 1 0 rfl rfl (vp_in_iff.mpr (by decide)) dX12_feed_61 (fun H locs hP hD hS => ?_)
      have hP : va_P D vwCl [(hm, .inr (12, [.int 0, .ref (ma 1), .int 0, .int (-1), .ref (ma 4), .int 0, .int 0, .int 0, .long 0, .int 0, .int 0, .int 0, .int 0, .long 0, .int 0, .int 0, .int 0, .ref (ma 17), .ref (ma 18), .ref (ma 19), .ref (ma 20), .ref (ma 21), .ref (ma 22), .ref (ma 23), .ref (ma 24), .ref (ma 25), .ref (ma 26), .ref (ma 27), .ref (ma 28), .ref (ma 29), .ref (ma 30), .ref (ma 31), .ref (ma 32), .ref (ma 33), .ref (ma 34), .ref (ma 35), .ref (ma 36), .ref (ma 37), .ref (ma 38), .ref (ma 39), .ref (ma 40), .ref (ma 41), .ref (ma 42), .ref (ma 43), .ref (ma 44), .ref (ma 45), .ref (ma 46), .ref (ma 47), .ref (ma 48), .int 0, .int 0, .int 0, .int 0, .int 0, .int 0, .int 0, .int 0, .int 0, .int 0, .ref (ma 59), .ref (ma 60), .int 0, .int 0, .int 0, .int 0, .int 0, .int 0, .ref (ma 67), .ref (ma 68), .ref (ma 69), .int 0, .int (-1), .int 0, .ref (ma 73)])), ((ma 1), .inl (cy 0, 1600, .inl (upd (fun _ => 0) (0 : Int32).toNatClampNeg (vp_nar .byte z266))))] H := hP
      have hD : va_D A [(hm, .inr (12, [.int 0, .ref (ma 1), .int 0, .int (-1), .ref (ma 4), .int 0, .int 0, .int 0, .long 0, .int 0, .int 0, .int 0, .int 0, .long 0, .int 0, .int 0, .int 0, .ref (ma 17), .ref (ma 18), .ref (ma 19), .ref (ma 20), .ref (ma 21), .ref (ma 22), .ref (ma 23), .ref (ma 24), .ref (ma 25), .ref (ma 26), .ref (ma 27), .ref (ma 28), .ref (ma 29), .ref (ma 30), .ref (ma 31), .ref (ma 32), .ref (ma 33), .ref (ma 34), .ref (ma 35), .ref (ma 36), .ref (ma 37), .ref (ma 38), .ref (ma 39), .ref (ma 40), .ref (ma 41), .ref (ma 42), .ref (ma 43), .ref (ma 44), .ref (ma 45), .ref (ma 46), .ref (ma 47), .ref (ma 48), .int 0, .int 0, .int 0, .int 0, .int 0, .int 0, .int 0, .int 0, .int 0, .int 0, .ref (ma 59), .ref (ma 60), .int 0, .int 0, .int 0, .int 0, .int 0, .int 0, .ref (ma 67), .ref (ma 68), .ref (ma 69), .int 0, .int (-1), .int 0, .ref (ma 73)])), ((ma 1), .inl (cy 0, 1600, .inl (upd (fun _ => 0) (0 : Int32).toNatClampNeg (vp_nar .byte z266))))] := hD
      generalize hff268 : (upd (fun _ => 0) (0 : Int32).toNatClampNeg (vp_nar .byte z266)) = f268 at hP hD
      refine lv_aload_n hx hb dX12_feed_62 rfl (lv_at hl 1 rfl) ?_
      refine lv_dup hx hb dX12_feed_63 rfl ?_
      refine va_get (D := D) (ci := 12) (v := .int 0) (C := RX12) (T := TX12) (N := 74) hx hb hT i_TX12 hown hK hP 0 rfl rfl 2 (by decide) (hT _ t_1717) (fun _ h9 => h9) rfl dX12_feed_64 ?_
      refine lv_iconst (v := 1) hx hb dX12_feed_67 (by decide) ?_
      refine lv_iadd hx hb dX12_feed_68 ?_
      refine lv_topi (fun z269 e270 => ?_)
      obtain rfl : z269 = 1 := e270.trans (by first | decide | rfl)
      refine va_put (D := D) (ci := 12) (v := .int 1) (ty := .int) (C := RX12) (T := TX12) (N := 74) hx hb hT i_TX12 tyX12 tyX12_ok nmX12 hown hK hP hD hS 0 rfl rfl 2 (by decide) (hT _ t_1717) (fun _ h9 => h9) rfl (by decide +kernel) rfl rfl (Nat.le_of_ble_eq_true rfl) dX12_feed_69 (fun H locs hP hD hS => ?_)
      have hP : va_P D vwCl [(hm, .inr (12, [.int 0, .ref (ma 1), .int 1, .int (-1), .ref (ma 4), .int 0, .int 0, .int 0, .long 0, .int 0, .int 0, .int 0, .int 0, .long 0, .int 0, .int 0, .int 0, .ref (ma 17), .ref (ma 18), .ref (ma 19), .ref (ma 20), .ref (ma 21), .ref (ma 22), .ref (ma 23), .ref (ma 24), .ref (ma 25), .ref (ma 26), .ref (ma 27), .ref (ma 28), .ref (ma 29), .ref (ma 30), .ref (ma 31), .ref (ma 32), .ref (ma 33), .ref (ma 34), .ref (ma 35), .ref (ma 36), .ref (ma 37), .ref (ma 38), .ref (ma 39), .ref (ma 40), .ref (ma 41), .ref (ma 42), .ref (ma 43), .ref (ma 44), .ref (ma 45), .ref (ma 46), .ref (ma 47), .ref (ma 48), .int 0, .int 0, .int 0, .int 0, .int 0, .int 0, .int 0, .int 0, .int 0, .int 0, .ref (ma 59), .ref (ma 60), .int 0, .int 0, .int 0, .int 0, .int 0, .int 0, .ref (ma 67), .ref (ma 68), .ref (ma 69), .int 0, .int (-1), .int 0, .ref (ma 73)])), ((ma 1), .inl (cy 0, 1600, .inl f268))] H := hP
      have hD : va_D A [(hm, .inr (12, [.int 0, .ref (ma 1), .int 1, .int (-1), .ref (ma 4), .int 0, .int 0, .int 0, .long 0, .int 0, .int 0, .int 0, .int 0, .long 0, .int 0, .int 0, .int 0, .ref (ma 17), .ref (ma 18), .ref (ma 19), .ref (ma 20), .ref (ma 21), .ref (ma 22), .ref (ma 23), .ref (ma 24), .ref (ma 25), .ref (ma 26), .ref (ma 27), .ref (ma 28), .ref (ma 29), .ref (ma 30), .ref (ma 31), .ref (ma 32), .ref (ma 33), .ref (ma 34), .ref (ma 35), .ref (ma 36), .ref (ma 37), .ref (ma 38), .ref (ma 39), .ref (ma 40), .ref (ma 41), .ref (ma 42), .ref (ma 43), .ref (ma 44), .ref (ma 45), .ref (ma 46), .ref (ma 47), .ref (ma 48), .int 0, .int 0, .int 0, .int 0, .int 0, .int 0, .int 0, .int 0, .int 0, .int 0, .ref (ma 59), .ref (ma 60), .int 0, .int 0, .int 0, .int 0, .int 0, .int 0, .ref (ma 67), .ref (ma 68), .ref (ma 69), .int 0, .int (-1), .int 0, .ref (ma 73)])), ((ma 1), .inl (cy 0, 1600, .inl f268))] := hD
      refine lv_iinc (v := 5) (lv' := [(4, .int 5), (0, .ref hm), (1, .long p0), (3, .int (nI 7))]) hx hb dX12_feed_72 hl (k := 0) rfl (by decide) (by decide) rfl (fun ls hl => ?_)
      refine lv_goto (tgt := 39) hx hb dX12_feed_75 (by decide) ?_
      refine lv_iload hx hb dX12_feed_39 (lv_at hl 0 rfl) ?_
      refine lv_if_lt (tgt := 78) hx hb dX12_feed_41 (by decide) (fun c9 => absurd c9 (by decide)) (fun _ => ?_)
      refine lv_aload_n hx hb dX12_feed_44 rfl (lv_at hl 1 rfl) ?_
      refine va_get (D := D) (ci := 12) (v := .ref (ma 1)) (C := RX12) (T := TX12) (N := 74) hx hb hT i_TX12 hown hK hP 0 rfl rfl 1 (by decide) (hT _ t_1716) (fun _ h9 => h9) rfl dX12_feed_45 ?_
      refine lv_aload_n hx hb dX12_feed_48 rfl (lv_at hl 1 rfl) ?_
      refine va_get (D := D) (ci := 12) (v := .int 1) (C := RX12) (T := TX12) (N := 74) hx hb hT i_TX12 hown hK hP 0 rfl rfl 2 (by decide) (hT _ t_1717) (fun _ h9 => h9) rfl dX12_feed_49 ?_
      refine lv_lload_n hx hb dX12_feed_52 rfl (lv_at hl 2 rfl) ?_
      refine lv_bipush (v := 8) hx hb dX12_feed_53 (by decide) ?_
      refine lv_iload hx hb dX12_feed_55 (lv_at hl 0 rfl) ?_
      refine lv_imul hx hb dX12_feed_57 ?_
      refine lv_topi (fun z271 e272 => ?_)
      obtain rfl : z271 = 40 := e272.trans (by first | decide | rfl)
      refine lv_lshr hx hb dX12_feed_58 rfl ?_
      refine lv_topl (fun z273 e274 => ?_)
      refine lv_l2i hx hb dX12_feed_59 rfl ?_
      refine lv_topi (fun z275 e276 => ?_)
      refine lv_i2b hx hb dX12_feed_60 rfl ?_
      refine lv_topi (fun z277 e278 => ?_)
      refine va_bast hx hb hK hP hD hS 1 0 rfl rfl (vp_in_iff.mpr (by decide)) dX12_feed_61 (fun H locs hP hD hS => ?_)
      have hP : va_P D vwCl [(hm, .inr (12, [.int 0, .ref (ma 1), .int 1, .int (-1), .ref (ma 4), .int 0, .int 0, .int 0, .long 0, .int 0, .int 0, .int 0, .int 0, .long 0, .int 0, .int 0, .int 0, .ref (ma 17), .ref (ma 18), .ref (ma 19), .ref (ma 20), .ref (ma 21), .ref (ma 22), .ref (ma 23), .ref (ma 24), .ref (ma 25), .ref (ma 26), .ref (ma 27), .ref (ma 28), .ref (ma 29), .ref (ma 30), .ref (ma 31), .ref (ma 32), .ref (ma 33), .ref (ma 34), .ref (ma 35), .ref (ma 36), .ref (ma 37), .ref (ma 38), .ref (ma 39), .ref (ma 40), .ref (ma 41), .ref (ma 42), .ref (ma 43), .ref (ma 44), .ref (ma 45), .ref (ma 46), .ref (ma 47), .ref (ma 48), .int 0, .int 0, .int 0, .int 0, .int 0, .int 0, .int 0, .int 0, .int 0, .int 0, .ref (ma 59), .ref (ma 60), .int 0, .int 0, .int 0, .int 0, .int 0, .int 0, .ref (ma 67), .ref (ma 68), .ref (ma 69), .int 0, .int (-1), .int 0, .ref (ma 73)])), ((ma 1), .inl (cy 0, 1600, .inl (upd f268 (1 : Int32).toNatClampNeg (vp_nar .byte z277))))] H := hP
      have hD : va_D A [(hm, .inr (12, [.int 0, .ref (ma 1), .int 1, .int (-1), .ref (ma 4), .int 0, .int 0, .int 0, .long 0, .int 0, .int 0, .int 0, .int 0, .long 0, .int 0, .int 0, .int 0, .ref (ma 17), .ref (ma 18), .ref (ma 19), .ref (ma 20), .ref (ma 21), .ref (ma 22), .ref (ma 23), .ref (ma 24), .ref (ma 25), .ref (ma 26), .ref (ma 27), .ref (ma 28), .ref (ma 29), .ref (ma 30), .ref (ma 31), .ref (ma 32), .ref (ma 33), .ref (ma 34), .ref (ma 35), .ref (ma 36), .ref (ma 37), .ref (ma 38), .ref (ma 39), .ref (ma 40), .ref (ma 41), .ref (ma 42), .ref (ma 43), .ref (ma 44), .ref (ma 45), .ref (ma 46), .ref (ma 47), .ref (ma 48), .int 0, .int 0, .int 0, .int 0, .int 0, .int 0, .int 0, .int 0, .int 0, .int 0, .ref (ma 59), .ref (ma 60), .int 0, .int 0, .int 0, .int 0, .int 0, .int 0, .ref (ma 67), .ref (ma 68), .ref (ma 69), .int 0, .int (-1), .int 0, .ref (ma 73)])), ((ma 1), .inl (cy 0, 1600, .inl (upd f268 (1 : Int32).toNatClampNeg (vp_nar .byte z277))))] := hD
      generalize hff279 : (upd f268 (1 : Int32).toNatClampNeg (vp_nar .byte z277)) = f279 at hP hD
      refine lv_aload_n hx hb dX12_feed_62 rfl (lv_at hl 1 rfl) ?_
      refine lv_dup hx hb dX12_feed_63 rfl ?_
      refine va_get (D := D) (ci := 12) (v := .int 1) (C := RX12) (T := TX12) (N := 74) hx hb hT i_TX12 hown hK hP 0 rfl rfl 2 (by decide) (hT _ t_1717) (fun _ h9 => h9) rfl dX12_feed_64 ?_
      refine lv_iconst (v := 1) hx hb dX12_feed_67 (by decide) ?_
      refine lv_iadd hx hb dX12_feed_68 ?_
      refine lv_topi (fun z280 e281 => ?_)
      obtain rfl : z280 = 2 := e281.trans (by first | decide | rfl)
      refine va_put (D := D) (ci := 12) (v := .int 2) (ty := .int) (C := RX12) (T := TX12) (N := 74) hx hb hT i_TX12 tyX12 tyX12_ok nmX12 hown hK hP hD hS 0 rfl rfl 2 (by decide) (hT _ t_1717) (fun _ h9 => h9) rfl (by decide +kernel) rfl rfl (Nat.le_of_ble_eq_true rfl) dX12_feed_69 (fun H locs hP hD hS => ?_)
      have hP : va_P D vwCl [(hm, .inr (12, [.int 0, .ref (ma 1), .int 2, .int (-1), .ref (ma 4), .int 0, .int 0, .int 0, .long 0, .int 0, .int 0, .int 0, .int 0, .long 0, .int 0, .int 0, .int 0, .ref (ma 17), .ref (ma 18), .ref (ma 19), .ref (ma 20), .ref (ma 21), .ref (ma 22), .ref (ma 23), .ref (ma 24), .ref (ma 25), .ref (ma 26), .ref (ma 27), .ref (ma 28), .ref (ma 29), .ref (ma 30), .ref (ma 31), .ref (ma 32), .ref (ma 33), .ref (ma 34), .ref (ma 35), .ref (ma 36), .ref (ma 37), .ref (ma 38), .ref (ma 39), .ref (ma 40), .ref (ma 41), .ref (ma 42), .ref (ma 43), .ref (ma 44), .ref (ma 45), .ref (ma 46), .ref (ma 47), .ref (ma 48), .int 0, .int 0, .int 0, .int 0, .int 0, .int 0, .int 0, .int 0, .int 0, .int 0, .ref (ma 59), .ref (ma 60), .int 0, .int 0, .int 0, .int 0, .int 0, .int 0, .ref (ma 67), .ref (ma 68), .ref (ma 69), .int 0, .int (-1), .int 0, .ref (ma 73)])), ((ma 1), .inl (cy 0, 1600, .inl f279))] H := hP
      have hD : va_D A [(hm, .inr (12, [.int 0, .ref (ma 1), .int 2, .int (-1), .ref (ma 4), .int 0, .int 0, .int 0, .long 0, .int 0, .int 0, .int 0, .int 0, .long 0, .int 0, .int 0, .int 0, .ref (ma 17), .ref (ma 18), .ref (ma 19), .ref (ma 20), .ref (ma 21), .ref (ma 22), .ref (ma 23), .ref (ma 24), .ref (ma 25), .ref (ma 26), .ref (ma 27), .ref (ma 28), .ref (ma 29), .ref (ma 30), .ref (ma 31), .ref (ma 32), .ref (ma 33), .ref (ma 34), .ref (ma 35), .ref (ma 36), .ref (ma 37), .ref (ma 38), .ref (ma 39), .ref (ma 40), .ref (ma 41), .ref (ma 42), .ref (ma 43), .ref (ma 44), .ref (ma 45), .ref (ma 46), .ref (ma 47), .ref (ma 48), .int 0, .int 0, .int 0, .int 0, .int 0, .int 0, .int 0, .int 0, .int 0, .int 0, .ref (ma 59), .ref (ma 60), .int 0, .int 0, .int 0, .int 0, .int 0, .int 0, .ref (ma 67), .ref (ma 68), .ref (ma 69), .int 0, .int (-1), .int 0, .ref (ma 73)])), ((ma 1), .inl (cy 0, 1600, .inl f279))] := hD
      refine lv_iinc (v := 4) (lv' := [(4, .int 4), (0, .ref hm), (1, .long p0), (3, .int (nI 7))]) hx hb dX12_feed_72 hl (k := 0) rfl (by decide) (by decide) rfl (fun ls hl => ?_)
      refine lv_goto (tgt := 39) hx hb dX12_feed_75 (by decide) ?_
      refine lv_iload hx hb dX12_feed_39 (lv_at hl 0 rfl) ?_
      refine lv_if_lt (tgt := 78) hx hb dX12_feed_41 (by decide) (fun c9 => absurd c9 (by decide)) (fun _ => ?_)
      refine lv_aload_n hx hb dX12_feed_44 rfl (lv_at hl 1 rfl) ?_
      refine va_get (D := D) (ci := 12) (v := .ref (ma 1)) (C := RX12) (T := TX12) (N := 74) hx hb hT i_TX12 hown hK hP 0 rfl rfl 1 (by decide) (hT _ t_1716) (fun _ h9 => h9) rfl dX12_feed_45 ?_
      refine lv_aload_n hx hb dX12_feed_48 rfl (lv_at hl 1 rfl) ?_
      refine va_get (D := D) (ci := 12) (v := .int 2) (C := RX12) (T := TX12) (N := 74) hx hb hT i_TX12 hown hK hP 0 rfl rfl 2 (by decide) (hT _ t_1717) (fun _ h9 => h9) rfl dX12_feed_49 ?_
      refine lv_lload_n hx hb dX12_feed_52 rfl (lv_at hl 2 rfl) ?_
      refine lv_bipush (v := 8) hx hb dX12_feed_53 (by decide) ?_
      refine lv_iload hx hb dX12_feed_55 (lv_at hl 0 rfl) ?_
      refine lv_imul hx hb dX12_feed_57 ?_
      refine lv_topi (fun z282 e283 => ?_)
      obtain rfl : z282 = 32 := e283.trans (by first | decide | rfl)
      refine lv_lshr hx hb dX12_feed_58 rfl ?_
      refine lv_topl (fun z284 e285 => ?_)
      refine lv_l2i hx hb dX12_feed_59 rfl ?_
      refine lv_topi (fun z286 e287 => ?_)
      refine lv_i2b hx hb dX12_feed_60 rfl ?_
      refine lv_topi (fun z288 e289 => ?_)
      refine va_bast hx hb hK hP hD hS 1 0 rfl rfl (vp_in_iff.mpr (by decide)) dX12_feed_61 (fun H locs hP hD hS => ?_)
      have hP : va_P D vwCl [(hm, .inr (12, [.int 0, .ref (ma 1), .int 2, .int (-1), .ref (ma 4), .int 0, .int 0, .int 0, .long 0, .int 0, .int 0, .int 0, .int 0, .long 0, .int 0, .int 0, .int 0, .ref (ma 17), .ref (ma 18), .ref (ma 19), .ref (ma 20), .ref (ma 21), .ref (ma 22), .ref (ma 23), .ref (ma 24), .ref (ma 25), .ref (ma 26), .ref (ma 27), .ref (ma 28), .ref (ma 29), .ref (ma 30), .ref (ma 31), .ref (ma 32), .ref (ma 33), .ref (ma 34), .ref (ma 35), .ref (ma 36), .ref (ma 37), .ref (ma 38), .ref (ma 39), .ref (ma 40), .ref (ma 41), .ref (ma 42), .ref (ma 43), .ref (ma 44), .ref (ma 45), .ref (ma 46), .ref (ma 47), .ref (ma 48), .int 0, .int 0, .int 0, .int 0, .int 0, .int 0, .int 0, .int 0, .int 0, .int 0, .ref (ma 59), .ref (ma 60), .int 0, .int 0, .int 0, .int 0, .int 0, .int 0, .ref (ma 67), .ref (ma 68), .ref (ma 69), .int 0, .int (-1), .int 0, .ref (ma 73)])), ((ma 1), .inl (cy 0, 1600, .inl (upd f279 (2 : Int32).toNatClampNeg (vp_nar .byte z288))))] H := hP
      have hD : va_D A [(hm, .inr (12, [.int 0, .ref (ma 1), .int 2, .int (-1), .ref (ma 4), .int 0, .int 0, .int 0, .long 0, .int 0, .int 0, .int 0, .int 0, .long 0, .int 0, .int 0, .int 0, .ref (ma 17), .ref (ma 18), .ref (ma 19), .ref (ma 20), .ref (ma 21), .ref (ma 22), .ref (ma 23), .ref (ma 24), .ref (ma 25), .ref (ma 26), .ref (ma 27), .ref (ma 28), .ref (ma 29), .ref (ma 30), .ref (ma 31), .ref (ma 32), .ref (ma 33), .ref (ma 34), .ref (ma 35), .ref (ma 36), .ref (ma 37), .ref (ma 38), .ref (ma 39), .ref (ma 40), .ref (ma 41), .ref (ma 42), .ref (ma 43), .ref (ma 44), .ref (ma 45), .ref (ma 46), .ref (ma 47), .ref (ma 48), .int 0, .int 0, .int 0, .int 0, .int 0, .int 0, .int 0, .int 0, .int 0, .int 0, .ref (ma 59), .ref (ma 60), .int 0, .int 0, .int 0, .int 0, .int 0, .int 0, .ref (ma 67), .ref (ma 68), .ref (ma 69), .int 0, .int (-1), .int 0, .ref (ma 73)])), ((ma 1), .inl (cy 0, 1600, .inl (upd f279 (2 : Int32).toNatClampNeg (vp_nar .byte z288))))] := hD
      generalize hff290 : (upd f279 (2 : Int32).toNatClampNeg (vp_nar .byte z288)) = f290 at hP hD
      refine lv_aload_n hx hb dX12_feed_62 rfl (lv_at hl 1 rfl) ?_
      refine lv_dup hx hb dX12_feed_63 rfl ?_
      refine va_get (D := D) (ci := 12) (v := .int 2) (C := RX12) (T := TX12) (N := 74) hx hb hT i_TX12 hown hK hP 0 rfl rfl 2 (by decide) (hT _ t_1717) (fun _ h9 => h9) rfl dX12_feed_64 ?_
      refine lv_iconst (v := 1) hx hb dX12_feed_67 (by decide) ?_
      refine lv_iadd hx hb dX12_feed_68 ?_
      refine lv_topi (fun z291 e292 => ?_)
      obtain rfl : z291 = 3 := e292.trans (by first | decide | rfl)
      refine va_put (D := D) (ci := 12) (v := .int 3) (ty := .int) (C := RX12) (T := TX12) (N := 74) hx hb hT i_TX12 tyX12 tyX12_ok nmX12 hown hK hP hD hS 0 rfl rfl 2 (by decide) (hT _ t_1717) (fun _ h9 => h9) rfl (by decide +kernel) rfl rfl (Nat.le_of_ble_eq_true rfl) dX12_feed_69 (fun H locs hP hD hS => ?_)
      have hP : va_P D vwCl [(hm, .inr (12, [.int 0, .ref (ma 1), .int 3, .int (-1), .ref (ma 4), .int 0, .int 0, .int 0, .long 0, .int 0, .int 0, .int 0, .int 0, .long 0, .int 0, .int 0, .int 0, .ref (ma 17), .ref (ma 18), .ref (ma 19), .ref (ma 20), .ref (ma 21), .ref (ma 22), .ref (ma 23), .ref (ma 24), .ref (ma 25), .ref (ma 26), .ref (ma 27), .ref (ma 28), .ref (ma 29), .ref (ma 30), .ref (ma 31), .ref (ma 32), .ref (ma 33), .ref (ma 34), .ref (ma 35), .ref (ma 36), .ref (ma 37), .ref (ma 38), .ref (ma 39), .ref (ma 40), .ref (ma 41), .ref (ma 42), .ref (ma 43), .ref (ma 44), .ref (ma 45), .ref (ma 46), .ref (ma 47), .ref (ma 48), .int 0, .int 0, .int 0, .int 0, .int 0, .int 0, .int 0, .int 0, .int 0, .int 0, .ref (ma 59), .ref (ma 60), .int 0, .int 0, .int 0, .int 0, .int 0, .int 0, .ref (ma 67), .ref (ma 68), .ref (ma 69), .int 0, .int (-1), .int 0, .ref (ma 73)])), ((ma 1), .inl (cy 0, 1600, .inl f290))] H := hP
      have hD : va_D A [(hm, .inr (12, [.int 0, .ref (ma 1), .int 3, .int (-1), .ref (ma 4), .int 0, .int 0, .int 0, .long 0, .int 0, .int 0, .int 0, .int 0, .long 0, .int 0, .int 0, .int 0, .ref (ma 17), .ref (ma 18), .ref (ma 19), .ref (ma 20), .ref (ma 21), .ref (ma 22), .ref (ma 23), .ref (ma 24), .ref (ma 25), .ref (ma 26), .ref (ma 27), .ref (ma 28), .ref (ma 29), .ref (ma 30), .ref (ma 31), .ref (ma 32), .ref (ma 33), .ref (ma 34), .ref (ma 35), .ref (ma 36), .ref (ma 37), .ref (ma 38), .ref (ma 39), .ref (ma 40), .ref (ma 41), .ref (ma 42), .ref (ma 43), .ref (ma 44), .ref (ma 45), .ref (ma 46), .ref (ma 47), .ref (ma 48), .int 0, .int 0, .int 0, .int 0, .int 0, .int 0, .int 0, .int 0, .int 0, .int 0, .ref (ma 59), .ref (ma 60), .int 0, .int 0, .int 0, .int 0, .int 0, .int 0, .ref (ma 67), .ref (ma 68), .ref (ma 69), .int 0, .int (-1), .int 0, .ref (ma 73)])), ((ma 1), .inl (cy 0, 1600, .inl f290))] := hD
      refine lv_iinc (v := 3) (lv' := [(4, .int 3), (0, .ref hm), (1, .long p0), (3, .int (nI 7))]) hx hb dX12_feed_72 hl (k := 0) rfl (by decide) (by decide) rfl (fun ls hl => ?_)
      refine lv_goto (tgt := 39) hx hb dX12_feed_75 (by decide) ?_
      refine lv_iload hx hb dX12_feed_39 (lv_at hl 0 rfl) ?_
      refine lv_if_lt (tgt := 78) hx hb dX12_feed_41 (by decide) (fun c9 => absurd c9 (by decide)) (fun _ => ?_)
      refine lv_aload_n hx hb dX12_feed_44 rfl (lv_at hl 1 rfl) ?_
      refine va_get (D := D) (ci := 12) (v := .ref (ma 1)) (C := RX12) (T := TX12) (N := 74) hx hb hT i_TX12 hown hK hP 0 rfl rfl 1 (by decide) (hT _ t_1716) (fun _ h9 => h9) rfl dX12_feed_45 ?_
      refine lv_aload_n hx hb dX12_feed_48 rfl (lv_at hl 1 rfl) ?_
      refine va_get (D := D) (ci := 12) (v := .int 3) (C := RX12) (T := TX12) (N := 74) hx hb hT i_TX12 hown hK hP 0 rfl rfl 2 (by decide) (hT _ t_1717) (fun _ h9 => h9) rfl dX12_feed_49 ?_
      refine lv_lload_n hx hb dX12_feed_52 rfl (lv_at hl 2 rfl) ?_
      refine lv_bipush (v := 8) hx hb dX12_feed_53 (by decide) ?_
      refine lv_iload hx hb dX12_feed_55 (lv_at hl 0 rfl) ?_
      refine lv_imul hx hb dX12_feed_57 ?_
      refine lv_topi (fun z293 e294 => ?_)
      obtain rfl : z293 = 24 := e294.trans (by first | decide | rfl)
      refine lv_lshr hx hb dX12_feed_58 rfl ?_
      refine lv_topl (fun z295 e296 => ?_)
      refine lv_l2i hx hb dX12_feed_59 rfl ?_
      refine lv_topi (fun z297 e298 => ?_)
      refine lv_i2b hx hb dX12_feed_60 rfl ?_
      refine lv_topi (fun z299 e300 => ?_)
      refine va_bast hx hb hK hP hD hS 1 0 rfl rfl (vp_in_iff.mpr (by decide)) dX12_feed_61 (fun H locs hP hD hS => ?_)
      have hP : va_P D vwCl [(hm, .inr (12, [.int 0, .ref (ma 1), .int 3, .int (-1), .ref (ma 4), .int 0, .int 0, .int 0, .long 0, .int 0, .int 0, .int 0, .int 0, .long 0, .int 0, .int 0, .int 0, .ref (ma 17), .ref (ma 18), .ref (ma 19), .ref (ma 20), .ref (ma 21), .ref (ma 22), .ref (ma 23), .ref (ma 24), .ref (ma 25), .ref (ma 26), .ref (ma 27), .ref (ma 28), .ref (ma 29), .ref (ma 30), .ref (ma 31), .ref (ma 32), .ref (ma 33), .ref (ma 34), .ref (ma 35), .ref (ma 36), .ref (ma 37), .ref (ma 38), .ref (ma 39), .ref (ma 40), .ref (ma 41), .ref (ma 42), .ref (ma 43), .ref (ma 44), .ref (ma 45), .ref (ma 46), .ref (ma 47), .ref (ma 48), .int 0, .int 0, .int 0, .int 0, .int 0, .int 0, .int 0, .int 0, .int 0, .int 0, .ref (ma 59), .ref (ma 60), .int 0, .int 0, .int 0, .int 0, .int 0, .int 0, .ref (ma 67), .ref (ma 68), .ref (ma 69), .int 0, .int (-1), .int 0, .ref (ma 73)])), ((ma 1), .inl (cy 0, 1600, .inl (upd f290 (3 : Int32).toNatClampNeg (vp_nar .byte z299))))] H := hP
      have hD : va_D A [(hm, .inr (12, [.int 0, .ref (ma 1), .int 3, .int (-1), .ref (ma 4), .int 0, .int 0, .int 0, .long 0, .int 0, .int 0, .int 0, .int 0, .long 0, .int 0, .int 0, .int 0, .ref (ma 17), .ref (ma 18), .ref (ma 19), .ref (ma 20), .ref (ma 21), .ref (ma 22), .ref (ma 23), .ref (ma 24), .ref (ma 25), .ref (ma 26), .ref (ma 27), .ref (ma 28), .ref (ma 29), .ref (ma 30), .ref (ma 31), .ref (ma 32), .ref (ma 33), .ref (ma 34), .ref (ma 35), .ref (ma 36), .ref (ma 37), .ref (ma 38), .ref (ma 39), .ref (ma 40), .ref (ma 41), .ref (ma 42), .ref (ma 43), .ref (ma 44), .ref (ma 45), .ref (ma 46), .ref (ma 47), .ref (ma 48), .int 0, .int 0, .int 0, .int 0, .int 0, .int 0, .int 0, .int 0, .int 0, .int 0, .ref (ma 59), .ref (ma 60), .int 0, .int 0, .int 0, .int 0, .int 0, .int 0, .ref (ma 67), .ref (ma 68), .ref (ma 69), .int 0, .int (-1), .int 0, .ref (ma 73)])), ((ma 1), .inl (cy 0, 1600, .inl (upd f290 (3 : Int32).toNatClampNeg (vp_nar .byte z299))))] := hD
      generalize hff301 : (upd f290 (3 : Int32).toNatClampNeg (vp_nar .byte z299)) = f301 at hP hD
      refine lv_aload_n hx hb dX12_feed_62 rfl (lv_at hl 1 rfl) ?_
      refine lv_dup hx hb dX12_feed_63 rfl ?_
      refine va_get (D := D) (ci := 12) (v := .int 3) (C := RX12) (T := TX12) (N := 74) hx hb hT i_TX12 hown hK hP 0 rfl rfl 2 (by decide) (hT _ t_1717) (fun _ h9 => h9) rfl dX12_feed_64 ?_
      refine lv_iconst (v := 1) hx hb dX12_feed_67 (by decide) ?_
      refine lv_iadd hx hb dX12_feed_68 ?_
      refine lv_topi (fun z302 e303 => ?_)
      obtain rfl : z302 = 4 := e303.trans (by first | decide | rfl)
      refine va_put (D := D) (ci := 12) (v := .int 4) (ty := .int) (C := RX12) (T := TX12) (N := 74) hx hb hT i_TX12 tyX12 tyX12_ok nmX12 hown hK hP hD hS 0 rfl rfl 2 (by decide) (hT _ t_1717) (fun _ h9 => h9) rfl (by decide +kernel) rfl rfl (Nat.le_of_ble_eq_true rfl) dX12_feed_69 (fun H locs hP hD hS => ?_)
      have hP : va_P D vwCl [(hm, .inr (12, [.int 0, .ref (ma 1), .int 4, .int (-1), .ref (ma 4), .int 0, .int 0, .int 0, .long 0, .int 0, .int 0, .int 0, .int 0, .long 0, .int 0, .int 0, .int 0, .ref (ma 17), .ref (ma 18), .ref (ma 19), .ref (ma 20), .ref (ma 21), .ref (ma 22), .ref (ma 23), .ref (ma 24), .ref (ma 25), .ref (ma 26), .ref (ma 27), .ref (ma 28), .ref (ma 29), .ref (ma 30), .ref (ma 31), .ref (ma 32), .ref (ma 33), .ref (ma 34), .ref (ma 35), .ref (ma 36), .ref (ma 37), .ref (ma 38), .ref (ma 39), .ref (ma 40), .ref (ma 41), .ref (ma 42), .ref (ma 43), .ref (ma 44), .ref (ma 45), .ref (ma 46), .ref (ma 47), .ref (ma 48), .int 0, .int 0, .int 0, .int 0, .int 0, .int 0, .int 0, .int 0, .int 0, .int 0, .ref (ma 59), .ref (ma 60), .int 0, .int 0, .int 0, .int 0, .int 0, .int 0, .ref (ma 67), .ref (ma 68), .ref (ma 69), .int 0, .int (-1), .int 0, .ref (ma 73)])), ((ma 1), .inl (cy 0, 1600, .inl f301))] H := hP
      have hD : va_D A [(hm, .inr (12, [.int 0, .ref (ma 1), .int 4, .int (-1), .ref (ma 4), .int 0, .int 0, .int 0, .long 0, .int 0, .int 0, .int 0, .int 0, .long 0, .int 0, .int 0, .int 0, .ref (ma 17), .ref (ma 18), .ref (ma 19), .ref (ma 20), .ref (ma 21), .ref (ma 22), .ref (ma 23), .ref (ma 24), .ref (ma 25), .ref (ma 26), .ref (ma 27), .ref (ma 28), .ref (ma 29), .ref (ma 30), .ref (ma 31), .ref (ma 32), .ref (ma 33), .ref (ma 34), .ref (ma 35), .ref (ma 36), .ref (ma 37), .ref (ma 38), .ref (ma 39), .ref (ma 40), .ref (ma 41), .ref (ma 42), .ref (ma 43), .ref (ma 44), .ref (ma 45), .ref (ma 46), .ref (ma 47), .ref (ma 48), .int 0, .int 0, .int 0, .int 0, .int 0, .int 0, .int 0, .int 0, .int 0, .int 0, .ref (ma 59), .ref (ma 60), .int 0, .int 0, .int 0, .int 0, .int 0, .int 0, .ref (ma 67), .ref (ma 68), .ref (ma 69), .int 0, .int (-1), .int 0, .ref (ma 73)])), ((ma 1), .inl (cy 0, 1600, .inl f301))] := hD
      refine lv_iinc (v := 2) (lv' := [(4, .int 2), (0, .ref hm), (1, .long p0), (3, .int (nI 7))]) hx hb dX12_feed_72 hl (k := 0) rfl (by decide) (by decide) rfl (fun ls hl => ?_)
      refine lv_goto (tgt := 39) hx hb dX12_feed_75 (by decide) ?_
      refine lv_iload hx hb dX12_feed_39 (lv_at hl 0 rfl) ?_
      refine lv_if_lt (tgt := 78) hx hb dX12_feed_41 (by decide) (fun c9 => absurd c9 (by decide)) (fun _ => ?_)
      refine lv_aload_n hx hb dX12_feed_44 rfl (lv_at hl 1 rfl) ?_
      refine va_get (D := D) (ci := 12) (v := .ref (ma 1)) (C := RX12) (T := TX12) (N := 74) hx hb hT i_TX12 hown hK hP 0 rfl rfl 1 (by decide) (hT _ t_1716) (fun _ h9 => h9) rfl dX12_feed_45 ?_
      refine lv_aload_n hx hb dX12_feed_48 rfl (lv_at hl 1 rfl) ?_
      refine va_get (D := D) (ci := 12) (v := .int 4) (C := RX12) (T := TX12) (N := 74) hx hb hT i_TX12 hown hK hP 0 rfl rfl 2 (by decide) (hT _ t_1717) (fun _ h9 => h9) rfl dX12_feed_49 ?_
      refine lv_lload_n hx hb dX12_feed_52 rfl (lv_at hl 2 rfl) ?_
      refine lv_bipush (v := 8) hx hb dX12_feed_53 (by decide) ?_
      refine lv_iload hx hb dX12_feed_55 (lv_at hl 0 rfl) ?_
      refine lv_imul hx hb dX12_feed_57 ?_
      refine lv_topi (fun z304 e305 => ?_)
      obtain rfl : z304 = 16 := e305.trans (by first | decide | rfl)
      refine lv_lshr hx hb dX12_feed_58 rfl ?_
      refine lv_topl (fun z306 e307 => ?_)
      refine lv_l2i hx hb dX12_feed_59 rfl ?_
      refine lv_topi (fun z308 e309 => ?_)
      refine lv_i2b hx hb dX12_feed_60 rfl ?_
      refine lv_topi (fun z310 e311 => ?_)
      refine va_bast hx hb hK hP hD hS 1 0 rfl rfl (vp_in_iff.mpr (by decide)) dX12_feed_61 (fun H locs hP hD hS => ?_)
      have hP : va_P D vwCl [(hm, .inr (12, [.int 0, .ref (ma 1), .int 4, .int (-1), .ref (ma 4), .int 0, .int 0, .int 0, .long 0, .int 0, .int 0, .int 0, .int 0, .long 0, .int 0, .int 0, .int 0, .ref (ma 17), .ref (ma 18), .ref (ma 19), .ref (ma 20), .ref (ma 21), .ref (ma 22), .ref (ma 23), .ref (ma 24), .ref (ma 25), .ref (ma 26), .ref (ma 27), .ref (ma 28), .ref (ma 29), .ref (ma 30), .ref (ma 31), .ref (ma 32), .ref (ma 33), .ref (ma 34), .ref (ma 35), .ref (ma 36), .ref (ma 37), .ref (ma 38), .ref (ma 39), .ref (ma 40), .ref (ma 41), .ref (ma 42), .ref (ma 43), .ref (ma 44), .ref (ma 45), .ref (ma 46), .ref (ma 47), .ref (ma 48), .int 0, .int 0, .int 0, .int 0, .int 0, .int 0, .int 0, .int 0, .int 0, .int 0, .ref (ma 59), .ref (ma 60), .int 0, .int 0, .int 0, .int 0, .int 0, .int 0, .ref (ma 67), .ref (ma 68), .ref (ma 69), .int 0, .int (-1), .int 0, .ref (ma 73)])), ((ma 1), .inl (cy 0, 1600, .inl (upd f301 (4 : Int32).toNatClampNeg (vp_nar .byte z310))))] H := hP
      have hD : va_D A [(hm, .inr (12, [.int 0, .ref (ma 1), .int 4, .int (-1), .ref (ma 4), .int 0, .int 0, .int 0, .long 0, .int 0, .int 0, .int 0, .int 0, .long 0, .int 0, .int 0, .int 0, .ref (ma 17), .ref (ma 18), .ref (ma 19), .ref (ma 20), .ref (ma 21), .ref (ma 22), .ref (ma 23), .ref (ma 24), .ref (ma 25), .ref (ma 26), .ref (ma 27), .ref (ma 28), .ref (ma 29), .ref (ma 30), .ref (ma 31), .ref (ma 32), .ref (ma 33), .ref (ma 34), .ref (ma 35), .ref (ma 36), .ref (ma 37), .ref (ma 38), .ref (ma 39), .ref (ma 40), .ref (ma 41), .ref (ma 42), .ref (ma 43), .ref (ma 44), .ref (ma 45), .ref (ma 46), .ref (ma 47), .ref (ma 48), .int 0, .int 0, .int 0, .int 0, .int 0, .int 0, .int 0, .int 0, .int 0, .int 0, .ref (ma 59), .ref (ma 60), .int 0, .int 0, .int 0, .int 0, .int 0, .int 0, .ref (ma 67), .ref (ma 68), .ref (ma 69), .int 0, .int (-1), .int 0, .ref (ma 73)])), ((ma 1), .inl (cy 0, 1600, .inl (upd f301 (4 : Int32).toNatClampNeg (vp_nar .byte z310))))] := hD
      generalize hff312 : (upd f301 (4 : Int32).toNatClampNeg (vp_nar .byte z310)) = f312 at hP hD
      refine lv_aload_n hx hb dX12_feed_62 rfl (lv_at hl 1 rfl) ?_
      refine lv_dup hx hb dX12_feed_63 rfl ?_
      refine va_get (D := D) (ci := 12) (v := .int 4) (C := RX12) (T := TX12) (N := 74) hx hb hT i_TX12 hown hK hP 0 rfl rfl 2 (by decide) (hT _ t_1717) (fun _ h9 => h9) rfl dX12_feed_64 ?_
      refine lv_iconst (v := 1) hx hb dX12_feed_67 (by decide) ?_
      refine lv_iadd hx hb dX12_feed_68 ?_
      refine lv_topi (fun z313 e314 => ?_)
      obtain rfl : z313 = 5 := e314.trans (by first | decide | rfl)
      refine va_put (D := D) (ci := 12) (v := .int 5) (ty := .int) (C := RX12) (T := TX12) (N := 74) hx hb hT i_TX12 tyX12 tyX12_ok nmX12 hown hK hP hD hS 0 rfl rfl 2 (by decide) (hT _ t_1717) (fun _ h9 => h9) rfl (by decide +kernel) rfl rfl (Nat.le_of_ble_eq_true rfl) dX12_feed_69 (fun H locs hP hD hS => ?_)
      have hP : va_P D vwCl [(hm, .inr (12, [.int 0, .ref (ma 1), .int 5, .int (-1), .ref (ma 4), .int 0, .int 0, .int 0, .long 0, .int 0, .int 0, .int 0, .int 0, .long 0, .int 0, .int 0, .int 0, .ref (ma 17), .ref (ma 18), .ref (ma 19), .ref (ma 20), .ref (ma 21), .ref (ma 22), .ref (ma 23), .ref (ma 24), .ref (ma 25), .ref (ma 26), .ref (ma 27), .ref (ma 28), .ref (ma 29), .ref (ma 30), .ref (ma 31), .ref (ma 32), .ref (ma 33), .ref (ma 34), .ref (ma 35), .ref (ma 36), .ref (ma 37), .ref (ma 38), .ref (ma 39), .ref (ma 40), .ref (ma 41), .ref (ma 42), .ref (ma 43), .ref (ma 44), .ref (ma 45), .ref (ma 46), .ref (ma 47), .ref (ma 48), .int 0, .int 0, .int 0, .int 0, .int 0, .int 0, .int 0, .int 0, .int 0, .int 0, .ref (ma 59), .ref (ma 60), .int 0, .int 0, .int 0, .int 0, .int 0, .int 0, .ref (ma 67), .ref (ma 68), .ref (ma 69), .int 0, .int (-1), .int 0, .ref (ma 73)])), ((ma 1), .inl (cy 0, 1600, .inl f312))] H := hP
      have hD : va_D A [(hm, .inr (12, [.int 0, .ref (ma 1), .int 5, .int (-1), .ref (ma 4), .int 0, .int 0, .int 0, .long 0, .int 0, .int 0, .int 0, .int 0, .long 0, .int 0, .int 0, .int 0, .ref (ma 17), .ref (ma 18), .ref (ma 19), .ref (ma 20), .ref (ma 21), .ref (ma 22), .ref (ma 23), .ref (ma 24), .ref (ma 25), .ref (ma 26), .ref (ma 27), .ref (ma 28), .ref (ma 29), .ref (ma 30), .ref (ma 31), .ref (ma 32), .ref (ma 33), .ref (ma 34), .ref (ma 35), .ref (ma 36), .ref (ma 37), .ref (ma 38), .ref (ma 39), .ref (ma 40), .ref (ma 41), .ref (ma 42), .ref (ma 43), .ref (ma 44), .ref (ma 45), .ref (ma 46), .ref (ma 47), .ref (ma 48), .int 0, .int 0, .int 0, .int 0, .int 0, .int 0, .int 0, .int 0, .int 0, .int 0, .ref (ma 59), .ref (ma 60), .int 0, .int 0, .int 0, .int 0, .int 0, .int 0, .ref (ma 67), .ref (ma 68), .ref (ma 69), .int 0, .int (-1), .int 0, .ref (ma 73)])), ((ma 1), .inl (cy 0, 1600, .inl f312))] := hD
      refine lv_iinc (v := 1) (lv' := [(4, .int 1), (0, .ref hm), (1, .long p0), (3, .int (nI 7))]) hx hb dX12_feed_72 hl (k := 0) rfl (by decide) (by decide) rfl (fun ls hl => ?_)
      refine lv_goto (tgt := 39) hx hb dX12_feed_75 (by decide) ?_
      refine lv_iload hx hb dX12_feed_39 (lv_at hl 0 rfl) ?_
      refine lv_if_lt (tgt := 78) hx hb dX12_feed_41 (by decide) (fun c9 => absurd c9 (by decide)) (fun _ => ?_)
      refine lv_aload_n hx hb dX12_feed_44 rfl (lv_at hl 1 rfl) ?_
      refine va_get (D := D) (ci := 12) (v := .ref (ma 1)) (C := RX12) (T := TX12) (N := 74) hx hb hT i_TX12 hown hK hP 0 rfl rfl 1 (by decide) (hT _ t_1716) (fun _ h9 => h9) rfl dX12_feed_45 ?_
      refine lv_aload_n hx hb dX12_feed_48 rfl (lv_at hl 1 rfl) ?_
      refine va_get (D := D) (ci := 12) (v := .int 5) (C := RX12) (T := TX12) (N := 74) hx hb hT i_TX12 hown hK hP 0 rfl rfl 2 (by decide) (hT _ t_1717) (fun _ h9 => h9) rfl dX12_feed_49 ?_
      refine lv_lload_n hx hb dX12_feed_52 rfl (lv_at hl 2 rfl) ?_
      refine lv_bipush (v := 8) hx hb dX12_feed_53 (by decide) ?_
      refine lv_iload hx hb dX12_feed_55 (lv_at hl 0 rfl) ?_
      refine lv_imul hx hb dX12_feed_57 ?_
      refine lv_topi (fun z315 e316 => ?_)
      obtain rfl : z315 = 8 := e316.trans (by first | decide | rfl)
      refine lv_lshr hx hb dX12_feed_58 rfl ?_
      refine lv_topl (fun z317 e318 => ?_)
      refine lv_l2i hx hb dX12_feed_59 rfl ?_
      refine lv_topi (fun z319 e320 => ?_)
      refine lv_i2b hx hb dX12_feed_60 rfl ?_
      refine lv_topi (fun z321 e322 => ?_)
      refine va_bast hx hb hK hP hD hS 1 0 rfl rfl (vp_in_iff.mpr (by decide)) dX12_feed_61 (fun H locs hP hD hS => ?_)
      have hP : va_P D vwCl [(hm, .inr (12, [.int 0, .ref (ma 1), .int 5, .int (-1), .ref (ma 4), .int 0, .int 0, .int 0, .long 0, .int 0, .int 0, .int 0, .int 0, .long 0, .int 0, .int 0, .int 0, .ref (ma 17), .ref (ma 18), .ref (ma 19), .ref (ma 20), .ref (ma 21), .ref (ma 22), .ref (ma 23), .ref (ma 24), .ref (ma 25), .ref (ma 26), .ref (ma 27), .ref (ma 28), .ref (ma 29), .ref (ma 30), .ref (ma 31), .ref (ma 32), .ref (ma 33), .ref (ma 34), .ref (ma 35), .ref (ma 36), .ref (ma 37), .ref (ma 38), .ref (ma 39), .ref (ma 40), .ref (ma 41), .ref (ma 42), .ref (ma 43), .ref (ma 44), .ref (ma 45), .ref (ma 46), .ref (ma 47), .ref (ma 48), .int 0, .int 0, .int 0, .int 0, .int 0, .int 0, .int 0, .int 0, .int 0, .int 0, .ref (ma 59), .ref (ma 60), .int 0, .int 0, .int 0, .int 0, .int 0, .int 0, .ref (ma 67), .ref (ma 68), .ref (ma 69), .int 0, .int (-1), .int 0, .ref (ma 73)])), ((ma 1), .inl (cy 0, 1600, .inl (upd f312 (5 : Int32).toNatClampNeg (vp_nar .byte z321))))] H := hP
      have hD : va_D A [(hm, .inr (12, [.int 0, .ref (ma 1), .int 5, .int (-1), .ref (ma 4), .int 0, .int 0, .int 0, .long 0, .int 0, .int 0, .int 0, .int 0, .long 0, .int 0, .int 0, .int 0, .ref (ma 17), .ref (ma 18), .ref (ma 19), .ref (ma 20), .ref (ma 21), .ref (ma 22), .ref (ma 23), .ref (ma 24), .ref (ma 25), .ref (ma 26), .ref (ma 27), .ref (ma 28), .ref (ma 29), .ref (ma 30), .ref (ma 31), .ref (ma 32), .ref (ma 33), .ref (ma 34), .ref (ma 35), .ref (ma 36), .ref (ma 37), .ref (ma 38), .ref (ma 39), .ref (ma 40), .ref (ma 41), .ref (ma 42), .ref (ma 43), .ref (ma 44), .ref (ma 45), .ref (ma 46), .ref (ma 47), .ref (ma 48), .int 0, .int 0, .int 0, .int 0, .int 0, .int 0, .int 0, .int 0, .int 0, .int 0, .ref (ma 59), .ref (ma 60), .int 0, .int 0, .int 0, .int 0, .int 0, .int 0, .ref (ma 67), .ref (ma 68), .ref (ma 69), .int 0, .int (-1), .int 0, .ref (ma 73)])), ((ma 1), .inl (cy 0, 1600, .inl (upd f312 (5 : Int32).toNatClampNeg (vp_nar .byte z321))))] := hD
      generalize hff323 : (upd f312 (5 : Int32).toNatClampNeg (vp_nar .byte z321)) = f323 at hP hD
      refine lv_aload_n hx hb dX12_feed_62 rfl (lv_at hl 1 rfl) ?_
      refine lv_dup hx hb dX12_feed_63 rfl ?_
      refine va_get (D := D) (ci := 12) (v := .int 5) (C := RX12) (T := TX12) (N := 74) hx hb hT i_TX12 hown hK hP 0 rfl rfl 2 (by decide) (hT _ t_1717) (fun _ h9 => h9) rfl dX12_feed_64 ?_
      refine lv_iconst (v := 1) hx hb dX12_feed_67 (by decide) ?_
      refine lv_iadd hx hb dX12_feed_68 ?_
      refine lv_topi (fun z324 e325 => ?_)
      obtain rfl : z324 = 6 := e325.trans (by first | decide | rfl)
      refine va_put (D := D) (ci := 12) (v := .int 6) (ty := .int) (C := RX12) (T := TX12) (N := 74) hx hb hT i_TX12 tyX12 tyX12_ok nmX12 hown hK hP hD hS 0 rfl rfl 2 (by decide) (hT _ t_1717) (fun _ h9 => h9) rfl (by decide +kernel) rfl rfl (Nat.le_of_ble_eq_true rfl) dX12_feed_69 (fun H locs hP hD hS => ?_)
      have hP : va_P D vwCl [(hm, .inr (12, [.int 0, .ref (ma 1), .int 6, .int (-1), .ref (ma 4), .int 0, .int 0, .int 0, .long 0, .int 0, .int 0, .int 0, .int 0, .long 0, .int 0, .int 0, .int 0, .ref (ma 17), .ref (ma 18), .ref (ma 19), .ref (ma 20), .ref (ma 21), .ref (ma 22), .ref (ma 23), .ref (ma 24), .ref (ma 25), .ref (ma 26), .ref (ma 27), .ref (ma 28), .ref (ma 29), .ref (ma 30), .ref (ma 31), .ref (ma 32), .ref (ma 33), .ref (ma 34), .ref (ma 35), .ref (ma 36), .ref (ma 37), .ref (ma 38), .ref (ma 39), .ref (ma 40), .ref (ma 41), .ref (ma 42), .ref (ma 43), .ref (ma 44), .ref (ma 45), .ref (ma 46), .ref (ma 47), .ref (ma 48), .int 0, .int 0, .int 0, .int 0, .int 0, .int 0, .int 0, .int 0, .int 0, .int 0, .ref (ma 59), .ref (ma 60), .int 0, .int 0, .int 0, .int 0, .int 0, .int 0, .ref (ma 67), .ref (ma 68), .ref (ma 69), .int 0, .int (-1), .int 0, .ref (ma 73)])), ((ma 1), .inl (cy 0, 1600, .inl f323))] H := hP
      have hD : va_D A [(hm, .inr (12, [.int 0, .ref (ma 1), .int 6, .int (-1), .ref (ma 4), .int 0, .int 0, .int 0, .long 0, .int 0, .int 0, .int 0, .int 0, .long 0, .int 0, .int 0, .int 0, .ref (ma 17), .ref (ma 18), .ref (ma 19), .ref (ma 20), .ref (ma 21), .ref (ma 22), .ref (ma 23), .ref (ma 24), .ref (ma 25), .ref (ma 26), .ref (ma 27), .ref (ma 28), .ref (ma 29), .ref (ma 30), .ref (ma 31), .ref (ma 32), .ref (ma 33), .ref (ma 34), .ref (ma 35), .ref (ma 36), .ref (ma 37), .ref (ma 38), .ref (ma 39), .ref (ma 40), .ref (ma 41), .ref (ma 42), .ref (ma 43), .ref (ma 44), .ref (ma 45), .ref (ma 46), .ref (ma 47), .ref (ma 48), .int 0, .int 0, .int 0, .int 0, .int 0, .int 0, .int 0, .int 0, .int 0, .int 0, .ref (ma 59), .ref (ma 60), .int 0, .int 0, .int 0, .int 0, .int 0, .int 0, .ref (ma 67), .ref (ma 68), .ref (ma 69), .int 0, .int (-1), .int 0, .ref (ma 73)])), ((ma 1), .inl (cy 0, 1600, .inl f323))] := hD
      refine lv_iinc (v := 0) (lv' := [(4, .int 0), (0, .ref hm), (1, .long p0), (3, .int (nI 7))]) hx hb dX12_feed_72 hl (k := 0) rfl (by decide) (by decide) rfl (fun ls hl => ?_)
      refine lv_goto (tgt := 39) hx hb dX12_feed_75 (by decide) ?_
      refine lv_iload hx hb dX12_feed_39 (lv_at hl 0 rfl) ?_
      refine lv_if_lt (tgt := 78) hx hb dX12_feed_41 (by decide) (fun c9 => absurd c9 (by decide)) (fun _ => ?_)
      refine lv_aload_n hx hb dX12_feed_44 rfl (lv_at hl 1 rfl) ?_
      refine va_get (D := D) (ci := 12) (v := .ref (ma 1)) (C := RX12) (T := TX12) (N := 74) hx hb hT i_TX12 hown hK hP 0 rfl rfl 1 (by decide) (hT _ t_1716) (fun _ h9 => h9) rfl dX12_feed_45 ?_
      refine lv_aload_n hx hb dX12_feed_48 rfl (lv_at hl 1 rfl) ?_
      refine va_get (D := D) (ci := 12) (v := .int 6) (C := RX12) (T := TX12) (N := 74) hx hb hT i_TX12 hown hK hP 0 rfl rfl 2 (by decide) (hT _ t_1717) (fun _ h9 => h9) rfl dX12_feed_49 ?_
      refine lv_lload_n hx hb dX12_feed_52 rfl (lv_at hl 2 rfl) ?_
      refine lv_bipush (v := 8) hx hb dX12_feed_53 (by decide) ?_
      refine lv_iload hx hb dX12_feed_55 (lv_at hl 0 rfl) ?_
      refine lv_imul hx hb dX12_feed_57 ?_
      refine lv_topi (fun z326 e327 => ?_)
      obtain rfl : z326 = 0 := e327.trans (by first | decide | rfl)
      refine lv_lshr hx hb dX12_feed_58 rfl ?_
      refine lv_topl (fun z328 e329 => ?_)
      refine lv_l2i hx hb dX12_feed_59 rfl ?_
      refine lv_topi (fun z330 e331 => ?_)
      refine lv_i2b hx hb dX12_feed_60 rfl ?_
      refine lv_topi (fun z332 e333 => ?_)
      refine va_bast hx hb hK hP hD hS 1 0 rfl rfl (vp_in_iff.mpr (by decide)) dX12_feed_61 (fun H locs hP hD hS => ?_)
      have hP : va_P D vwCl [(hm, .inr (12, [.int 0, .ref (ma 1), .int 6, .int (-1), .ref (ma 4), .int 0, .int 0, .int 0, .long 0, .int 0, .int 0, .int 0, .int 0, .long 0, .int 0, .int 0, .int 0, .ref (ma 17), .ref (ma 18), .ref (ma 19), .ref (ma 20), .ref (ma 21), .ref (ma 22), .ref (ma 23), .ref (ma 24), .ref (ma 25), .ref (ma 26), .ref (ma 27), .ref (ma 28), .ref (ma 29), .ref (ma 30), .ref (ma 31), .ref (ma 32), .ref (ma 33), .ref (ma 34), .ref (ma 35), .ref (ma 36), .ref (ma 37), .ref (ma 38), .ref (ma 39), .ref (ma 40), .ref (ma 41), .ref (ma 42), .ref (ma 43), .ref (ma 44), .ref (ma 45), .ref (ma 46), .ref (ma 47), .ref (ma 48), .int 0, .int 0, .int 0, .int 0, .int 0, .int 0, .int 0, .int 0, .int 0, .int 0, .ref (ma 59), .ref (ma 60), .int 0, .int 0, .int 0, .int 0, .int 0, .int 0, .ref (ma 67), .ref (ma 68), .ref (ma 69), .int 0, .int (-1), .int 0, .ref (ma 73)])), ((ma 1), .inl (cy 0, 1600, .inl (upd f323 (6 : Int32).toNatClampNeg (vp_nar .byte z332))))] H := hP
      have hD : va_D A [(hm, .inr (12, [.int 0, .ref (ma 1), .int 6, .int (-1), .ref (ma 4), .int 0, .int 0, .int 0, .long 0, .int 0, .int 0, .int 0, .int 0, .long 0, .int 0, .int 0, .int 0, .ref (ma 17), .ref (ma 18), .ref (ma 19), .ref (ma 20), .ref (ma 21), .ref (ma 22), .ref (ma 23), .ref (ma 24), .ref (ma 25), .ref (ma 26), .ref (ma 27), .ref (ma 28), .ref (ma 29), .ref (ma 30), .ref (ma 31), .ref (ma 32), .ref (ma 33), .ref (ma 34), .ref (ma 35), .ref (ma 36), .ref (ma 37), .ref (ma 38), .ref (ma 39), .ref (ma 40), .ref (ma 41), .ref (ma 42), .ref (ma 43), .ref (ma 44), .ref (ma 45), .ref (ma 46), .ref (ma 47), .ref (ma 48), .int 0, .int 0, .int 0, .int 0, .int 0, .int 0, .int 0, .int 0, .int 0, .int 0, .ref (ma 59), .ref (ma 60), .int 0, .int 0, .int 0, .int 0, .int 0, .int 0, .ref (ma 67), .ref (ma 68), .ref (ma 69), .int 0, .int (-1), .int 0, .ref (ma 73)])), ((ma 1), .inl (cy 0, 1600, .inl (upd f323 (6 : Int32).toNatClampNeg (vp_nar .byte z332))))] := hD
      generalize hff334 : (upd f323 (6 : Int32).toNatClampNeg (vp_nar .byte z332)) = f334 at hP hD
      refine lv_aload_n hx hb dX12_feed_62 rfl (lv_at hl 1 rfl) ?_
      refine lv_dup hx hb dX12_feed_63 rfl ?_
      refine va_get (D := D) (ci := 12) (v := .int 6) (C := RX12) (T := TX12) (N := 74) hx hb hT i_TX12 hown hK hP 0 rfl rfl 2 (by decide) (hT _ t_1717) (fun _ h9 => h9) rfl dX12_feed_64 ?_
      refine lv_iconst (v := 1) hx hb dX12_feed_67 (by decide) ?_
      refine lv_iadd hx hb dX12_feed_68 ?_
      refine lv_topi (fun z335 e336 => ?_)
      obtain rfl : z335 = 7 := e336.trans (by first | decide | rfl)
      refine va_put (D := D) (ci := 12) (v := .int 7) (ty := .int) (C := RX12) (T := TX12) (N := 74) hx hb hT i_TX12 tyX12 tyX12_ok nmX12 hown hK hP hD hS 0 rfl rfl 2 (by decide) (hT _ t_1717) (fun _ h9 => h9) rfl (by decide +kernel) rfl rfl (Nat.le_of_ble_eq_true rfl) dX12_feed_69 (fun H locs hP hD hS => ?_)
      have hP : va_P D vwCl [(hm, .inr (12, [.int 0, .ref (ma 1), .int 7, .int (-1), .ref (ma 4), .int 0, .int 0, .int 0, .long 0, .int 0, .int 0, .int 0, .int 0, .long 0, .int 0, .int 0, .int 0, .ref (ma 17), .ref (ma 18), .ref (ma 19), .ref (ma 20), .ref (ma 21), .ref (ma 22), .ref (ma 23), .ref (ma 24), .ref (ma 25), .ref (ma 26), .ref (ma 27), .ref (ma 28), .ref (ma 29), .ref (ma 30), .ref (ma 31), .ref (ma 32), .ref (ma 33), .ref (ma 34), .ref (ma 35), .ref (ma 36), .ref (ma 37), .ref (ma 38), .ref (ma 39), .ref (ma 40), .ref (ma 41), .ref (ma 42), .ref (ma 43), .ref (ma 44), .ref (ma 45), .ref (ma 46), .ref (ma 47), .ref (ma 48), .int 0, .int 0, .int 0, .int 0, .int 0, .int 0, .int 0, .int 0, .int 0, .int 0, .ref (ma 59), .ref (ma 60), .int 0, .int 0, .int 0, .int 0, .int 0, .int 0, .ref (ma 67), .ref (ma 68), .ref (ma 69), .int 0, .int (-1), .int 0, .ref (ma 73)])), ((ma 1), .inl (cy 0, 1600, .inl f334))] H := hP
      have hD : va_D A [(hm, .inr (12, [.int 0, .ref (ma 1), .int 7, .int (-1), .ref (ma 4), .int 0, .int 0, .int 0, .long 0, .int 0, .int 0, .int 0, .int 0, .long 0, .int 0, .int 0, .int 0, .ref (ma 17), .ref (ma 18), .ref (ma 19), .ref (ma 20), .ref (ma 21), .ref (ma 22), .ref (ma 23), .ref (ma 24), .ref (ma 25), .ref (ma 26), .ref (ma 27), .ref (ma 28), .ref (ma 29), .ref (ma 30), .ref (ma 31), .ref (ma 32), .ref (ma 33), .ref (ma 34), .ref (ma 35), .ref (ma 36), .ref (ma 37), .ref (ma 38), .ref (ma 39), .ref (ma 40), .ref (ma 41), .ref (ma 42), .ref (ma 43), .ref (ma 44), .ref (ma 45), .ref (ma 46), .ref (ma 47), .ref (ma 48), .int 0, .int 0, .int 0, .int 0, .int 0, .int 0, .int 0, .int 0, .int 0, .int 0, .ref (ma 59), .ref (ma 60), .int 0, .int 0, .int 0, .int 0, .int 0, .int 0, .ref (ma 67), .ref (ma 68), .ref (ma 69), .int 0, .int (-1), .int 0, .ref (ma 73)])), ((ma 1), .inl (cy 0, 1600, .inl f334))] := hD
      refine lv_iinc (v := (-1)) (lv' := [(4, .int (-1)), (0, .ref hm), (1, .long p0), (3, .int (nI 7))]) hx hb dX12_feed_72 hl (k := 0) rfl (by decide) (by decide) rfl (fun ls hl => ?_)
      refine lv_goto (tgt := 39) hx hb dX12_feed_75 (by decide) ?_
      refine lv_iload hx hb dX12_feed_39 (lv_at hl 0 rfl) ?_
      refine lv_if_lt (tgt := 78) hx hb dX12_feed_41 (by decide) (fun _ => ?_) (fun c9 => absurd (by decide) c9)
      refine lv_aload_n hx hb dX12_feed_78 rfl (lv_at hl 1 rfl) ?_
      refine va_get (D := D) (ci := 12) (v := .int 7) (C := RX12) (T := TX12) (N := 74) hx hb hT i_TX12 hown hK hP 0 rfl rfl 2 (by decide) (hT _ t_1717) (fun _ h9 => h9) rfl dX12_feed_79 ?_
      have hP9 := hP.sub (ws' := []) [] rfl
      have hD9 := hD.sub (ws' := []) [] (by decide) rfl
      refine W.widen (k := 0) (n := 0) (Nat.le_of_ble_eq_true rfl) (Nat.le_of_ble_eq_true rfl) ?_
      exact W.iret (v := 7) hx hb hr (fun t ht hW => ⟨⟨7, (), rfl, (by decide), by rw [ht]; exact hP9, hD9⟩, hS.F ht⟩) hS.2.2 dX12_feed_82
    · refine lv_aload_n hx hb dX12_feed_0 rfl (lv_at hl 0 rfl) ?_
      refine lv_iconst (v := 0) hx hb dX12_feed_1 (by decide) ?_
      refine va_put (D := D) (ci := 12) (v := .int 0) (ty := .int) (C := RX12) (T := TX12) (N := 74) hx hb hT i_TX12 tyX12 tyX12_ok nmX12 hown hK hP hD hS 0 rfl rfl 0 (by decide) (hT _ t_1715) (fun _ h9 => h9) rfl (by decide +kernel) rfl rfl (Nat.le_of_ble_eq_true rfl) dX12_feed_2 (fun H locs hP hD hS => ?_)
      have hP : va_P D vwCl [(hm, .inr (12, [.int 0, .ref (ma 1), .int 0, .int (-1), .ref (ma 4), .int 0, .int 0, .int 0, .long 0, .int 0, .int 0, .int 0, .int 0, .long 0, .int 0, .int 0, .int 0, .ref (ma 17), .ref (ma 18), .ref (ma 19), .ref (ma 20), .ref (ma 21), .ref (ma 22), .ref (ma 23), .ref (ma 24), .ref (ma 25), .ref (ma 26), .ref (ma 27), .ref (ma 28), .ref (ma 29), .ref (ma 30), .ref (ma 31), .ref (ma 32), .ref (ma 33), .ref (ma 34), .ref (ma 35), .ref (ma 36), .ref (ma 37), .ref (ma 38), .ref (ma 39), .ref (ma 40), .ref (ma 41), .ref (ma 42), .ref (ma 43), .ref (ma 44), .ref (ma 45), .ref (ma 46), .ref (ma 47), .ref (ma 48), .int 0, .int 0, .int 0, .int 0, .int 0, .int 0, .int 0, .int 0, .int 0, .int 0, .ref (ma 59), .ref (ma 60), .int 0, .int 0, .int 0, .int 0, .int 0, .int 0, .ref (ma 67), .ref (ma 68), .ref (ma 69), .int 0, .int (-1), .int 0, .ref (ma 73)])), ((ma 1), .inl (cy 0, 1600, .inl (fun _ => 0)))] H := hP
      have hD : va_D A [(hm, .inr (12, [.int 0, .ref (ma 1), .int 0, .int (-1), .ref (ma 4), .int 0, .int 0, .int 0, .long 0, .int 0, .int 0, .int 0, .int 0, .long 0, .int 0, .int 0, .int 0, .ref (ma 17), .ref (ma 18), .ref (ma 19), .ref (ma 20), .ref (ma 21), .ref (ma 22), .ref (ma 23), .ref (ma 24), .ref (ma 25), .ref (ma 26), .ref (ma 27), .ref (ma 28), .ref (ma 29), .ref (ma 30), .ref (ma 31), .ref (ma 32), .ref (ma 33), .ref (ma 34), .ref (ma 35), .ref (ma 36), .ref (ma 37), .ref (ma 38), .ref (ma 39), .ref (ma 40), .ref (ma 41), .ref (ma 42), .ref (ma 43), .ref (ma 44), .ref (ma 45), .ref (ma 46), .ref (ma 47), .ref (ma 48), .int 0, .int 0, .int 0, .int 0, .int 0, .int 0, .int 0, .int 0, .int 0, .int 0, .ref (ma 59), .ref (ma 60), .int 0, .int 0, .int 0, .int 0, .int 0, .int 0, .ref (ma 67), .ref (ma 68), .ref (ma 69), .int 0, .int (-1), .int 0, .ref (ma 73)])), ((ma 1), .inl (cy 0, 1600, .inl (fun _ => 0)))] := hD
      refine lv_iload_n hx hb dX12_feed_5 rfl (lv_at hl 2 rfl) ?_
      refine lv_iconst (v := 1) hx hb dX12_feed_6 (by decide) ?_
      refine lv_icmp_lt (tgt := 16) hx hb dX12_feed_7 (by decide) (fun c9 => absurd c9 (by decide)) (fun _ => ?_)
      refine lv_iload_n hx hb dX12_feed_10 rfl (lv_at hl 2 rfl) ?_
      refine lv_bipush (v := 8) hx hb dX12_feed_11 (by decide) ?_
      refine lv_icmp_le (tgt := 19) hx hb dX12_feed_13 (by decide) (fun _ => ?_) (fun c9 => absurd (by decide) c9)
      refine lv_aload_n hx hb dX12_feed_19 rfl (lv_at hl 0 rfl) ?_
      refine va_get (D := D) (ci := 12) (v := .int 0) (C := RX12) (T := TX12) (N := 74) hx hb hT i_TX12 hown hK hP 0 rfl rfl 2 (by decide) (hT _ t_1717) (fun _ h9 => h9) rfl dX12_feed_20 ?_
      refine lv_iload_n hx hb dX12_feed_23 rfl (lv_at hl 2 rfl) ?_
      refine lv_iadd hx hb dX12_feed_24 ?_
      refine lv_topi (fun z337 e338 => ?_)
      obtain rfl : z337 = 8 := e338.trans (by first | decide | rfl)
      refine lv_sipush (v := 1600) hx hb dX12_feed_25 (by decide) ?_
      refine lv_icmp_le (tgt := 34) hx hb dX12_feed_28 (by decide) (fun _ => ?_) (fun c9 => absurd (by decide) c9)
      refine lv_iload_n hx hb dX12_feed_34 rfl (lv_at hl 2 rfl) ?_
      refine lv_iconst (v := 1) hx hb dX12_feed_35 (by decide) ?_
      refine lv_isub hx hb dX12_feed_36 ?_
      refine lv_topi (fun z339 e340 => ?_)
      obtain rfl : z339 = 7 := e340.trans (by first | decide | rfl)
      refine lv_istore (lv' := [(4, .int 7), (0, .ref hm), (1, .long p0), (3, .int (nI 8))]) hx hb dX12_feed_37 hl (by decide) rfl (fun ls hl => ?_)
      refine lv_iload hx hb dX12_feed_39 (lv_at hl 0 rfl) ?_
      refine lv_if_lt (tgt := 78) hx hb dX12_feed_41 (by decide) (fun c9 => absurd c9 (by decide)) (fun _ => ?_)
      refine lv_aload_n hx hb dX12_feed_44 rfl (lv_at hl 1 rfl) ?_
      refine va_get (D := D) (ci := 12) (v := .ref (ma 1)) (C := RX12) (T := TX12) (N := 74) hx hb hT i_TX12 hown hK hP 0 rfl rfl 1 (by decide) (hT _ t_1716) (fun _ h9 => h9) rfl dX12_feed_45 ?_
      refine lv_aload_n hx hb dX12_feed_48 rfl (lv_at hl 1 rfl) ?_
      refine va_get (D := D) (ci := 12) (v := .int 0) (C := RX12) (T := TX12) (N := 74) hx hb hT i_TX12 hown hK hP 0 rfl rfl 2 (by decide) (hT _ t_1717) (fun _ h9 => h9) rfl dX12_feed_49 ?_
      refine lv_lload_n hx hb dX12_feed_52 rfl (lv_at hl 2 rfl) ?_
      refine lv_bipush (v := 8) hx hb dX12_feed_53 (by decide) ?_
      refine lv_iload hx hb dX12_feed_55 (lv_at hl 0 rfl) ?_
      refine lv_imul hx hb dX12_feed_57 ?_
      refine lv_topi (fun z341 e342 => ?_)
      obtain rfl : z341 = 56 := e342.trans (by first | decide | rfl)
      refine lv_lshr hx hb dX12_feed_58 rfl ?_
      refine lv_topl (fun z343 e344 => ?_)
      refine lv_l2i hx hb dX12_feed_59 rfl ?_
      refine lv_topi (fun z345 e346 => ?_)
      refine lv_i2b hx hb dX12_feed_60 rfl ?_
      refine lv_topi (fun z347 e348 => ?_)
      refine va_bast hx hb hK hP hD hS 1 0 rfl rfl (vp_in_iff.mpr (by decide)) dX12_feed_61 (fun H locs hP hD hS => ?_)
      have hP : va_P D vwCl [(hm, .inr (12, [.int 0, .ref (ma 1), .int 0, .int (-1), .ref (ma 4), .int 0, .int 0, .int 0, .long 0, .int 0, .int 0, .int 0, .int 0, .long 0, .int 0, .int 0, .int 0, .ref (ma 17), .ref (ma 18), .ref (ma 19), .ref (ma 20), .ref (ma 21), .ref (ma 22), .ref (ma 23), .ref (ma 24), .ref (ma 25), .ref (ma 26), .ref (ma 27), .ref (ma 28), .ref (ma 29), .ref (ma 30), .ref (ma 31), .ref (ma 32), .ref (ma 33), .ref (ma 34), .ref (ma 35), .ref (ma 36), .ref (ma 37), .ref (ma 38), .ref (ma 39), .ref (ma 40), .ref (ma 41), .ref (ma 42), .ref (ma 43), .ref (ma 44), .ref (ma 45), .ref (ma 46), .ref (ma 47), .ref (ma 48), .int 0, .int 0, .int 0, .int 0, .int 0, .int 0, .int 0, .int 0, .int 0, .int 0, .ref (ma 59), .ref (ma 60), .int 0, .int 0, .int 0, .int 0, .int 0, .int 0, .ref (ma 67), .ref (ma 68), .ref (ma 69), .int 0, .int (-1), .int 0, .ref (ma 73)])), ((ma 1), .inl (cy 0, 1600, .inl (upd (fun _ => 0) (0 : Int32).toNatClampNeg (vp_nar .byte z347))))] H := hP
      have hD : va_D A [(hm, .inr (12, [.int 0, .ref (ma 1), .int 0, .int (-1), .ref (ma 4), .int 0, .int 0, .int 0, .long 0, .int 0, .int 0, .int 0, .int 0, .long 0, .int 0, .int 0, .int 0, .ref (ma 17), .ref (ma 18), .ref (ma 19), .ref (ma 20), .ref (ma 21), .ref (ma 22), .ref (ma 23), .ref (ma 24), .ref (ma 25), .ref (ma 26), .ref (ma 27), .ref (ma 28), .ref (ma 29), .ref (ma 30), .ref (ma 31), .ref (ma 32), .ref (ma 33), .ref (ma 34), .ref (ma 35), .ref (ma 36), .ref (ma 37), .ref (ma 38), .ref (ma 39), .ref (ma 40), .ref (ma 41), .ref (ma 42), .ref (ma 43), .ref (ma 44), .ref (ma 45), .ref (ma 46), .ref (ma 47), .ref (ma 48), .int 0, .int 0, .int 0, .int 0, .int 0, .int 0, .int 0, .int 0, .int 0, .int 0, .ref (ma 59), .ref (ma 60), .int 0, .int 0, .int 0, .int 0, .int 0, .int 0, .ref (ma 67), .ref (ma 68), .ref (ma 69), .int 0, .int (-1), .int 0, .ref (ma 73)])), ((ma 1), .inl (cy 0, 1600, .inl (upd (fun _ => 0) (0 : Int32).toNatClampNeg (vp_nar .byte z347))))] := hD
      generalize hff349 : (upd (fun _ => 0) (0 : Int32).toNatClampNeg (vp_nar .byte z347)) = f349 at hP hD
      refine lv_aload_n hx hb dX12_feed_62 rfl (lv_at hl 1 rfl) ?_
      refine lv_dup hx hb dX12_feed_63 rfl ?_
      refine va_get (D := D) (ci := 12) (v := .int 0) (C := RX12) (T := TX12) (N := 74) hx hb hT i_TX12 hown hK hP 0 rfl rfl 2 (by decide) (hT _ t_1717) (fun _ h9 => h9) rfl dX12_feed_64 ?_
      refine lv_iconst (v := 1) hx hb dX12_feed_67 (by decide) ?_
      refine lv_iadd hx hb dX12_feed_68 ?_
      refine lv_topi (fun z350 e351 => ?_)
      obtain rfl : z350 = 1 := e351.trans (by first | decide | rfl)
      refine va_put (D := D) (ci := 12) (v := .int 1) (ty := .int) (C := RX12) (T := TX12) (N := 74) hx hb hT i_TX12 tyX12 tyX12_ok nmX12 hown hK hP hD hS 0 rfl rfl 2 (by decide) (hT _ t_1717) (fun _ h9 => h9) rfl (by decide +kernel) rfl rfl (Nat.le_of_ble_eq_true rfl) dX12_feed_69 (fun H locs hP hD hS => ?_)
      have hP : va_P D vwCl [(hm, .inr (12, [.int 0, .ref (ma 1), .int 1, .int (-1), .ref (ma 4), .int 0, .int 0, .int 0, .long 0, .int 0, .int 0, .int 0, .int 0, .long 0, .int 0, .int 0, .int 0, .ref (ma 17), .ref (ma 18), .ref (ma 19), .ref (ma 20), .ref (ma 21), .ref (ma 22), .ref (ma 23), .ref (ma 24), .ref (ma 25), .ref (ma 26), .ref (ma 27), .ref (ma 28), .ref (ma 29), .ref (ma 30), .ref (ma 31), .ref (ma 32), .ref (ma 33), .ref (ma 34), .ref (ma 35), .ref (ma 36), .ref (ma 37), .ref (ma 38), .ref (ma 39), .ref (ma 40), .ref (ma 41), .ref (ma 42), .ref (ma 43), .ref (ma 44), .ref (ma 45), .ref (ma 46), .ref (ma 47), .ref (ma 48), .int 0, .int 0, .int 0, .int 0, .int 0, .int 0, .int 0, .int 0, .int 0, .int 0, .ref (ma 59), .ref (ma 60), .int 0, .int 0, .int 0, .int 0, .int 0, .int 0, .ref (ma 67), .ref (ma 68), .ref (ma 69), .int 0, .int (-1), .int 0, .ref (ma 73)])), ((ma 1), .inl (cy 0, 1600, .inl f349))] H := hP
      have hD : va_D A [(hm, .inr (12, [.int 0, .ref (ma 1), .int 1, .int (-1), .ref (ma 4), .int 0, .int 0, .int 0, .long 0, .int 0, .int 0, .int 0, .int 0, .long 0, .int 0, .int 0, .int 0, .ref (ma 17), .ref (ma 18), .ref (ma 19), .ref (ma 20), .ref (ma 21), .ref (ma 22), .ref (ma 23), .ref (ma 24), .ref (ma 25), .ref (ma 26), .ref (ma 27), .ref (ma 28), .ref (ma 29), .ref (ma 30), .ref (ma 31), .ref (ma 32), .ref (ma 33), .ref (ma 34), .ref (ma 35), .ref (ma 36), .ref (ma 37), .ref (ma 38), .ref (ma 39), .ref (ma 40), .ref (ma 41), .ref (ma 42), .ref (ma 43), .ref (ma 44), .ref (ma 45), .ref (ma 46), .ref (ma 47), .ref (ma 48), .int 0, .int 0, .int 0, .int 0, .int 0, .int 0, .int 0, .int 0, .int 0, .int 0, .ref (ma 59), .ref (ma 60), .int 0, .int 0, .int 0, .int 0, .int 0, .int 0, .ref (ma 67), .ref (ma 68), .ref (ma 69), .int 0, .int (-1), .int 0, .ref (ma 73)])), ((ma 1), .inl (cy 0, 1600, .inl f349))] := hD
      refine lv_iinc (v := 6) (lv' := [(4, .int 6), (0, .ref hm), (1, .long p0), (3, .int (nI 8))]) hx hb dX12_feed_72 hl (k := 0) rfl (by decide) (by decide) rfl (fun ls hl => ?_)
      refine lv_goto (tgt := 39) hx hb dX12_feed_75 (by decide) ?_
      refine lv_iload hx hb dX12_feed_39 (lv_at hl 0 rfl) ?_
      refine lv_if_lt (tgt := 78) hx hb dX12_feed_41 (by decide) (fun c9 => absurd c9 (by decide)) (fun _ => ?_)
      refine lv_aload_n hx hb dX12_feed_44 rfl (lv_at hl 1 rfl) ?_
      refine va_get (D := D) (ci := 12) (v := .ref (ma 1)) (C := RX12) (T := TX12) (N := 74) hx hb hT i_TX12 hown hK hP 0 rfl rfl 1 (by decide) (hT _ t_1716) (fun _ h9 => h9) rfl dX12_feed_45 ?_
      refine lv_aload_n hx hb dX12_feed_48 rfl (lv_at hl 1 rfl) ?_
      refine va_get (D := D) (ci := 12) (v := .int 1) (C := RX12) (T := TX12) (N := 74) hx hb hT i_TX12 hown hK hP 0 rfl rfl 2 (by decide) (hT _ t_1717) (fun _ h9 => h9) rfl dX12_feed_49 ?_
      refine lv_lload_n hx hb dX12_feed_52 rfl (lv_at hl 2 rfl) ?_
      refine lv_bipush (v := 8) hx hb dX12_feed_53 (by decide) ?_
      refine lv_iload hx hb dX12_feed_55 (lv_at hl 0 rfl) ?_
      refine lv_imul hx hb dX12_feed_57 ?_
      refine lv_topi (fun z352 e353 => ?_)
      obtain rfl : z352 = 48 := e353.trans (by first | decide | rfl)
      refine lv_lshr hx hb dX12_feed_58 rfl ?_
      refine lv_topl (fun z354 e355 => ?_)
      refine lv_l2i hx hb dX12_feed_59 rfl ?_
      refine lv_topi (fun z356 e357 => ?_)
      refine lv_i2b hx hb dX12_feed_60 rfl ?_
      refine lv_topi (fun z358 e359 => ?_)
      refine va_bast hx hb hK hP hD hS 1 0 rfl rfl (vp_in_iff.mpr (by decide)) dX12_feed_61 (fun H locs hP hD hS => ?_)
      have hP : va_P D vwCl [(hm, .inr (12, [.int 0, .ref (ma 1), .int 1, .int (-1), .ref (ma 4), .int 0, .int 0, .int 0, .long 0, .int 0, .int 0, .int 0, .int 0, .long 0, .int 0, .int 0, .int 0, .ref (ma 17), .ref (ma 18), .ref (ma 19), .ref (ma 20), .ref (ma 21), .ref (ma 22), .ref (ma 23), .ref (ma 24), .ref (ma 25), .ref (ma 26), .ref (ma 27), .ref (ma 28), .ref (ma 29), .ref (ma 30), .ref (ma 31), .ref (ma 32), .ref (ma 33), .ref (ma 34), .ref (ma 35), .ref (ma 36), .ref (ma 37), .ref (ma 38), .ref (ma 39), .ref (ma 40), .ref (ma 41), .ref (ma 42), .ref (ma 43), .ref (ma 44), .ref (ma 45), .ref (ma 46), .ref (ma 47), .ref (ma 48), .int 0, .int 0, .int 0, .int 0, .int 0, .int 0, .int 0, .int 0, .int 0, .int 0, .ref (ma 59), .ref (ma 60), .int 0, .int 0, .int 0, .int 0, .int 0, .int 0, .ref (ma 67), .ref (ma 68), .ref (ma 69), .int 0, .int (-1), .int 0, .ref (ma 73)])), ((ma 1), .inl (cy 0, 1600, .inl (upd f349 (1 : Int32).toNatClampNeg (vp_nar .byte z358))))] H := hP
      have hD : va_D A [(hm, .inr (12, [.int 0, .ref (ma 1), .int 1, .int (-1), .ref (ma 4), .int 0, .int 0, .int 0, .long 0, .int 0, .int 0, .int 0, .int 0, .long 0, .int 0, .int 0, .int 0, .ref (ma 17), .ref (ma 18), .ref (ma 19), .ref (ma 20), .ref (ma 21), .ref (ma 22), .ref (ma 23), .ref (ma 24), .ref (ma 25), .ref (ma 26), .ref (ma 27), .ref (ma 28), .ref (ma 29), .ref (ma 30), .ref (ma 31), .ref (ma 32), .ref (ma 33), .ref (ma 34), .ref (ma 35), .ref (ma 36), .ref (ma 37), .ref (ma 38), .ref (ma 39), .ref (ma 40), .ref (ma 41), .ref (ma 42), .ref (ma 43), .ref (ma 44), .ref (ma 45), .ref (ma 46), .ref (ma 47), .ref (ma 48), .int 0, .int 0, .int 0, .int 0, .int 0, .int 0, .int 0, .int 0, .int 0, .int 0, .ref (ma 59), .ref (ma 60), .int 0, .int 0, .int 0, .int 0, .int 0, .int 0, .ref (ma 67), .ref (ma 68), .ref (ma 69), .int 0, .int (-1), .int 0, .ref (ma 73)])), ((ma 1), .inl (cy 0, 1600, .inl (upd f349 (1 : Int32).toNatClampNeg (vp_nar .byte z358))))] := hD
      generalize hff360 : (upd f349 (1 : Int32).toNatClampNeg (vp_nar .byte z358)) = f360 at hP hD
      refine lv_aload_n hx hb dX12_feed_62 rfl (lv_at hl 1 rfl) ?_
      refine lv_dup hx hb dX12_feed_63 rfl ?_
      refine va_get (D := D) (ci := 12) (v := .int 1) (C := RX12) (T := TX12) (N := 74) hx hb hT i_TX12 hown hK hP 0 rfl rfl 2 (by decide) (hT _ t_1717) (fun _ h9 => h9) rfl dX12_feed_64 ?_
      refine lv_iconst (v := 1) hx hb dX12_feed_67 (by decide) ?_
      refine lv_iadd hx hb dX12_feed_68 ?_
      refine lv_topi (fun z361 e362 => ?_)
      obtain rfl : z361 = 2 := e362.trans (by first | decide | rfl)
      refine va_put (D := D) (ci := 12) (v := .int 2) (ty := .int) (C := RX12) (T := TX12) (N := 74) hx hb hT i_TX12 tyX12 tyX12_ok nmX12 hown hK hP hD hS 0 rfl rfl 2 (by decide) (hT _ t_1717) (fun _ h9 => h9) rfl (by decide +kernel) rfl rfl (Nat.le_of_ble_eq_true rfl) dX12_feed_69 (fun H locs hP hD hS => ?_)
      have hP : va_P D vwCl [(hm, .inr (12, [.int 0, .ref (ma 1), .int 2, .int (-1), .ref (ma 4), .int 0, .int 0, .int 0, .long 0, .int 0, .int 0, .int 0, .int 0, .long 0, .int 0, .int 0, .int 0, .ref (ma 17), .ref (ma 18), .ref (ma 19), .ref (ma 20), .ref (ma 21), .ref (ma 22), .ref (ma 23), .ref (ma 24), .ref (ma 25), .ref (ma 26), .ref (ma 27), .ref (ma 28), .ref (ma 29), .ref (ma 30), .ref (ma 31), .ref (ma 32), .ref (ma 33), .ref (ma 34), .ref (ma 35), .ref (ma 36), .ref (ma 37), .ref (ma 38), .ref (ma 39), .ref (ma 40), .ref (ma 41), .ref (ma 42), .ref (ma 43), .ref (ma 44), .ref (ma 45), .ref (ma 46), .ref (ma 47), .ref (ma 48), .int 0, .int 0, .int 0, .int 0, .int 0, .int 0, .int 0, .int 0, .int 0, .int 0, .ref (ma 59), .ref (ma 60), .int 0, .int 0, .int 0, .int 0, .int 0, .int 0, .ref (ma 67), .ref (ma 68), .ref (ma 69), .int 0, .int (-1), .int 0, .ref (ma 73)])), ((ma 1), .inl (cy 0, 1600, .inl f360))] H := hP
      have hD : va_D A [(hm, .inr (12, [.int 0, .ref (ma 1), .int 2, .int (-1), .ref (ma 4), .int 0, .int 0, .int 0, .long 0, .int 0, .int 0, .int 0, .int 0, .long 0, .int 0, .int 0, .int 0, .ref (ma 17), .ref (ma 18), .ref (ma 19), .ref (ma 20), .ref (ma 21), .ref (ma 22), .ref (ma 23), .ref (ma 24), .ref (ma 25), .ref (ma 26), .ref (ma 27), .ref (ma 28), .ref (ma 29), .ref (ma 30), .ref (ma 31), .ref (ma 32), .ref (ma 33), .ref (ma 34), .ref (ma 35), .ref (ma 36), .ref (ma 37), .ref (ma 38), .ref (ma 39), .ref (ma 40), .ref (ma 41), .ref (ma 42), .ref (ma 43), .ref (ma 44), .ref (ma 45), .ref (ma 46), .ref (ma 47), .ref (ma 48), .int 0, .int 0, .int 0, .int 0, .int 0, .int 0, .int 0, .int 0, .int 0, .int 0, .ref (ma 59), .ref (ma 60), .int 0, .int 0, .int 0, .int 0, .int 0, .int 0, .ref (ma 67), .ref (ma 68), .ref (ma 69), .int 0, .int (-1), .int 0, .ref (ma 73)])), ((ma 1), .inl (cy 0, 1600, .inl f360))] := hD
      refine lv_iinc (v := 5) (lv' := [(4, .int 5), (0, .ref hm), (1, .long p0), (3, .int (nI 8))]) hx hb dX12_feed_72 hl (k := 0) rfl (by decide) (by decide) rfl (fun ls hl => ?_)
      refine lv_goto (tgt := 39) hx hb dX12_feed_75 (by decide) ?_
      refine lv_iload hx hb dX12_feed_39 (lv_at hl 0 rfl) ?_
      refine lv_if_lt (tgt := 78) hx hb dX12_feed_41 (by decide) (fun c9 => absurd c9 (by decide)) (fun _ => ?_)
      refine lv_aload_n hx hb dX12_feed_44 rfl (lv_at hl 1 rfl) ?_
      refine va_get (D := D) (ci := 12) (v := .ref (ma 1)) (C := RX12) (T := TX12) (N := 74) hx hb hT i_TX12 hown hK hP 0 rfl rfl 1 (by decide) (hT _ t_1716) (fun _ h9 => h9) rfl dX12_feed_45 ?_
      refine lv_aload_n hx hb dX12_feed_48 rfl (lv_at hl 1 rfl) ?_
      refine va_get (D := D) (ci := 12) (v := .int 2) (C := RX12) (T := TX12) (N := 74) hx hb hT i_TX12 hown hK hP 0 rfl rfl 2 (by decide) (hT _ t_1717) (fun _ h9 => h9) rfl dX12_feed_49 ?_
      refine lv_lload_n hx hb dX12_feed_52 rfl (lv_at hl 2 rfl) ?_
      refine lv_bipush (v := 8) hx hb dX12_feed_53 (by decide) ?_
      refine lv_iload hx hb dX12_feed_55 (lv_at hl 0 rfl) ?_
      refine lv_imul hx hb dX12_feed_57 ?_
      refine lv_topi (fun z363 e364 => ?_)
      obtain rfl : z363 = 40 := e364.trans (by first | decide | rfl)
      refine lv_lshr hx hb dX12_feed_58 rfl ?_
      refine lv_topl (fun z365 e366 => ?_)
      refine lv_l2i hx hb dX12_feed_59 rfl ?_
      refine lv_topi (fun z367 e368 => ?_)
      refine lv_i2b hx hb dX12_feed_60 rfl ?_
      refine lv_topi (fun z369 e370 => ?_)
      refine va_bast hx hb hK hP hD hS 1 0 rfl rfl (vp_in_iff.mpr (by decide)) dX12_feed_61 (fun H locs hP hD hS => ?_)
      have hP : va_P D vwCl [(hm, .inr (12, [.int 0, .ref (ma 1), .int 2, .int (-1), .ref (ma 4), .int 0, .int 0, .int 0, .long 0, .int 0, .int 0, .int 0, .int 0, .long 0, .int 0, .int 0, .int 0, .ref (ma 17), .ref (ma 18), .ref (ma 19), .ref (ma 20), .ref (ma 21), .ref (ma 22), .ref (ma 23), .ref (ma 24), .ref (ma 25), .ref (ma 26), .ref (ma 27), .ref (ma 28), .ref (ma 29), .ref (ma 30), .ref (ma 31), .ref (ma 32), .ref (ma 33), .ref (ma 34), .ref (ma 35), .ref (ma 36), .ref (ma 37), .ref (ma 38), .ref (ma 39), .ref (ma 40), .ref (ma 41), .ref (ma 42), .ref (ma 43), .ref (ma 44), .ref (ma 45), .ref (ma 46), .ref (ma 47), .ref (ma 48), .int 0, .int 0, .int 0, .int 0, .int 0, .int 0, .int 0, .int 0, .int 0, .int 0, .ref (ma 59), .ref (ma 60), .int 0, .int 0, .int 0, .int 0, .int 0, .int 0, .ref (ma 67), .ref (ma 68), .ref (ma 69), .int 0, .int (-1), .int 0, .ref (ma 73)])), ((ma 1), .inl (cy 0, 1600, .inl (upd f360 (2 : Int32).toNatClampNeg (vp_nar .byte z369))))] H := hP
      have hD : va_D A [(hm, .inr (12, [.int 0, .ref (ma 1), .int 2, .int (-1), .ref (ma 4), .int 0, .int 0, .int 0, .long 0, .int 0, .int 0, .int 0, .int 0, .long 0, .int 0, .int 0, .int 0, .ref (ma 17), .ref (ma 18), .ref (ma 19), .ref (ma 20), .ref (ma 21), .ref (ma 22), .ref (ma 23), .ref (ma 24), .ref (ma 25), .ref (ma 26), .ref (ma 27), .ref (ma 28), .ref (ma 29), .ref (ma 30), .ref (ma 31), .ref (ma 32), .ref (ma 33), .ref (ma 34), .ref (ma 35), .ref (ma 36), .ref (ma 37), .ref (ma 38), .ref (ma 39), .ref (ma 40), .ref (ma 41), .ref (ma 42), .ref (ma 43), .ref (ma 44), .ref (ma 45), .ref (ma 46), .ref (ma 47), .ref (ma 48), .int 0, .int 0, .int 0, .int 0, .int 0, .int 0, .int 0, .int 0, .int 0, .int 0, .ref (ma 59), .ref (ma 60), .int 0, .int 0, .int 0, .int 0, .int 0, .int 0, .ref (ma 67), .ref (ma 68), .ref (ma 69), .int 0, .int (-1), .int 0, .ref (ma 73)])), ((ma 1), .inl (cy 0, 1600, .inl (upd f360 (2 : Int32).toNatClampNeg (vp_nar .byte z369))))] := hD
      generalize hff371 : (upd f360 (2 : Int32).toNatClampNeg (vp_nar .byte z369)) = f371 at hP hD
      refine lv_aload_n hx hb dX12_feed_62 rfl (lv_at hl 1 rfl) ?_
      refine lv_dup hx hb dX12_feed_63 rfl ?_
      refine va_get (D := D) (ci := 12) (v := .int 2) (C := RX12) (T := TX12) (N := 74) hx hb hT i_TX12 hown hK hP 0 rfl rfl 2 (by decide) (hT _ t_1717) (fun _ h9 => h9) rfl dX12_feed_64 ?_
      refine lv_iconst (v := 1) hx hb dX12_feed_67 (by decide) ?_
      refine lv_iadd hx hb dX12_feed_68 ?_
      refine lv_topi (fun z372 e373 => ?_)
      obtain rfl : z372 = 3 := e373.trans (by first | decide | rfl)
      refine va_put (D := D) (ci := 12) (v := .int 3) (ty := .int) (C := RX12) (T := TX12) (N := 74) hx hb hT i_TX12 tyX12 tyX12_ok nmX12 hown hK hP hD hS 0 rfl rfl 2 (by decide) (hT _ t_1717) (fun _ h9 => h9) rfl (by decide +kernel) rfl rfl (Nat.le_of_ble_eq_true rfl) dX12_feed_69 (fun H locs hP hD hS => ?_)
      have hP : va_P D vwCl [(hm, .inr (12, [.int 0, .ref (ma 1), .int 3, .int (-1), .ref (ma 4), .int 0, .int 0, .int 0, .long 0, .int 0, .int 0, .int 0, .int 0, .long 0, .int 0, .int 0, .int 0, .ref (ma 17), .ref (ma 18), .ref (ma 19), .ref (ma 20), .ref (ma 21), .ref (ma 22), .ref (ma 23), .ref (ma 24), .ref (ma 25), .ref (ma 26), .ref (ma 27), .ref (ma 28), .ref (ma 29), .ref (ma 30), .ref (ma 31), .ref (ma 32), .ref (ma 33), .ref (ma 34), .ref (ma 35), .ref (ma 36), .ref (ma 37), .ref (ma 38), .ref (ma 39), .ref (ma 40), .ref (ma 41), .ref (ma 42), .ref (ma 43), .ref (ma 44), .ref (ma 45), .ref (ma 46), .ref (ma 47), .ref (ma 48), .int 0, .int 0, .int 0, .int 0, .int 0, .int 0, .int 0, .int 0, .int 0, .int 0, .ref (ma 59), .ref (ma 60), .int 0, .int 0, .int 0, .int 0, .int 0, .int 0, .ref (ma 67), .ref (ma 68), .ref (ma 69), .int 0, .int (-1), .int 0, .ref (ma 73)])), ((ma 1), .inl (cy 0, 1600, .inl f371))] H := hP
      have hD : va_D A [(hm, .inr (12, [.int 0, .ref (ma 1), .int 3, .int (-1), .ref (ma 4), .int 0, .int 0, .int 0, .long 0, .int 0, .int 0, .int 0, .int 0, .long 0, .int 0, .int 0, .int 0, .ref (ma 17), .ref (ma 18), .ref (ma 19), .ref (ma 20), .ref (ma 21), .ref (ma 22), .ref (ma 23), .ref (ma 24), .ref (ma 25), .ref (ma 26), .ref (ma 27), .ref (ma 28), .ref (ma 29), .ref (ma 30), .ref (ma 31), .ref (ma 32), .ref (ma 33), .ref (ma 34), .ref (ma 35), .ref (ma 36), .ref (ma 37), .ref (ma 38), .ref (ma 39), .ref (ma 40), .ref (ma 41), .ref (ma 42), .ref (ma 43), .ref (ma 44), .ref (ma 45), .ref (ma 46), .ref (ma 47), .ref (ma 48), .int 0, .int 0, .int 0, .int 0, .int 0, .int 0, .int 0, .int 0, .int 0, .int 0, .ref (ma 59), .ref (ma 60), .int 0, .int 0, .int 0, .int 0, .int 0, .int 0, .ref (ma 67), .ref (ma 68), .ref (ma 69), .int 0, .int (-1), .int 0, .ref (ma 73)])), ((ma 1), .inl (cy 0, 1600, .inl f371))] := hD
      refine lv_iinc (v := 4) (lv' := [(4, .int 4), (0, .ref hm), (1, .long p0), (3, .int (nI 8))]) hx hb dX12_feed_72 hl (k := 0) rfl (by decide) (by decide) rfl (fun ls hl => ?_)
      refine lv_goto (tgt := 39) hx hb dX12_feed_75 (by decide) ?_
      refine lv_iload hx hb dX12_feed_39 (lv_at hl 0 rfl) ?_
      refine lv_if_lt (tgt := 78) hx hb dX12_feed_41 (by decide) (fun c9 => absurd c9 (by decide)) (fun _ => ?_)
      refine lv_aload_n hx hb dX12_feed_44 rfl (lv_at hl 1 rfl) ?_
      refine va_get (D := D) (ci := 12) (v := .ref (ma 1)) (C := RX12) (T := TX12) (N := 74) hx hb hT i_TX12 hown hK hP 0 rfl rfl 1 (by decide) (hT _ t_1716) (fun _ h9 => h9) rfl dX12_feed_45 ?_
      refine lv_aload_n hx hb dX12_feed_48 rfl (lv_at hl 1 rfl) ?_
      refine va_get (D := D) (ci := 12) (v := .int 3) (C := RX12) (T := TX12) (N := 74) hx hb hT i_TX12 hown hK hP 0 rfl rfl 2 (by decide) (hT _ t_1717) (fun _ h9 => h9) rfl dX12_feed_49 ?_
      refine lv_lload_n hx hb dX12_feed_52 rfl (lv_at hl 2 rfl) ?_
      refine lv_bipush (v := 8) hx hb dX12_feed_53 (by decide) ?_
      refine lv_iload hx hb dX12_feed_55 (lv_at hl 0 rfl) ?_
      refine lv_imul hx hb dX12_feed_57 ?_
      refine lv_topi (fun z374 e375 => ?_)
      obtain rfl : z374 = 32 := e375.trans (by first | decide | rfl)
      refine lv_lshr hx hb dX12_feed_58 rfl ?_
      refine lv_topl (fun z376 e377 => ?_)
      refine lv_l2i hx hb dX12_feed_59 rfl ?_
      refine lv_topi (fun z378 e379 => ?_)
      refine lv_i2b hx hb dX12_feed_60 rfl ?_
      refine lv_topi (fun z380 e381 => ?_)
      refine va_bast hx hb hK hP hD hS 1 0 rfl rfl (vp_in_iff.mpr (by decide)) dX12_feed_61 (fun H locs hP hD hS => ?_)
      have hP : va_P D vwCl [(hm, .inr (12, [.int 0, .ref (ma 1), .int 3, .int (-1), .ref (ma 4), .int 0, .int 0, .int 0, .long 0, .int 0, .int 0, .int 0, .int 0, .long 0, .int 0, .int 0, .int 0, .ref (ma 17), .ref (ma 18), .ref (ma 19), .ref (ma 20), .ref (ma 21), .ref (ma 22), .ref (ma 23), .ref (ma 24), .ref (ma 25), .ref (ma 26), .ref (ma 27), .ref (ma 28), .ref (ma 29), .ref (ma 30), .ref (ma 31), .ref (ma 32), .ref (ma 33), .ref (ma 34), .ref (ma 35), .ref (ma 36), .ref (ma 37), .ref (ma 38), .ref (ma 39), .ref (ma 40), .ref (ma 41), .ref (ma 42), .ref (ma 43), .ref (ma 44), .ref (ma 45), .ref (ma 46), .ref (ma 47), .ref (ma 48), .int 0, .int 0, .int 0, .int 0, .int 0, .int 0, .int 0, .int 0, .int 0, .int 0, .ref (ma 59), .ref (ma 60), .int 0, .int 0, .int 0, .int 0, .int 0, .int 0, .ref (ma 67), .ref (ma 68), .ref (ma 69), .int 0, .int (-1), .int 0, .ref (ma 73)])), ((ma 1), .inl (cy 0, 1600, .inl (upd f371 (3 : Int32).toNatClampNeg (vp_nar .byte z380))))] H := hP
      have hD : va_D A [(hm, .inr (12, [.int 0, .ref (ma 1), .int 3, .int (-1), .ref (ma 4), .int 0, .int 0, .int 0, .long 0, .int 0, .int 0, .int 0, .int 0, .long 0, .int 0, .int 0, .int 0, .ref (ma 17), .ref (ma 18), .ref (ma 19), .ref (ma 20), .ref (ma 21), .ref (ma 22), .ref (ma 23), .ref (ma 24), .ref (ma 25), .ref (ma 26), .ref (ma 27), .ref (ma 28), .ref (ma 29), .ref (ma 30), .ref (ma 31), .ref (ma 32), .ref (ma 33), .ref (ma 34), .ref (ma 35), .ref (ma 36), .ref (ma 37), .ref (ma 38), .ref (ma 39), .ref (ma 40), .ref (ma 41), .ref (ma 42), .ref (ma 43), .ref (ma 44), .ref (ma 45), .ref (ma 46), .ref (ma 47), .ref (ma 48), .int 0, .int 0, .int 0, .int 0, .int 0, .int 0, .int 0, .int 0, .int 0, .int 0, .ref (ma 59), .ref (ma 60), .int 0, .int 0, .int 0, .int 0, .int 0, .int 0, .ref (ma 67), .ref (ma 68), .ref (ma 69), .int 0, .int (-1), .int 0, .ref (ma 73)])), ((ma 1), .inl (cy 0, 1600, .inl (upd f371 (3 : Int32).toNatClampNeg (vp_nar .byte z380))))] := hD
      generalize hff382 : (upd f371 (3 : Int32).toNatClampNeg (vp_nar .byte z380)) = f382 at hP hD
      refine lv_aload_n hx hb dX12_feed_62 rfl (lv_at hl 1 rfl) ?_
      refine lv_dup hx hb dX12_feed_63 rfl ?_
      refine va_get (D := D) (ci := 12) (v := .int 3) (C := RX12) (T := TX12) (N := 74) hx hb hT i_TX12 hown hK hP 0 rfl rfl 2 (by decide) (hT _ t_1717) (fun _ h9 => h9) rfl dX12_feed_64 ?_
      refine lv_iconst (v := 1) hx hb dX12_feed_67 (by decide) ?_
      refine lv_iadd hx hb dX12_feed_68 ?_
      refine lv_topi (fun z383 e384 => ?_)
      obtain rfl : z383 = 4 := e384.trans (by first | decide | rfl)
      refine va_put (D := D) (ci := 12) (v := .int 4) (ty := .int) (C := RX12) (T := TX12) (N := 74) hx hb hT i_TX12 tyX12 tyX12_ok nmX12 hown hK hP hD hS 0 rfl rfl 2 (by decide) (hT _ t_1717) (fun _ h9 => h9) rfl (by decide +kernel) rfl rfl (Nat.le_of_ble_eq_true rfl) dX12_feed_69 (fun H locs hP hD hS => ?_)
      have hP : va_P D vwCl [(hm, .inr (12, [.int 0, .ref (ma 1), .int 4, .int (-1), .ref (ma 4), .int 0, .int 0, .int 0, .long 0, .int 0, .int 0, .int 0, .int 0, .long 0, .int 0, .int 0, .int 0, .ref (ma 17), .ref (ma 18), .ref (ma 19), .ref (ma 20), .ref (ma 21), .ref (ma 22), .ref (ma 23), .ref (ma 24), .ref (ma 25), .ref (ma 26), .ref (ma 27), .ref (ma 28), .ref (ma 29), .ref (ma 30), .ref (ma 31), .ref (ma 32), .ref (ma 33), .ref (ma 34), .ref (ma 35), .ref (ma 36), .ref (ma 37), .ref (ma 38), .ref (ma 39), .ref (ma 40), .ref (ma 41), .ref (ma 42), .ref (ma 43), .ref (ma 44), .ref (ma 45), .ref (ma 46), .ref (ma 47), .ref (ma 48), .int 0, .int 0, .int 0, .int 0, .int 0, .int 0, .int 0, .int 0, .int 0, .int 0, .ref (ma 59), .ref (ma 60), .int 0, .int 0, .int 0, .int 0, .int 0, .int 0, .ref (ma 67), .ref (ma 68), .ref (ma 69), .int 0, .int (-1), .int 0, .ref (ma 73)])), ((ma 1), .inl (cy 0, 1600, .inl f382))] H := hP
      have hD : va_D A [(hm, .inr (12, [.int 0, .ref (ma 1), .int 4, .int (-1), .ref (ma 4), .int 0, .int 0, .int 0, .long 0, .int 0, .int 0, .int 0, .int 0, .long 0, .int 0, .int 0, .int 0, .ref (ma 17), .ref (ma 18), .ref (ma 19), .ref (ma 20), .ref (ma 21), .ref (ma 22), .ref (ma 23), .ref (ma 24), .ref (ma 25), .ref (ma 26), .ref (ma 27), .ref (ma 28), .ref (ma 29), .ref (ma 30), .ref (ma 31), .ref (ma 32), .ref (ma 33), .ref (ma 34), .ref (ma 35), .ref (ma 36), .ref (ma 37), .ref (ma 38), .ref (ma 39), .ref (ma 40), .ref (ma 41), .ref (ma 42), .ref (ma 43), .ref (ma 44), .ref (ma 45), .ref (ma 46), .ref (ma 47), .ref (ma 48), .int 0, .int 0, .int 0, .int 0, .int 0, .int 0, .int 0, .int 0, .int 0, .int 0, .ref (ma 59), .ref (ma 60), .int 0, .int 0, .int 0, .int 0, .int 0, .int 0, .ref (ma 67), .ref (ma 68), .ref (ma 69), .int 0, .int (-1), .int 0, .ref (ma 73)])), ((ma 1), .inl (cy 0, 1600, .inl f382))] := hD
      refine lv_iinc (v := 3) (lv' := [(4, .int 3), (0, .ref hm), (1, .long p0), (3, .int (nI 8))]) hx hb dX12_feed_72 hl (k := 0) rfl (by decide) (by decide) rfl (fun ls hl => ?_)
      refine lv_goto (tgt := 39) hx hb dX12_feed_75 (by decide) ?_
      refine lv_iload hx hb dX12_feed_39 (lv_at hl 0 rfl) ?_
      refine lv_if_lt (tgt := 78) hx hb dX12_feed_41 (by decide) (fun c9 => absurd c9 (by decide)) (fun _ => ?_)
      refine lv_aload_n hx hb dX12_feed_44 rfl (lv_at hl 1 rfl) ?_
      refine va_get (D := D) (ci := 12) (v := .ref (ma 1)) (C := RX12) (T := TX12) (N := 74) hx hb hT i_TX12 hown hK hP 0 rfl rfl 1 (by decide) (hT _ t_1716) (fun _ h9 => h9) rfl dX12_feed_45 ?_
      refine lv_aload_n hx hb dX12_feed_48 rfl (lv_at hl 1 rfl) ?_
      refine va_get (D := D) (ci := 12) (v := .int 4) (C := RX12) (T := TX12) (N := 74) hx hb hT i_TX12 hown hK hP 0 rfl rfl 2 (by decide) (hT _ t_1717) (fun _ h9 => h9) rfl dX12_feed_49 ?_
      refine lv_lload_n hx hb dX12_feed_52 rfl (lv_at hl 2 rfl) ?_
      refine lv_bipush (v := 8) hx hb dX12_feed_53 (by decide) ?_
      refine lv_iload hx hb dX12_feed_55 (lv_at hl 0 rfl) ?_
      refine lv_imul hx hb dX12_feed_57 ?_
      refine lv_topi (fun z385 e386 => ?_)
      obtain rfl : z385 = 24 := e386.trans (by first | decide | rfl)
      refine lv_lshr hx hb dX12_feed_58 rfl ?_
      refine lv_topl (fun z387 e388 => ?_)
      refine lv_l2i hx hb dX12_feed_59 rfl ?_
      refine lv_topi (fun z389 e390 => ?_)
      refine lv_i2b hx hb dX12_feed_60 rfl ?_
      refine lv_topi (fun z391 e392 => ?_)
      refine va_bast hx hb hK hP hD hS 1 0 rfl rfl (vp_in_iff.mpr (by decide)) dX12_feed_61 (fun H locs hP hD hS => ?_)
      have hP : va_P D vwCl [(hm, .inr (12, [.int 0, .ref (ma 1), .int 4, .int (-1), .ref (ma 4), .int 0, .int 0, .int 0, .long 0, .int 0, .int 0, .int 0, .int 0, .long 0, .int 0, .int 0, .int 0, .ref (ma 17), .ref (ma 18), .ref (ma 19), .ref (ma 20), .ref (ma 21), .ref (ma 22), .ref (ma 23), .ref (ma 24), .ref (ma 25), .ref (ma 26), .ref (ma 27), .ref (ma 28), .ref (ma 29), .ref (ma 30), .ref (ma 31), .ref (ma 32), .ref (ma 33), .ref (ma 34), .ref (ma 35), .ref (ma 36), .ref (ma 37), .ref (ma 38), .ref (ma 39), .ref (ma 40), .ref (ma 41), .ref (ma 42), .ref (ma 43), .ref (ma 44), .ref (ma 45), .ref (ma 46), .ref (ma 47), .ref (ma 48), .int 0, .int 0, .int 0, .int 0, .int 0, .int 0, .int 0, .int 0, .int 0, .int 0, .ref (ma 59), .ref (ma 60), .int 0, .int 0, .int 0, .int 0, .int 0, .int 0, .ref (ma 67), .ref (ma 68), .ref (ma 69), .int 0, .int (-1), .int 0, .ref (ma 73)])), ((ma 1), .inl (cy 0, 1600, .inl (upd f382 (4 : Int32).toNatClampNeg (vp_nar .byte z391))))] H := hP
      have hD : va_D A [(hm, .inr (12, [.int 0, .ref (ma 1), .int 4, .int (-1), .ref (ma 4), .int 0, .int 0, .int 0, .long 0, .int 0, .int 0, .int 0, .int 0, .long 0, .int 0, .int 0, .int 0, .ref (ma 17), .ref (ma 18), .ref (ma 19), .ref (ma 20), .ref (ma 21), .ref (ma 22), .ref (ma 23), .ref (ma 24), .ref (ma 25), .ref (ma 26), .ref (ma 27), .ref (ma 28), .ref (ma 29), .ref (ma 30), .ref (ma 31), .ref (ma 32), .ref (ma 33), .ref (ma 34), .ref (ma 35), .ref (ma 36), .ref (ma 37), .ref (ma 38), .ref (ma 39), .ref (ma 40), .ref (ma 41), .ref (ma 42), .ref (ma 43), .ref (ma 44), .ref (ma 45), .ref (ma 46), .ref (ma 47), .ref (ma 48), .int 0, .int 0, .int 0, .int 0, .int 0, .int 0, .int 0, .int 0, .int 0, .int 0, .ref (ma 59), .ref (ma 60), .int 0, .int 0, .int 0, .int 0, .int 0, .int 0, .ref (ma 67), .ref (ma 68), .ref (ma 69), .int 0, .int (-1), .int 0, .ref (ma 73)])), ((ma 1), .inl (cy 0, 1600, .inl (upd f382 (4 : Int32).toNatClampNeg (vp_nar .byte z391))))] := hD
      generalize hff393 : (upd f382 (4 : Int32).toNatClampNeg (vp_nar .byte z391)) = f393 at hP hD
      refine lv_aload_n hx hb dX12_feed_62 rfl (lv_at hl 1 rfl) ?_
      refine lv_dup hx hb dX12_feed_63 rfl ?_
      refine va_get (D := D) (ci := 12) (v := .int 4) (C := RX12) (T := TX12) (N := 74) hx hb hT i_TX12 hown hK hP 0 rfl rfl 2 (by decide) (hT _ t_1717) (fun _ h9 => h9) rfl dX12_feed_64 ?_
      refine lv_iconst (v := 1) hx hb dX12_feed_67 (by decide) ?_
      refine lv_iadd hx hb dX12_feed_68 ?_
      refine lv_topi (fun z394 e395 => ?_)
      obtain rfl : z394 = 5 := e395.trans (by first | decide | rfl)
      refine va_put (D := D) (ci := 12) (v := .int 5) (ty := .int) (C := RX12) (T := TX12) (N := 74) hx hb hT i_TX12 tyX12 tyX12_ok nmX12 hown hK hP hD hS 0 rfl rfl 2 (by decide) (hT _ t_1717) (fun _ h9 => h9) rfl (by decide +kernel) rfl rfl (Nat.le_of_ble_eq_true rfl) dX12_feed_69 (fun H locs hP hD hS => ?_)
      have hP : va_P D vwCl [(hm, .inr (12, [.int 0, .ref (ma 1), .int 5, .int (-1), .ref (ma 4), .int 0, .int 0, .int 0, .long 0, .int 0, .int 0, .int 0, .int 0, .long 0, .int 0, .int 0, .int 0, .ref (ma 17), .ref (ma 18), .ref (ma 19), .ref (ma 20), .ref (ma 21), .ref (ma 22), .ref (ma 23), .ref (ma 24), .ref (ma 25), .ref (ma 26), .ref (ma 27), .ref (ma 28), .ref (ma 29), .ref (ma 30), .ref (ma 31), .ref (ma 32), .ref (ma 33), .ref (ma 34), .ref (ma 35), .ref (ma 36), .ref (ma 37), .ref (ma 38), .ref (ma 39), .ref (ma 40), .ref (ma 41), .ref (ma 42), .ref (ma 43), .ref (ma 44), .ref (ma 45), .ref (ma 46), .ref (ma 47), .ref (ma 48), .int 0, .int 0, .int 0, .int 0, .int 0, .int 0, .int 0, .int 0, .int 0, .int 0, .ref (ma 59), .ref (ma 60), .int 0, .int 0, .int 0, .int 0, .int 0, .int 0, .ref (ma 67), .ref (ma 68), .ref (ma 69), .int 0, .int (-1), .int 0, .ref (ma 73)])), ((ma 1), .inl (cy 0, 1600, .inl f393))] H := hP
      have hD : va_D A [(hm, .inr (12, [.int 0, .ref (ma 1), .int 5, .int (-1), .ref (ma 4), .int 0, .int 0, .int 0, .long 0, .int 0, .int 0, .int 0, .int 0, .long 0, .int 0, .int 0, .int 0, .ref (ma 17), .ref (ma 18), .ref (ma 19), .ref (ma 20), .ref (ma 21), .ref (ma 22), .ref (ma 23), .ref (ma 24), .ref (ma 25), .ref (ma 26), .ref (ma 27), .ref (ma 28), .ref (ma 29), .ref (ma 30), .ref (ma 31), .ref (ma 32), .ref (ma 33), .ref (ma 34), .ref (ma 35), .ref (ma 36), .ref (ma 37), .ref (ma 38), .ref (ma 39), .ref (ma 40), .ref (ma 41), .ref (ma 42), .ref (ma 43), .ref (ma 44), .ref (ma 45), .ref (ma 46), .ref (ma 47), .ref (ma 48), .int 0, .int 0, .int 0, .int 0, .int 0, .int 0, .int 0, .int 0, .int 0, .int 0, .ref (ma 59), .ref (ma 60), .int 0, .int 0, .int 0, .int 0, .int 0, .int 0, .ref (ma 67), .ref (ma 68), .ref (ma 69), .int 0, .int (-1), .int 0, .ref (ma 73)])), ((ma 1), .inl (cy 0, 1600, .inl f393))] := hD
      refine lv_iinc (v := 2) (lv' := [(4, .int 2), (0, .ref hm), (1, .long p0), (3, .int (nI 8))]) hx hb dX12_feed_72 hl (k := 0) rfl (by decide) (by decide) rfl (fun ls hl => ?_)
      refine lv_goto (tgt := 39) hx hb dX12_feed_75 (by decide) ?_
      refine lv_iload hx hb dX12_feed_39 (lv_at hl 0 rfl) ?_
      refine lv_if_lt (tgt := 78) hx hb dX12_feed_41 (by decide) (fun c9 => absurd c9 (by decide)) (fun _ => ?_)
      refine lv_aload_n hx hb dX12_feed_44 rfl (lv_at hl 1 rfl) ?_
      refine va_get (D := D) (ci := 12) (v := .ref (ma 1)) (C := RX12) (T := TX12) (N := 74) hx hb hT i_TX12 hown hK hP 0 rfl rfl 1 (by decide) (hT _ t_1716) (fun _ h9 => h9) rfl dX12_feed_45 ?_
      refine lv_aload_n hx hb dX12_feed_48 rfl (lv_at hl 1 rfl) ?_
      refine va_get (D := D) (ci := 12) (v := .int 5) (C := RX12) (T := TX12) (N := 74) hx hb hT i_TX12 hown hK hP 0 rfl rfl 2 (by decide) (hT _ t_1717) (fun _ h9 => h9) rfl dX12_feed_49 ?_
      refine lv_lload_n hx hb dX12_feed_52 rfl (lv_at hl 2 rfl) ?_
      refine lv_bipush (v := 8) hx hb dX12_feed_53 (by decide) ?_
      refine lv_iload hx hb dX12_feed_55 (lv_at hl 0 rfl) ?_
      refine lv_imul hx hb dX12_feed_57 ?_
      refine lv_topi (fun z396 e397 => ?_)
      obtain rfl : z396 = 16 := e397.trans (by first | decide | rfl)
      refine lv_lshr hx hb dX12_feed_58 rfl ?_
      refine lv_topl (fun z398 e399 => ?_)
      refine lv_l2i hx hb dX12_feed_59 rfl ?_
      refine lv_topi (fun z400 e401 => ?_)
      refine lv_i2b hx hb dX12_feed_60 rfl ?_
      refine lv_topi (fun z402 e403 => ?_)
      refine va_bast hx hb hK hP hD hS 1 0 rfl rfl (vp_in_iff.mpr (by decide)) dX12_feed_61 (fun H locs hP hD hS => ?_)
      have hP : va_P D vwCl [(hm, .inr (12, [.int 0, .ref (ma 1), .int 5, .int (-1), .ref (ma 4), .int 0, .int 0, .int 0, .long 0, .int 0, .int 0, .int 0, .int 0, .long 0, .int 0, .int 0, .int 0, .ref (ma 17), .ref (ma 18), .ref (ma 19), .ref (ma 20), .ref (ma 21), .ref (ma 22), .ref (ma 23), .ref (ma 24), .ref (ma 25), .ref (ma 26), .ref (ma 27), .ref (ma 28), .ref (ma 29), .ref (ma 30), .ref (ma 31), .ref (ma 32), .ref (ma 33), .ref (ma 34), .ref (ma 35), .ref (ma 36), .ref (ma 37), .ref (ma 38), .ref (ma 39), .ref (ma 40), .ref (ma 41), .ref (ma 42), .ref (ma 43), .ref (ma 44), .ref (ma 45), .ref (ma 46), .ref (ma 47), .ref (ma 48), .int 0, .int 0, .int 0, .int 0, .int 0, .int 0, .int 0, .int 0, .int 0, .int 0, .ref (ma 59), .ref (ma 60), .int 0, .int 0, .int 0, .int 0, .int 0, .int 0, .ref (ma 67), .ref (ma 68), .ref (ma 69), .int 0, .int (-1), .int 0, .ref (ma 73)])), ((ma 1), .inl (cy 0, 1600, .inl (upd f393 (5 : Int32).toNatClampNeg (vp_nar .byte z402))))] H := hP
      have hD : va_D A [(hm, .inr (12, [.int 0, .ref (ma 1), .int 5, .int (-1), .ref (ma 4), .int 0, .int 0, .int 0, .long 0, .int 0, .int 0, .int 0, .int 0, .long 0, .int 0, .int 0, .int 0, .ref (ma 17), .ref (ma 18), .ref (ma 19), .ref (ma 20), .ref (ma 21), .ref (ma 22), .ref (ma 23), .ref (ma 24), .ref (ma 25), .ref (ma 26), .ref (ma 27), .ref (ma 28), .ref (ma 29), .ref (ma 30), .ref (ma 31), .ref (ma 32), .ref (ma 33), .ref (ma 34), .ref (ma 35), .ref (ma 36), .ref (ma 37), .ref (ma 38), .ref (ma 39), .ref (ma 40), .ref (ma 41), .ref (ma 42), .ref (ma 43), .ref (ma 44), .ref (ma 45), .ref (ma 46), .ref (ma 47), .ref (ma 48), .int 0, .int 0, .int 0, .int 0, .int 0, .int 0, .int 0, .int 0, .int 0, .int 0, .ref (ma 59), .ref (ma 60), .int 0, .int 0, .int 0, .int 0, .int 0, .int 0, .ref (ma 67), .ref (ma 68), .ref (ma 69), .int 0, .int (-1), .int 0, .ref (ma 73)])), ((ma 1), .inl (cy 0, 1600, .inl (upd f393 (5 : Int32).toNatClampNeg (vp_nar .byte z402))))] := hD
      generalize hff404 : (upd f393 (5 : Int32).toNatClampNeg (vp_nar .byte z402)) = f404 at hP hD
      refine lv_aload_n hx hb dX12_feed_62 rfl (lv_at hl 1 rfl) ?_
      refine lv_dup hx hb dX12_feed_63 rfl ?_
      refine va_get (D := D) (ci := 12) (v := .int 5) (C := RX12) (T := TX12) (N := 74) hx hb hT i_TX12 hown hK hP 0 rfl rfl 2 (by decide) (hT _ t_1717) (fun _ h9 => h9) rfl dX12_feed_64 ?_
      refine lv_iconst (v := 1) hx hb dX12_feed_67 (by decide) ?_
      refine lv_iadd hx hb dX12_feed_68 ?_
      refine lv_topi (fun z405 e406 => ?_)
      obtain rfl : z405 = 6 := e406.trans (by first | decide | rfl)
      refine va_put (D := D) (ci := 12) (v := .int 6) (ty := .int) (C := RX12) (T := TX12) (N := 74) hx hb hT i_TX12 tyX12 tyX12_ok nmX12 hown hK hP hD hS 0 rfl rfl 2 (by decide) (hT _ t_1717) (fun _ h9 => h9) rfl (by decide +kernel) rfl rfl (Nat.le_of_ble_eq_true rfl) dX12_feed_69 (fun H locs hP hD hS => ?_)
      have hP : va_P D vwCl [(hm, .inr (12, [.int 0, .ref (ma 1), .int 6, .int (-1), .ref (ma 4), .int 0, .int 0, .int 0, .long 0, .int 0, .int 0, .int 0, .int 0, .long 0, .int 0, .int 0, .int 0, .ref (ma 17), .ref (ma 18), .ref (ma 19), .ref (ma 20), .ref (ma 21), .ref (ma 22), .ref (ma 23), .ref (ma 24), .ref (ma 25), .ref (ma 26), .ref (ma 27), .ref (ma 28), .ref (ma 29), .ref (ma 30), .ref (ma 31), .ref (ma 32), .ref (ma 33), .ref (ma 34), .ref (ma 35), .ref (ma 36), .ref (ma 37), .ref (ma 38), .ref (ma 39), .ref (ma 40), .ref (ma 41), .ref (ma 42), .ref (ma 43), .ref (ma 44), .ref (ma 45), .ref (ma 46), .ref (ma 47), .ref (ma 48), .int 0, .int 0, .int 0, .int 0, .int 0, .int 0, .int 0, .int 0, .int 0, .int 0, .ref (ma 59), .ref (ma 60), .int 0, .int 0, .int 0, .int 0, .int 0, .int 0, .ref (ma 67), .ref (ma 68), .ref (ma 69), .int 0, .int (-1), .int 0, .ref (ma 73)])), ((ma 1), .inl (cy 0, 1600, .inl f404))] H := hP
      have hD : va_D A [(hm, .inr (12, [.int 0, .ref (ma 1), .int 6, .int (-1), .ref (ma 4), .int 0, .int 0, .int 0, .long 0, .int 0, .int 0, .int 0, .int 0, .long 0, .int 0, .int 0, .int 0, .ref (ma 17), .ref (ma 18), .ref (ma 19), .ref (ma 20), .ref (ma 21), .ref (ma 22), .ref (ma 23), .ref (ma 24), .ref (ma 25), .ref (ma 26), .ref (ma 27), .ref (ma 28), .ref (ma 29), .ref (ma 30), .ref (ma 31), .ref (ma 32), .ref (ma 33), .ref (ma 34), .ref (ma 35), .ref (ma 36), .ref (ma 37), .ref (ma 38), .ref (ma 39), .ref (ma 40), .ref (ma 41), .ref (ma 42), .ref (ma 43), .ref (ma 44), .ref (ma 45), .ref (ma 46), .ref (ma 47), .ref (ma 48), .int 0, .int 0, .int 0, .int 0, .int 0, .int 0, .int 0, .int 0, .int 0, .int 0, .ref (ma 59), .ref (ma 60), .int 0, .int 0, .int 0, .int 0, .int 0, .int 0, .ref (ma 67), .ref (ma 68), .ref (ma 69), .int 0, .int (-1), .int 0, .ref (ma 73)])), ((ma 1), .inl (cy 0, 1600, .inl f404))] := hD
      refine lv_iinc (v := 1) (lv' := [(4, .int 1), (0, .ref hm), (1, .long p0), (3, .int (nI 8))]) hx hb dX12_feed_72 hl (k := 0) rfl (by decide) (by decide) rfl (fun ls hl => ?_)
      refine lv_goto (tgt := 39) hx hb dX12_feed_75 (by decide) ?_
      refine lv_iload hx hb dX12_feed_39 (lv_at hl 0 rfl) ?_
      refine lv_if_lt (tgt := 78) hx hb dX12_feed_41 (by decide) (fun c9 => absurd c9 (by decide)) (fun _ => ?_)
      refine lv_aload_n hx hb dX12_feed_44 rfl (lv_at hl 1 rfl) ?_
      refine va_get (D := D) (ci := 12) (v := .ref (ma 1)) (C := RX12) (T := TX12) (N := 74) hx hb hT i_TX12 hown hK hP 0 rfl rfl 1 (by decide) (hT _ t_1716) (fun _ h9 => h9) rfl dX12_feed_45 ?_
      refine lv_aload_n hx hb dX12_feed_48 rfl (lv_at hl 1 rfl) ?_
      refine va_get (D := D) (ci := 12) (v := .int 6) (C := RX12) (T := TX12) (N := 74) hx hb hT i_TX12 hown hK hP 0 rfl rfl 2 (by decide) (hT _ t_1717) (fun _ h9 => h9) rfl dX12_feed_49 ?_
      refine lv_lload_n hx hb dX12_feed_52 rfl (lv_at hl 2 rfl) ?_
      refine lv_bipush (v := 8) hx hb dX12_feed_53 (by decide) ?_
      refine lv_iload hx hb dX12_feed_55 (lv_at hl 0 rfl) ?_
      refine lv_imul hx hb dX12_feed_57 ?_
      refine lv_topi (fun z407 e408 => ?_)
      obtain rfl : z407 = 8 := e408.trans (by first | decide | rfl)
      refine lv_lshr hx hb dX12_feed_58 rfl ?_
      refine lv_topl (fun z409 e410 => ?_)
      refine lv_l2i hx hb dX12_feed_59 rfl ?_
      refine lv_topi (fun z411 e412 => ?_)
      refine lv_i2b hx hb dX12_feed_60 rfl ?_
      refine lv_topi (fun z413 e414 => ?_)
      refine va_bast hx hb hK hP hD hS 1 0 rfl rfl (vp_in_iff.mpr (by decide)) dX12_feed_61 (fun H locs hP hD hS => ?_)
      have hP : va_P D vwCl [(hm, .inr (12, [.int 0, .ref (ma 1), .int 6, .int (-1), .ref (ma 4), .int 0, .int 0, .int 0, .long 0, .int 0, .int 0, .int 0, .int 0, .long 0, .int 0, .int 0, .int 0, .ref (ma 17), .ref (ma 18), .ref (ma 19), .ref (ma 20), .ref (ma 21), .ref (ma 22), .ref (ma 23), .ref (ma 24), .ref (ma 25), .ref (ma 26), .ref (ma 27), .ref (ma 28), .ref (ma 29), .ref (ma 30), .ref (ma 31), .ref (ma 32), .ref (ma 33), .ref (ma 34), .ref (ma 35), .ref (ma 36), .ref (ma 37), .ref (ma 38), .ref (ma 39), .ref (ma 40), .ref (ma 41), .ref (ma 42), .ref (ma 43), .ref (ma 44), .ref (ma 45), .ref (ma 46), .ref (ma 47), .ref (ma 48), .int 0, .int 0, .int 0, .int 0, .int 0, .int 0, .int 0, .int 0, .int 0, .int 0, .ref (ma 59), .ref (ma 60), .int 0, .int 0, .int 0, .int 0, .int 0, .int 0, .ref (ma 67), .ref (ma 68), .ref (ma 69), .int 0, .int (-1), .int 0, .ref (ma 73)])), ((ma 1), .inl (cy 0, 1600, .inl (upd f404 (6 : Int32).toNatClampNeg (vp_nar .byte z413))))] H := hP
      have hD : va_D A [(hm, .inr (12, [.int 0, .ref (ma 1), .int 6, .int (-1), .ref (ma 4), .int 0, .int 0, .int 0, .long 0, .int 0, .int 0, .int 0, .int 0, .long 0, .int 0, .int 0, .int 0, .ref (ma 17), .ref (ma 18), .ref (ma 19), .ref (ma 20), .ref (ma 21), .ref (ma 22), .ref (ma 23), .ref (ma 24), .ref (ma 25), .ref (ma 26), .ref (ma 27), .ref (ma 28), .ref (ma 29), .ref (ma 30), .ref (ma 31), .ref (ma 32), .ref (ma 33), .ref (ma 34), .ref (ma 35), .ref (ma 36), .ref (ma 37), .ref (ma 38), .ref (ma 39), .ref (ma 40), .ref (ma 41), .ref (ma 42), .ref (ma 43), .ref (ma 44), .ref (ma 45), .ref (ma 46), .ref (ma 47), .ref (ma 48), .int 0, .int 0, .int 0, .int 0, .int 0, .int 0, .int 0, .int 0, .int 0, .int 0, .ref (ma 59), .ref (ma 60), .int 0, .int 0, .int 0, .int 0, .int 0, .int 0, .ref (ma 67), .ref (ma 68), .ref (ma 69), .int 0, .int (-1), .int 0, .ref (ma 73)])), ((ma 1), .inl (cy 0, 1600, .inl (upd f404 (6 : Int32).toNatClampNeg (vp_nar .byte z413))))] := hD
      generalize hff415 : (upd f404 (6 : Int32).toNatClampNeg (vp_nar .byte z413)) = f415 at hP hD
      refine lv_aload_n hx hb dX12_feed_62 rfl (lv_at hl 1 rfl) ?_
      refine lv_dup hx hb dX12_feed_63 rfl ?_
      refine va_get (D := D) (ci := 12) (v := .int 6) (C := RX12) (T := TX12) (N := 74) hx hb hT i_TX12 hown hK hP 0 rfl rfl 2 (by decide) (hT _ t_1717) (fun _ h9 => h9) rfl dX12_feed_64 ?_
      refine lv_iconst (v := 1) hx hb dX12_feed_67 (by decide) ?_
      refine lv_iadd hx hb dX12_feed_68 ?_
      refine lv_topi (fun z416 e417 => ?_)
      obtain rfl : z416 = 7 := e417.trans (by first | decide | rfl)
      refine va_put (D := D) (ci := 12) (v := .int 7) (ty := .int) (C := RX12) (T := TX12) (N := 74) hx hb hT i_TX12 tyX12 tyX12_ok nmX12 hown hK hP hD hS 0 rfl rfl 2 (by decide) (hT _ t_1717) (fun _ h9 => h9) rfl (by decide +kernel) rfl rfl (Nat.le_of_ble_eq_true rfl) dX12_feed_69 (fun H locs hP hD hS => ?_)
      have hP : va_P D vwCl [(hm, .inr (12, [.int 0, .ref (ma 1), .int 7, .int (-1), .ref (ma 4), .int 0, .int 0, .int 0, .long 0, .int 0, .int 0, .int 0, .int 0, .long 0, .int 0, .int 0, .int 0, .ref (ma 17), .ref (ma 18), .ref (ma 19), .ref (ma 20), .ref (ma 21), .ref (ma 22), .ref (ma 23), .ref (ma 24), .ref (ma 25), .ref (ma 26), .ref (ma 27), .ref (ma 28), .ref (ma 29), .ref (ma 30), .ref (ma 31), .ref (ma 32), .ref (ma 33), .ref (ma 34), .ref (ma 35), .ref (ma 36), .ref (ma 37), .ref (ma 38), .ref (ma 39), .ref (ma 40), .ref (ma 41), .ref (ma 42), .ref (ma 43), .ref (ma 44), .ref (ma 45), .ref (ma 46), .ref (ma 47), .ref (ma 48), .int 0, .int 0, .int 0, .int 0, .int 0, .int 0, .int 0, .int 0, .int 0, .int 0, .ref (ma 59), .ref (ma 60), .int 0, .int 0, .int 0, .int 0, .int 0, .int 0, .ref (ma 67), .ref (ma 68), .ref (ma 69), .int 0, .int (-1), .int 0, .ref (ma 73)])), ((ma 1), .inl (cy 0, 1600, .inl f415))] H := hP
      have hD : va_D A [(hm, .inr (12, [.int 0, .ref (ma 1), .int 7, .int (-1), .ref (ma 4), .int 0, .int 0, .int 0, .long 0, .int 0, .int 0, .int 0, .int 0, .long 0, .int 0, .int 0, .int 0, .ref (ma 17), .ref (ma 18), .ref (ma 19), .ref (ma 20), .ref (ma 21), .ref (ma 22), .ref (ma 23), .ref (ma 24), .ref (ma 25), .ref (ma 26), .ref (ma 27), .ref (ma 28), .ref (ma 29), .ref (ma 30), .ref (ma 31), .ref (ma 32), .ref (ma 33), .ref (ma 34), .ref (ma 35), .ref (ma 36), .ref (ma 37), .ref (ma 38), .ref (ma 39), .ref (ma 40), .ref (ma 41), .ref (ma 42), .ref (ma 43), .ref (ma 44), .ref (ma 45), .ref (ma 46), .ref (ma 47), .ref (ma 48), .int 0, .int 0, .int 0, .int 0, .int 0, .int 0, .int 0, .int 0, .int 0, .int 0, .ref (ma 59), .ref (ma 60), .int 0, .int 0, .int 0, .int 0, .int 0, .int 0, .ref (ma 67), .ref (ma 68), .ref (ma 69), .int 0, .int (-1), .int 0, .ref (ma 73)])), ((ma 1), .inl (cy 0, 1600, .inl f415))] := hD
      refine lv_iinc (v := 0) (lv' := [(4, .int 0), (0, .ref hm), (1, .long p0), (3, .int (nI 8))]) hx hb dX12_feed_72 hl (k := 0) rfl (by decide) (by decide) rfl (fun ls hl => ?_)
      refine lv_goto (tgt := 39) hx hb dX12_feed_75 (by decide) ?_
      refine lv_iload hx hb dX12_feed_39 (lv_at hl 0 rfl) ?_
      refine lv_if_lt (tgt := 78) hx hb dX12_feed_41 (by decide) (fun c9 => absurd c9 (by decide)) (fun _ => ?_)
      refine lv_aload_n hx hb dX12_feed_44 rfl (lv_at hl 1 rfl) ?_
      refine va_get (D := D) (ci := 12) (v := .ref (ma 1)) (C := RX12) (T := TX12) (N := 74) hx hb hT i_TX12 hown hK hP 0 rfl rfl 1 (by decide) (hT _ t_1716) (fun _ h9 => h9) rfl dX12_feed_45 ?_
      refine lv_aload_n hx hb dX12_feed_48 rfl (lv_at hl 1 rfl) ?_
      refine va_get (D := D) (ci := 12) (v := .int 7) (C := RX12) (T := TX12) (N := 74) hx hb hT i_TX12 hown hK hP 0 rfl rfl 2 (by decide) (hT _ t_1717) (fun _ h9 => h9) rfl dX12_feed_49 ?_
      refine lv_lload_n hx hb dX12_feed_52 rfl (lv_at hl 2 rfl) ?_
      refine lv_bipush (v := 8) hx hb dX12_feed_53 (by decide) ?_
      refine lv_iload hx hb dX12_feed_55 (lv_at hl 0 rfl) ?_
      refine lv_imul hx hb dX12_feed_57 ?_
      refine lv_topi (fun z418 e419 => ?_)
      obtain rfl : z418 = 0 := e419.trans (by first | decide | rfl)
      refine lv_lshr hx hb dX12_feed_58 rfl ?_
      refine lv_topl (fun z420 e421 => ?_)
      refine lv_l2i hx hb dX12_feed_59 rfl ?_
      refine lv_topi (fun z422 e423 => ?_)
      refine lv_i2b hx hb dX12_feed_60 rfl ?_
      refine lv_topi (fun z424 e425 => ?_)
      refine va_bast hx hb hK hP hD hS 1 0 rfl rfl (vp_in_iff.mpr (by decide)) dX12_feed_61 (fun H locs hP hD hS => ?_)
      have hP : va_P D vwCl [(hm, .inr (12, [.int 0, .ref (ma 1), .int 7, .int (-1), .ref (ma 4), .int 0, .int 0, .int 0, .long 0, .int 0, .int 0, .int 0, .int 0, .long 0, .int 0, .int 0, .int 0, .ref (ma 17), .ref (ma 18), .ref (ma 19), .ref (ma 20), .ref (ma 21), .ref (ma 22), .ref (ma 23), .ref (ma 24), .ref (ma 25), .ref (ma 26), .ref (ma 27), .ref (ma 28), .ref (ma 29), .ref (ma 30), .ref (ma 31), .ref (ma 32), .ref (ma 33), .ref (ma 34), .ref (ma 35), .ref (ma 36), .ref (ma 37), .ref (ma 38), .ref (ma 39), .ref (ma 40), .ref (ma 41), .ref (ma 42), .ref (ma 43), .ref (ma 44), .ref (ma 45), .ref (ma 46), .ref (ma 47), .ref (ma 48), .int 0, .int 0, .int 0, .int 0, .int 0, .int 0, .int 0, .int 0, .int 0, .int 0, .ref (ma 59), .ref (ma 60), .int 0, .int 0, .int 0, .int 0, .int 0, .int 0, .ref (ma 67), .ref (ma 68), .ref (ma 69), .int 0, .int (-1), .int 0, .ref (ma 73)])), ((ma 1), .inl (cy 0, 1600, .inl (upd f415 (7 : Int32).toNatClampNeg (vp_nar .byte z424))))] H := hP
      have hD : va_D A [(hm, .inr (12, [.int 0, .ref (ma 1), .int 7, .int (-1), .ref (ma 4), .int 0, .int 0, .int 0, .long 0, .int 0, .int 0, .int 0, .int 0, .long 0, .int 0, .int 0, .int 0, .ref (ma 17), .ref (ma 18), .ref (ma 19), .ref (ma 20), .ref (ma 21), .ref (ma 22), .ref (ma 23), .ref (ma 24), .ref (ma 25), .ref (ma 26), .ref (ma 27), .ref (ma 28), .ref (ma 29), .ref (ma 30), .ref (ma 31), .ref (ma 32), .ref (ma 33), .ref (ma 34), .ref (ma 35), .ref (ma 36), .ref (ma 37), .ref (ma 38), .ref (ma 39), .ref (ma 40), .ref (ma 41), .ref (ma 42), .ref (ma 43), .ref (ma 44), .ref (ma 45), .ref (ma 46), .ref (ma 47), .ref (ma 48), .int 0, .int 0, .int 0, .int 0, .int 0, .int 0, .int 0, .int 0, .int 0, .int 0, .ref (ma 59), .ref (ma 60), .int 0, .int 0, .int 0, .int 0, .int 0, .int 0, .ref (ma 67), .ref (ma 68), .ref (ma 69), .int 0, .int (-1), .int 0, .ref (ma 73)])), ((ma 1), .inl (cy 0, 1600, .inl (upd f415 (7 : Int32).toNatClampNeg (vp_nar .byte z424))))] := hD
      generalize hff426 : (upd f415 (7 : Int32).toNatClampNeg (vp_nar .byte z424)) = f426 at hP hD
      refine lv_aload_n hx hb dX12_feed_62 rfl (lv_at hl 1 rfl) ?_
      refine lv_dup hx hb dX12_feed_63 rfl ?_
      refine va_get (D := D) (ci := 12) (v := .int 7) (C := RX12) (T := TX12) (N := 74) hx hb hT i_TX12 hown hK hP 0 rfl rfl 2 (by decide) (hT _ t_1717) (fun _ h9 => h9) rfl dX12_feed_64 ?_
      refine lv_iconst (v := 1) hx hb dX12_feed_67 (by decide) ?_
      refine lv_iadd hx hb dX12_feed_68 ?_
      refine lv_topi (fun z427 e428 => ?_)
      obtain rfl : z427 = 8 := e428.trans (by first | decide | rfl)
      refine va_put (D := D) (ci := 12) (v := .int 8) (ty := .int) (C := RX12) (T := TX12) (N := 74) hx hb hT i_TX12 tyX12 tyX12_ok nmX12 hown hK hP hD hS 0 rfl rfl 2 (by decide) (hT _ t_1717) (fun _ h9 => h9) rfl (by decide +kernel) rfl rfl (Nat.le_of_ble_eq_true rfl) dX12_feed_69 (fun H locs hP hD hS => ?_)
      have hP : va_P D vwCl [(hm, .inr (12, [.int 0, .ref (ma 1), .int 8, .int (-1), .ref (ma 4), .int 0, .int 0, .int 0, .long 0, .int 0, .int 0, .int 0, .int 0, .long 0, .int 0, .int 0, .int 0, .ref (ma 17), .ref (ma 18), .ref (ma 19), .ref (ma 20), .ref (ma 21), .ref (ma 22), .ref (ma 23), .ref (ma 24), .ref (ma 25), .ref (ma 26), .ref (ma 27), .ref (ma 28), .ref (ma 29), .ref (ma 30), .ref (ma 31), .ref (ma 32), .ref (ma 33), .ref (ma 34), .ref (ma 35), .ref (ma 36), .ref (ma 37), .ref (ma 38), .ref (ma 39), .ref (ma 40), .ref (ma 41), .ref (ma 42), .ref (ma 43), .ref (ma 44), .ref (ma 45), .ref (ma 46), .ref (ma 47), .ref (ma 48), .int 0, .int 0, .int 0, .int 0, .int 0, .int 0, .int 0, .int 0, .int 0, .int 0, .ref (ma 59), .ref (ma 60), .int 0, .int 0, .int 0, .int 0, .int 0, .int 0, .ref (ma 67), .ref (ma 68), .ref (ma 69), .int 0, .int (-1), .int 0, .ref (ma 73)])), ((ma 1), .inl (cy 0, 1600, .inl f426))] H := hP
      have hD : va_D A [(hm, .inr (12, [.int 0, .ref (ma 1), .int 8, .int (-1), .ref (ma 4), .int 0, .int 0, .int 0, .long 0, .int 0, .int 0, .int 0, .int 0, .long 0, .int 0, .int 0, .int 0, .ref (ma 17), .ref (ma 18), .ref (ma 19), .ref (ma 20), .ref (ma 21), .ref (ma 22), .ref (ma 23), .ref (ma 24), .ref (ma 25), .ref (ma 26), .ref (ma 27), .ref (ma 28), .ref (ma 29), .ref (ma 30), .ref (ma 31), .ref (ma 32), .ref (ma 33), .ref (ma 34), .ref (ma 35), .ref (ma 36), .ref (ma 37), .ref (ma 38), .ref (ma 39), .ref (ma 40), .ref (ma 41), .ref (ma 42), .ref (ma 43), .ref (ma 44), .ref (ma 45), .ref (ma 46), .ref (ma 47), .ref (ma 48), .int 0, .int 0, .int 0, .int 0, .int 0, .int 0, .int 0, .int 0, .int 0, .int 0, .ref (ma 59), .ref (ma 60), .int 0, .int 0, .int 0, .int 0, .int 0, .int 0, .ref (ma 67), .ref (ma 68), .ref (ma 69), .int 0, .int (-1), .int 0, .ref (ma 73)])), ((ma 1), .inl (cy 0, 1600, .inl f426))] := hD
      refine lv_iinc (v := (-1)) (lv' := [(4, .int (-1)), (0, .ref hm), (1, .long p0), (3, .int (nI 8))]) hx hb dX12_feed_72 hl (k := 0) rfl (by decide) (by decide) rfl (fun ls hl => ?_)
      refine lv_goto (tgt := 39) hx hb dX12_feed_75 (by decide) ?_
      refine lv_iload hx hb dX12_feed_39 (lv_at hl 0 rfl) ?_
      refine lv_if_lt (tgt := 78) hx hb dX12_feed_41 (by decide) (fun _ => ?_) (fun c9 => absurd (by decide) c9)
      refine lv_aload_n hx hb dX12_feed_78 rfl (lv_at hl 1 rfl) ?_
      refine va_get (D := D) (ci := 12) (v := .int 8) (C := RX12) (T := TX12) (N := 74) hx hb hT i_TX12 hown hK hP 0 rfl rfl 2 (by decide) (hT _ t_1717) (fun _ h9 => h9) rfl dX12_feed_79 ?_
      have hP9 := hP.sub (ws' := []) [] rfl
      have hD9 := hD.sub (ws' := []) [] (by decide) rfl
      refine W.widen (k := 0) (n := 0) (Nat.le_of_ble_eq_true rfl) (Nat.le_of_ble_eq_true rfl) ?_
      exact W.iret (v := 8) hx hb hr (fun t ht hW => ⟨⟨8, (), rfl, (by decide), by rw [ht]; exact hP9, hD9⟩, hS.F ht⟩) hS.2.2 dX12_feed_82
