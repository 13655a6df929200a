theorem dX7_codeAt_0 : decode cX7_codeAt 0 = .ok (.iload_n 1, 1) := by decide +kernel
theorem dX7_codeAt_1 : decode cX7_codeAt 1 = .ok (.ifCond .lt 27, 3) := by decide +kernel
theorem dX7_codeAt_4 : decode cX7_codeAt 4 = .ok (.iload_n 1, 1) := by decide +kernel
theorem dX7_codeAt_5 : decode cX7_codeAt 5 = .ok (.aload_n 0, 1) := by decide +kernel
theorem dX7_codeAt_6 : decode cX7_codeAt 6 = .ok (.getfield 38, 3) := by decide +kernel
theorem dX7_codeAt_9 : decode cX7_codeAt 9 = .ok (.if_icmp .ge 19, 3) := by decide +kernel
theorem dX7_codeAt_12 : decode cX7_codeAt 12 = .ok (.iload_n 1, 1) := by decide +kernel
theorem dX7_codeAt_13 : decode cX7_codeAt 13 = .ok (.sipush 4288, 3) := by decide +kernel
theorem dX7_codeAt_16 : decode cX7_codeAt 16 = .ok (.if_icmp .ge 12, 3) := by decide +kernel
theorem dX7_codeAt_19 : decode cX7_codeAt 19 = .ok (.aload_n 0, 1) := by decide +kernel
theorem dX7_codeAt_20 : decode cX7_codeAt 20 = .ok (.getfield 24, 3) := by decide +kernel
theorem dX7_codeAt_23 : decode cX7_codeAt 23 = .ok (.iload_n 1, 1) := by decide +kernel
theorem dX7_codeAt_24 : decode cX7_codeAt 24 = .ok (.iaload, 1) := by decide +kernel
theorem dX7_codeAt_25 : decode cX7_codeAt 25 = .ok (.goto 5, 3) := by decide +kernel
theorem dX7_codeAt_28 : decode cX7_codeAt 28 = .ok (.bipush 31, 2) := by decide +kernel
theorem dX7_codeAt_30 : decode cX7_codeAt 30 = .ok (.ireturn, 1) := by decide +kernel
theorem dX7_note_0 : decode cX7_note 0 = .ok (.aload_n 0, 1) := by decide +kernel
theorem dX7_note_1 : decode cX7_note 1 = .ok (.getfield 44, 3) := by decide +kernel
theorem dX7_note_4 : decode cX7_note 4 = .ok (.ifCond .eq 27, 3) := by decide +kernel
theorem dX7_note_7 : decode cX7_note 7 = .ok (.iload_n 2, 1) := by decide +kernel
theorem dX7_note_8 : decode cX7_note 8 = .ok (.aload_n 0, 1) := by decide +kernel
theorem dX7_note_9 : decode cX7_note 9 = .ok (.getfield 47, 3) := by decide +kernel
theorem dX7_note_12 : decode cX7_note 12 = .ok (.if_icmp .lt 19, 3) := by decide +kernel
theorem dX7_note_15 : decode cX7_note 15 = .ok (.iload_n 2, 1) := by decide +kernel
theorem dX7_note_16 : decode cX7_note 16 = .ok (.aload_n 0, 1) := by decide +kernel
theorem dX7_note_17 : decode cX7_note 17 = .ok (.getfield 47, 3) := by decide +kernel
theorem dX7_note_20 : decode cX7_note 20 = .ok (.if_icmp .ne 21, 3) := by decide +kernel
theorem dX7_note_23 : decode cX7_note 23 = .ok (.iload_n 1, 1) := by decide +kernel
theorem dX7_note_24 : decode cX7_note 24 = .ok (.aload_n 0, 1) := by decide +kernel
theorem dX7_note_25 : decode cX7_note 25 = .ok (.getfield 44, 3) := by decide +kernel
theorem dX7_note_28 : decode cX7_note 28 = .ok (.if_icmp .ge 13, 3) := by decide +kernel
theorem dX7_note_31 : decode cX7_note 31 = .ok (.aload_n 0, 1) := by decide +kernel
theorem dX7_note_32 : decode cX7_note 32 = .ok (.iload_n 1, 1) := by decide +kernel
theorem dX7_note_33 : decode cX7_note 33 = .ok (.putfield 44, 3) := by decide +kernel
theorem dX7_note_36 : decode cX7_note 36 = .ok (.aload_n 0, 1) := by decide +kernel
theorem dX7_note_37 : decode cX7_note 37 = .ok (.iload_n 2, 1) := by decide +kernel
theorem dX7_note_38 : decode cX7_note 38 = .ok (.putfield 47, 3) := by decide +kernel
theorem dX7_note_41 : decode cX7_note 41 = .ok (.return_, 1) := by decide +kernel
theorem dX7_patch_0 : decode cX7_patch 0 = .ok (.iload_n 1, 1) := by decide +kernel
theorem dX7_patch_1 : decode cX7_patch 1 = .ok (.ifCond .lt 25, 3) := by decide +kernel
theorem dX7_patch_4 : decode cX7_patch 4 = .ok (.iload_n 1, 1) := by decide +kernel
theorem dX7_patch_5 : decode cX7_patch 5 = .ok (.aload_n 0, 1) := by decide +kernel
theorem dX7_patch_6 : decode cX7_patch 6 = .ok (.getfield 38, 3) := by decide +kernel
theorem dX7_patch_9 : decode cX7_patch 9 = .ok (.if_icmp .ge 17, 3) := by decide +kernel
theorem dX7_patch_12 : decode cX7_patch 12 = .ok (.iload_n 1, 1) := by decide +kernel
theorem dX7_patch_13 : decode cX7_patch 13 = .ok (.sipush 4288, 3) := by decide +kernel
theorem dX7_patch_16 : decode cX7_patch 16 = .ok (.if_icmp .ge 10, 3) := by decide +kernel
theorem dX7_patch_19 : decode cX7_patch 19 = .ok (.aload_n 0, 1) := by decide +kernel
theorem dX7_patch_20 : decode cX7_patch 20 = .ok (.getfield 24, 3) := by decide +kernel
theorem dX7_patch_23 : decode cX7_patch 23 = .ok (.iload_n 1, 1) := by decide +kernel
theorem dX7_patch_24 : decode cX7_patch 24 = .ok (.iload_n 2, 1) := by decide +kernel
theorem dX7_patch_25 : decode cX7_patch 25 = .ok (.iastore, 1) := by decide +kernel
theorem dX7_patch_26 : decode cX7_patch 26 = .ok (.return_, 1) := by decide +kernel
theorem dX7_put_0 : decode cX7_put 0 = .ok (.aload_n 0, 1) := by decide +kernel
theorem dX7_put_1 : decode cX7_put 1 = .ok (.getfield 38, 3) := by decide +kernel
theorem dX7_put_4 : decode cX7_put 4 = .ok (.sipush 4288, 3) := by decide +kernel
theorem dX7_put_7 : decode cX7_put 7 = .ok (.if_icmp .ge 23, 3) := by decide +kernel
theorem dX7_put_10 : decode cX7_put 10 = .ok (.aload_n 0, 1) := by decide +kernel
theorem dX7_put_11 : decode cX7_put 11 = .ok (.getfield 24, 3) := by decide +kernel
theorem dX7_put_14 : decode cX7_put 14 = .ok (.aload_n 0, 1) := by decide +kernel
theorem dX7_put_15 : decode cX7_put 15 = .ok (.getfield 38, 3) := by decide +kernel
theorem dX7_put_18 : decode cX7_put 18 = .ok (.iload_n 1, 1) := by decide +kernel
theorem dX7_put_19 : decode cX7_put 19 = .ok (.iastore, 1) := by decide +kernel
theorem dX7_put_20 : decode cX7_put 20 = .ok (.aload_n 0, 1) := by decide +kernel
theorem dX7_put_21 : decode cX7_put 21 = .ok (.dup, 1) := by decide +kernel
theorem dX7_put_22 : decode cX7_put 22 = .ok (.getfield 38, 3) := by decide +kernel
theorem dX7_put_25 : decode cX7_put 25 = .ok (.iconst 1, 1) := by decide +kernel
theorem dX7_put_26 : decode cX7_put 26 = .ok (.iadd, 1) := by decide +kernel
theorem dX7_put_27 : decode cX7_put 27 = .ok (.putfield 38, 3) := by decide +kernel
theorem dX7_put_30 : decode cX7_put 30 = .ok (.return_, 1) := by decide +kernel
theorem dX7_shapeAt_0 : decode cX7_shapeAt 0 = .ok (.iload_n 1, 1) := by decide +kernel
theorem dX7_shapeAt_1 : decode cX7_shapeAt 1 = .ok (.ifCond .lt 27, 3) := by decide +kernel
theorem dX7_shapeAt_4 : decode cX7_shapeAt 4 = .ok (.iload_n 1, 1) := by decide +kernel
theorem dX7_shapeAt_5 : decode cX7_shapeAt 5 = .ok (.aload_n 0, 1) := by decide +kernel
theorem dX7_shapeAt_6 : decode cX7_shapeAt 6 = .ok (.getfield 41, 3) := by decide +kernel
theorem dX7_shapeAt_9 : decode cX7_shapeAt 9 = .ok (.if_icmp .ge 19, 3) := by decide +kernel
theorem dX7_shapeAt_12 : decode cX7_shapeAt 12 = .ok (.iload_n 1, 1) := by decide +kernel
theorem dX7_shapeAt_13 : decode cX7_shapeAt 13 = .ok (.sipush 2064, 3) := by decide +kernel
theorem dX7_shapeAt_16 : decode cX7_shapeAt 16 = .ok (.if_icmp .ge 12, 3) := by decide +kernel
theorem dX7_shapeAt_19 : decode cX7_shapeAt 19 = .ok (.aload_n 0, 1) := by decide +kernel
theorem dX7_shapeAt_20 : decode cX7_shapeAt 20 = .ok (.getfield 28, 3) := by decide +kernel
theorem dX7_shapeAt_23 : decode cX7_shapeAt 23 = .ok (.iload_n 1, 1) := by decide +kernel
theorem dX7_shapeAt_24 : decode cX7_shapeAt 24 = .ok (.iaload, 1) := by decide +kernel
theorem dX7_shapeAt_25 : decode cX7_shapeAt 25 = .ok (.goto 5, 3) := by decide +kernel
theorem dX7_shapeAt_28 : decode cX7_shapeAt 28 = .ok (.bipush 11, 2) := by decide +kernel
theorem dX7_shapeAt_30 : decode cX7_shapeAt 30 = .ok (.ireturn, 1) := by decide +kernel
theorem vin_of {x : Int32} {n : Nat} (h0 : ¬ x < 0) (h : ¬ nI n ≤ x) (hn : n < 2 ^ 31) : vp_in x n := by
  obtain ⟨j, hj, rfl, -⟩ := pk_mu h0 h hn
  exact vp_in_nI hj hn

set_option maxHeartbeats 4000000 in
set_option maxRecDepth 100000 in
theorem g_note (l : Launch) (D : va_G) (cy : Nat → ClassId) (sz : Nat) (h0 : Nat) (a1 : Nat) (a2 : Nat) (a3 : Nat) (a4 : Nat) (ct : Int32) (z1 : Nat) (z2 : Nat) (fa : Int32) (fp : Int32) (cf : Nat → Int32) (sf : Nat → Int32) (p0 : Int32) (p1 : Int32) : Met l yX7_note (.code yX7_note cX7_note 3 none :: TB) ({ frames := 0, cells := 0, slots := 0, locals := 0 }) (va_Pc [.ref h0, .int p0, .int p1] (fun U => U.heap.size = sz ∧ va_P D vwCl [(h0, .inr (7, [.ref a1, .int ct, .ref a2, .ref a3, .int (nI z1), .ref a4, .int (nI z2), .int fa, .int fp]))] U.heap ∧ va_K D vwCl (TY cy) U ∧ va_D (fun _ => True) [(h0, .inr (7, [.ref a1, .int ct, .ref a2, .ref a3, .int (nI z1), .ref a4, .int (nI z2), .int fa, .int fp]))])) (va_Qv (fun (u : Int32 × Int32) => True) (fun (u : Int32 × Int32) t => va_P D vwCl [(h0, .inr (7, [.ref a1, .int ct, .ref a2, .ref a3, .int (nI z1), .ref a4, .int (nI z2), .int u.1, .int u.2]))] t.heap ∧ va_D (va_A [(h0, .inr (7, [.ref a1, .int ct, .ref a2, .ref a3, .int (nI z1), .ref a4, .int (nI z2), .int fa, .int fp]))] sz) [(h0, .inr (7, [.ref a1, .int ct, .ref a2, .ref a3, .int (nI z1), .ref a4, .int (nI z2), .int u.1, .int u.2]))]) (va_A [(h0, .inr (7, [.ref a1, .int ct, .ref a2, .ref a3, .int (nI z1), .ref a4, .int (nI z2), .int fa, .int fp]))] sz)) 0 0 (va_A [(h0, .inr (7, [.ref a1, .int ct, .ref a2, .ref a3, .int (nI z1), .ref a4, .int (nI z2), .int fa, .int fp]))] sz) := by
  refine Met.ofW (cc := cX7_note) (maxL := 3) (ret := none) (by decide) rfl ?_
  intro p e s m args below meth c s₁ B hml hv
  obtain ⟨rfl, hsz, hP, hK, hD0⟩ := hv
  have hx := B.exec
  have hb := B.bytes
  have hr := B.returns
  have hts := atoms_spec (ws := .code yX7_note cX7_note 3 none :: TB) B.pre
  have hT : ∀ w ∈ TB, w.before _ s = true := fun w h => hts w (List.mem_cons_of_mem _ h)
  have hown : s.vm.findClass "MakerStarts$Text" = some m.cls := findClass_of_methodNamed B.named
  have hlocks := B.notSynchronized
  subst hsz
  have hD := hD0.self (sz := s.heap.size)
  generalize hAe : va_A [(h0, .inr (7, [.ref a1, .int ct, .ref a2, .ref a3, .int (nI z1), .ref a4, .int (nI z2), .int fa, .int fp]))] s.heap.size = A at hD  ⊢
  have hA : ∀ q : Nat, s.heap.size ≤ q → A q := fun q h => by rw [← hAe]; exact Or.inr h
  have hS : va_S A s.heap s.heap [] := va_S.rf
  have hP : va_P D vwCl [(h0, .inr (7, [.ref a1, .int ct, .ref a2, .ref a3, .int (nI z1), .ref a4, .int (nI z2), .int fa, .int fp]))] s.heap := hP
  have hl := lv_entry ([.ref h0, .int p0, .int p1]) (n := 3) (Nat.le_of_ble_eq_true rfl)
  rw [lg_entry_eq]
  generalize (lg_sl ([.ref h0, .int p0, .int p1]) ++ List.replicate (3 - (lg_sl ([.ref h0, .int p0, .int p1])).length) Slot.unset).toArray = ls at hl ⊢
  have hl : lv_has ls 3 [(0, .ref h0), (1, .int p0), (2, .int p1)] := hl
  refine lv_aload_n hx hb dX7_note_0 rfl (lv_at hl 0 rfl) ?_
  refine va_get (D := D) (ci := 7) (v := .int fa) (C := RX7) (T := TX7) (N := 9) hx hb hT i_TX7 hown hK hP 0 rfl rfl 7 (by decide) (hT _ t_229) (fun _ h9 => h9) rfl dX7_note_1 ?_
  refine lv_if_eq (tgt := 31) hx hb dX7_note_4 (by decide) (fun c1 => ?_) (fun c1 => ?_)
  · refine lv_aload_n hx hb dX7_note_31 rfl (lv_at hl 0 rfl) ?_
    refine lv_iload_n hx hb dX7_note_32 rfl (lv_at hl 1 rfl) ?_
    refine va_put (D := D) (ci := 7) (v := .int p0) (ty := .int) (C := RX7) (T := TX7) (N := 9) hx hb hT i_TX7 tyX7 tyX7_ok nmX7 hown hK hP hD hS 0 rfl rfl 7 (by decide) (hT _ t_229) (fun _ h9 => h9) rfl (by decide +kernel) rfl rfl (Nat.le_of_ble_eq_true rfl) dX7_note_33 (fun H locs hP hD hS => ?_)
    have hP : va_P D vwCl [(h0, .inr (7, [.ref a1, .int ct, .ref a2, .ref a3, .int (nI z1), .ref a4, .int (nI z2), .int p0, .int fp]))] H := hP
    have hD : va_D A [(h0, .inr (7, [.ref a1, .int ct, .ref a2, .ref a3, .int (nI z1), .ref a4, .int (nI z2), .int p0, .int fp]))] := hD
    refine lv_aload_n hx hb dX7_note_36 rfl (lv_at hl 0 rfl) ?_
    refine lv_iload_n hx hb dX7_note_37 rfl (lv_at hl 2 rfl) ?_
    refine va_put (D := D) (ci := 7) (v := .int p1) (ty := .int) (C := RX7) (T := TX7) (N := 9) hx hb hT i_TX7 tyX7 tyX7_ok nmX7 hown hK hP hD hS 0 rfl rfl 8 (by decide) (hT _ t_232) (fun _ h9 => h9) rfl (by decide +kernel) rfl rfl (Nat.le_of_ble_eq_true rfl) dX7_note_38 (fun H locs hP hD hS => ?_)
    have hP : va_P D vwCl [(h0, .inr (7, [.ref a1, .int ct, .ref a2, .ref a3, .int (nI z1), .ref a4, .int (nI z2), .int p0, .int p1]))] H := hP
    have hD : va_D A [(h0, .inr (7, [.ref a1, .int ct, .ref a2, .ref a3, .int (nI z1), .ref a4, .int (nI z2), .int p0, .int p1]))] := hD
    have hP9 := hP.sub (ws' := [(h0, .inr (7, [.ref a1, .int ct, .ref a2, .ref a3, .int (nI z1), .ref a4, .int (nI z2), .int p0, .int p1]))]) [0] rfl
    have hD9 := hD.sub (ws' := [(h0, .inr (7, [.ref a1, .int ct, .ref a2, .ref a3, .int (nI z1), .ref a4, .int (nI z2), .int p0, .int p1]))]) [0] (by decide) rfl
    refine W.widen (k := 0) (n := 0) (Nat.le_of_ble_eq_true rfl) (Nat.le_of_ble_eq_true rfl) ?_
    exact W.vret hx hb hr (fun t ht hW => ⟨⟨(p0, p1), rfl, trivial, by rw [ht]; exact hP9, hD9⟩, hS.F ht⟩) hS.2.2 dX7_note_41
  · refine lv_iload_n hx hb dX7_note_7 rfl (lv_at hl 2 rfl) ?_
    refine lv_aload_n hx hb dX7_note_8 rfl (lv_at hl 0 rfl) ?_
    refine va_get (D := D) (ci := 7) (v := .int fp) (C := RX7) (T := TX7) (N := 9) hx hb hT i_TX7 hown hK hP 0 rfl rfl 8 (by decide) (hT _ t_232) (fun _ h9 => h9) rfl dX7_note_9 ?_
    refine lv_icmp_lt (tgt := 31) hx hb dX7_note_12 (by decide) (fun c2 => ?_) (fun c2 => ?_)
    · refine lv_aload_n hx hb dX7_note_31 rfl (lv_at hl 0 rfl) ?_
      refine lv_iload_n hx hb dX7_note_32 rfl (lv_at hl 1 rfl) ?_
      refine va_put (D := D) (ci := 7) (v := .int p0) (ty := .int) (C := RX7) (T := TX7) (N := 9) hx hb hT i_TX7 tyX7 tyX7_ok nmX7 hown hK hP hD hS 0 rfl rfl 7 (by decide) (hT _ t_229) (fun _ h9 => h9) rfl (by decide +kernel) rfl rfl (Nat.le_of_ble_eq_true rfl) dX7_note_33 (fun H locs hP hD hS => ?_)
      have hP : va_P D vwCl [(h0, .inr (7, [.ref a1, .int ct, .ref a2, .ref a3, .int (nI z1), .ref a4, .int (nI z2), .int p0, .int fp]))] H := hP
      have hD : va_D A [(h0, .inr (7, [.ref a1, .int ct, .ref a2, .ref a3, .int (nI z1), .ref a4, .int (nI z2), .int p0, .int fp]))] := hD
      refine lv_aload_n hx hb dX7_note_36 rfl (lv_at hl 0 rfl) ?_
      refine lv_iload_n hx hb dX7_note_37 rfl (lv_at hl 2 rfl) ?_
      refine va_put (D := D) (ci := 7) (v := .int p1) (ty := .int) (C := RX7) (T := TX7) (N := 9) hx hb hT i_TX7 tyX7 tyX7_ok nmX7 hown hK hP hD hS 0 rfl rfl 8 (by decide) (hT _ t_232) (fun _ h9 => h9) rfl (by decide +kernel) rfl rfl (Nat.le_of_ble_eq_true rfl) dX7_note_38 (fun H locs hP hD hS => ?_)
      have hP : va_P D vwCl [(h0, .inr (7, [.ref a1, .int ct, .ref a2, .ref a3, .int (nI z1), .ref a4, .int (nI z2), .int p0, .int p1]))] H := hP
      have hD : va_D A [(h0, .inr (7, [.ref a1, .int ct, .ref a2, .ref a3, .int (nI z1), .ref a4, .int (nI z2), .int p0, .int p1]))] := hD
      have hP9 := hP.sub (ws' := [(h0, .inr (7, [.ref a1, .int ct, .ref a2, .ref a3, .int (nI z1), .ref a4, .int (nI z2), .int p0, .int p1]))]) [0] rfl
      have hD9 := hD.sub (ws' := [(h0, .inr (7, [.ref a1, .int ct, .ref a2, .ref a3, .int (nI z1), .ref a4, .int (nI z2), .int p0, .int p1]))]) [0] (by decide) rfl
      refine W.widen (k := 0) (n := 0) (Nat.le_of_ble_eq_true rfl) (Nat.le_of_ble_eq_true rfl) ?_
      exact W.vret hx hb hr (fun t ht hW => ⟨⟨(p0, p1), rfl, trivial, by rw [ht]; exact hP9, hD9⟩, hS.F ht⟩) hS.2.2 dX7_note_41
    · refine lv_iload_n hx hb dX7_note_15 rfl (lv_at hl 2 rfl) ?_
      refine lv_aload_n hx hb dX7_note_16 rfl (lv_at hl 0 rfl) ?_
      refine va_get (D := D) (ci := 7) (v := .int fp) (C := RX7) (T := TX7) (N := 9) hx hb hT i_TX7 hown hK hP 0 rfl rfl 8 (by decide) (hT _ t_232) (fun _ h9 => h9) rfl dX7_note_17 ?_
      refine lv_icmp_ne (tgt := 41) hx hb dX7_note_20 (by decide) (fun c3 => ?_) (fun c3 => ?_)
      · have hP9 := hP.sub (ws' := [(h0, .inr (7, [.ref a1, .int ct, .ref a2, .ref a3, .int (nI z1), .ref a4, .int (nI z2), .int fa, .int fp]))]) [0] rfl
        have hD9 := hD.sub (ws' := [(h0, .inr (7, [.ref a1, .int ct, .ref a2, .ref a3, .int (nI z1), .ref a4, .int (nI z2), .int fa, .int fp]))]) [0] (by decide) rfl
        refine W.widen (k := 0) (n := 0) (Nat.le_of_ble_eq_true rfl) (Nat.le_of_ble_eq_true rfl) ?_
        exact W.vret hx hb hr (fun t ht hW => ⟨⟨(fa, fp), rfl, trivial, by rw [ht]; exact hP9, hD9⟩, hS.F ht⟩) hS.2.2 dX7_note_41
      · refine lv_iload_n hx hb dX7_note_23 rfl (lv_at hl 1 rfl) ?_
        refine lv_aload_n hx hb dX7_note_24 rfl (lv_at hl 0 rfl) ?_
        refine va_get (D := D) (ci := 7) (v := .int fa) (C := RX7) (T := TX7) (N := 9) hx hb hT i_TX7 hown hK hP 0 rfl rfl 7 (by decide) (hT _ t_229) (fun _ h9 => h9) rfl dX7_note_25 ?_
        refine lv_icmp_ge (tgt := 41) hx hb dX7_note_28 (by decide) (fun c4 => ?_) (fun c4 => ?_)
        · have hP9 := hP.sub (ws' := [(h0, .inr (7, [.ref a1, .int ct, .ref a2, .ref a3, .int (nI z1), .ref a4, .int (nI z2), .int fa, .int fp]))]) [0] rfl
          have hD9 := hD.sub (ws' := [(h0, .inr (7, [.ref a1, .int ct, .ref a2, .ref a3, .int (nI z1), .ref a4, .int (nI z2), .int fa, .int fp]))]) [0] (by decide) rfl
          refine W.widen (k := 0) (n := 0) (Nat.le_of_ble_eq_true rfl) (Nat.le_of_ble_eq_true rfl) ?_
          exact W.vret hx hb hr (fun t ht hW => ⟨⟨(fa, fp), rfl, trivial, by rw [ht]; exact hP9, hD9⟩, hS.F ht⟩) hS.2.2 dX7_note_41
        · refine lv_aload_n hx hb dX7_note_31 rfl (lv_at hl 0 rfl) ?_
          refine lv_iload_n hx hb dX7_note_32 rfl (lv_at hl 1 rfl) ?_
          refine va_put (D := D) (ci := 7) (v := .int p0) (ty := .int) (C := RX7) (T := TX7) (N := 9) hx hb hT i_TX7 tyX7 tyX7_ok nmX7 hown hK hP hD hS 0 rfl rfl 7 (by decide) (hT _ t_229) (fun _ h9 => h9) rfl (by decide +kernel) rfl rfl (Nat.le_of_ble_eq_true rfl) dX7_note_33 (fun H locs hP hD hS => ?_)
          have hP : va_P D vwCl [(h0, .inr (7, [.ref a1, .int ct, .ref a2, .ref a3, .int (nI z1), .ref a4, .int (nI z2), .int p0, .int fp]))] H := hP
          have hD : va_D A [(h0, .inr (7, [.ref a1, .int ct, .ref a2, .ref a3, .int (nI z1), .ref a4, .int (nI z2), .int p0, .int fp]))] := hD
          refine lv_aload_n hx hb dX7_note_36 rfl (lv_at hl 0 rfl) ?_
          refine lv_iload_n hx hb dX7_note_37 rfl (lv_at hl 2 rfl) ?_
          refine va_put (D := D) (ci := 7) (v := .int p1) (ty := .int) (C := RX7) (T := TX7) (N := 9) hx hb hT i_TX7 tyX7 tyX7_ok nmX7 hown hK hP hD hS 0 rfl rfl 8 (by decide) (hT _ t_232) (fun _ h9 => h9) rfl (by decide +kernel) rfl rfl (Nat.le_of_ble_eq_true rfl) dX7_note_38 (fun H locs hP hD hS => ?_)
          have hP : va_P D vwCl [(h0, .inr (7, [.ref a1, .int ct, .ref a2, .ref a3, .int (nI z1), .ref a4, .int (nI z2), .int p0, .int p1]))] H := hP
          have hD : va_D A [(h0, .inr (7, [.ref a1, .int ct, .ref a2, .ref a3, .int (nI z1), .ref a4, .int (nI z2), .int p0, .int p1]))] := hD
          have hP9 := hP.sub (ws' := [(h0, .inr (7, [.ref a1, .int ct, .ref a2, .ref a3, .int (nI z1), .ref a4, .int (nI z2), .int p0, .int p1]))]) [0] rfl
          have hD9 := hD.sub (ws' := [(h0, .inr (7, [.ref a1, .int ct, .ref a2, .ref a3, .int (nI z1), .ref a4, .int (nI z2), .int p0, .int p1]))]) [0] (by decide) rfl
          refine W.widen (k := 0) (n := 0) (Nat.le_of_ble_eq_true rfl) (Nat.le_of_ble_eq_true rfl) ?_
          exact W.vret hx hb hr (fun t ht hW => ⟨⟨(p0, p1), rfl, trivial, by rw [ht]; exact hP9, hD9⟩, hS.F ht⟩) hS.2.2 dX7_note_41

set_option maxHeartbeats 4000000 in
set_option maxRecDepth 100000 in
theorem g_codeAt (l : Launch) (D : va_G) (cy : Nat → ClassId) (sz : Nat) (h0 : Nat) (a1 : Nat) (a2 : Nat) (a3 : Nat) (a4 : Nat) (ct : Int32) (z1 : Nat) (z2 : Nat) (fa : Int32) (fp : Int32) (cf : Nat → Int32) (sf : Nat → Int32) (p0 : Int32) : Met l yX7_codeAt (.code yX7_codeAt cX7_codeAt 2 (some .int) :: TB) ({ frames := 0, cells := 0, slots := 0, locals := 0 }) (va_Pc [.ref h0, .int p0] (fun U => U.heap.size = sz ∧ va_P D vwCl [(h0, .inr (7, [.ref a1, .int ct, .ref a2, .ref a3, .int (nI z1), .ref a4, .int (nI z2), .int fa, .int fp])), (a3, .inl (cy 1, 4288, .inl cf))] U.heap ∧ va_K D vwCl (TY cy) U ∧ va_D (fun _ => True) [(h0, .inr (7, [.ref a1, .int ct, .ref a2, .ref a3, .int (nI z1), .ref a4, .int (nI z2), .int fa, .int fp])), (a3, .inl (cy 1, 4288, .inl cf))])) (va_Qi (fun (r : Int32) (u : Unit) => True) (fun (u : Unit) t => va_P D vwCl [(h0, .inr (7, [.ref a1, .int ct, .ref a2, .ref a3, .int (nI z1), .ref a4, .int (nI z2), .int fa, .int fp])), (a3, .inl (cy 1, 4288, .inl cf))] t.heap ∧ va_D (va_A [(h0, .inr (7, [.ref a1, .int ct, .ref a2, .ref a3, .int (nI z1), .ref a4, .int (nI z2), .int fa, .int fp])), (a3, .inl (cy 1, 4288, .inl cf))] sz) [(h0, .inr (7, [.ref a1, .int ct, .ref a2, .ref a3, .int (nI z1), .ref a4, .int (nI z2), .int fa, .int fp])), (a3, .inl (cy 1, 4288, .inl cf))]) (va_A [(h0, .inr (7, [.ref a1, .int ct, .ref a2, .ref a3, .int (nI z1), .ref a4, .int (nI z2), .int fa, .int fp])), (a3, .inl (cy 1, 4288, .inl cf))] sz)) 0 0 (va_A [(h0, .inr (7, [.ref a1, .int ct, .ref a2, .ref a3, .int (nI z1), .ref a4, .int (nI z2), .int fa, .int fp])), (a3, .inl (cy 1, 4288, .inl cf))] sz) := by
  refine Met.ofW (cc := cX7_codeAt) (maxL := 2) (ret := (some .int)) (by decide) rfl ?_
  intro p e s m args below meth c s₁ B hml hv
  obtain ⟨rfl, hsz, hP, hK, hD0⟩ := hv
  have hx := B.exec
  have hb := B.bytes
  have hr := B.returns
  have hts := atoms_spec (ws := .code yX7_codeAt cX7_codeAt 2 (some .int) :: TB) B.pre
  have hT : ∀ w ∈ TB, w.before _ s = true := fun w h => hts w (List.mem_cons_of_mem _ h)
  have hown : s.vm.findClass "MakerStarts$Text" = some m.cls := findClass_of_methodNamed B.named
  have hlocks := B.notSynchronized
  subst hsz
  have hD := hD0.self (sz := s.heap.size)
  generalize hAe : va_A [(h0, .inr (7, [.ref a1, .int ct, .ref a2, .ref a3, .int (nI z1), .ref a4, .int (nI z2), .int fa, .int fp])), (a3, .inl (cy 1, 4288, .inl cf))] s.heap.size = A at hD  ⊢
  have hA : ∀ q : Nat, s.heap.size ≤ q → A q := fun q h => by rw [← hAe]; exact Or.inr h
  have hS : va_S A s.heap s.heap [] := va_S.rf
  have hP : va_P D vwCl [(h0, .inr (7, [.ref a1, .int ct, .ref a2, .ref a3, .int (nI z1), .ref a4, .int (nI z2), .int fa, .int fp])), (a3, .inl (cy 1, 4288, .inl cf))] s.heap := hP
  have hl := lv_entry ([.ref h0, .int p0]) (n := 2) (Nat.le_of_ble_eq_true rfl)
  rw [lg_entry_eq]
  generalize (lg_sl ([.ref h0, .int p0]) ++ List.replicate (2 - (lg_sl ([.ref h0, .int p0])).length) Slot.unset).toArray = ls at hl ⊢
  have hl : lv_has ls 2 [(0, .ref h0), (1, .int p0)] := hl
  refine lv_iload_n hx hb dX7_codeAt_0 rfl (lv_at hl 1 rfl) ?_
  refine lv_if_lt (tgt := 28) hx hb dX7_codeAt_1 (by decide) (fun c1 => ?_) (fun c1 => ?_)
  · refine lv_bipush (v := 31) hx hb dX7_codeAt_28 (by decide) ?_
    have hP9 := hP.sub (ws' := [(h0, .inr (7, [.ref a1, .int ct, .ref a2, .ref a3, .int (nI z1), .ref a4, .int (nI z2), .int fa, .int fp])), (a3, .inl (cy 1, 4288, .inl cf))]) [0, 1] rfl
    have hD9 := hD.sub (ws' := [(h0, .inr (7, [.ref a1, .int ct, .ref a2, .ref a3, .int (nI z1), .ref a4, .int (nI z2), .int fa, .int fp])), (a3, .inl (cy 1, 4288, .inl cf))]) [0, 1] (by decide) rfl
    refine W.widen (k := 0) (n := 0) (Nat.le_of_ble_eq_true rfl) (Nat.le_of_ble_eq_true rfl) ?_
    exact W.iret (v := 31) hx hb hr (fun t ht hW => ⟨⟨31, (), rfl, trivial, by rw [ht]; exact hP9, hD9⟩, hS.F ht⟩) hS.2.2 dX7_codeAt_30
  · refine lv_iload_n hx hb dX7_codeAt_4 rfl (lv_at hl 1 rfl) ?_
    refine lv_aload_n hx hb dX7_codeAt_5 rfl (lv_at hl 0 rfl) ?_
    refine va_get (D := D) (ci := 7) (v := .int (nI z1)) (C := RX7) (T := TX7) (N := 9) hx hb hT i_TX7 hown hK hP 0 rfl rfl 4 (by decide) (hT _ t_222) (fun _ h9 => h9) rfl dX7_codeAt_6 ?_
    refine lv_icmp_ge (tgt := 28) hx hb dX7_codeAt_9 (by decide) (fun c2 => ?_) (fun c2 => ?_)
    · refine lv_bipush (v := 31) hx hb dX7_codeAt_28 (by decide) ?_
      have hP9 := hP.sub (ws' := [(h0, .inr (7, [.ref a1, .int ct, .ref a2, .ref a3, .int (nI z1), .ref a4, .int (nI z2), .int fa, .int fp])), (a3, .inl (cy 1, 4288, .inl cf))]) [0, 1] rfl
      have hD9 := hD.sub (ws' := [(h0, .inr (7, [.ref a1, .int ct, .ref a2, .ref a3, .int (nI z1), .ref a4, .int (nI z2), .int fa, .int fp])), (a3, .inl (cy 1, 4288, .inl cf))]) [0, 1] (by decide) rfl
      refine W.widen (k := 0) (n := 0) (Nat.le_of_ble_eq_true rfl) (Nat.le_of_ble_eq_true rfl) ?_
      exact W.iret (v := 31) hx hb hr (fun t ht hW => ⟨⟨31, (), rfl, trivial, by rw [ht]; exact hP9, hD9⟩, hS.F ht⟩) hS.2.2 dX7_codeAt_30
    · refine lv_iload_n hx hb dX7_codeAt_12 rfl (lv_at hl 1 rfl) ?_
      refine lv_sipush (v := 4288) hx hb dX7_codeAt_13 (by decide) ?_
      refine lv_icmp_ge (tgt := 28) hx hb dX7_codeAt_16 (by decide) (fun c3 => ?_) (fun c3 => ?_)
      · refine lv_bipush (v := 31) hx hb dX7_codeAt_28 (by decide) ?_
        have hP9 := hP.sub (ws' := [(h0, .inr (7, [.ref a1, .int ct, .ref a2, .ref a3, .int (nI z1), .ref a4, .int (nI z2), .int fa, .int fp])), (a3, .inl (cy 1, 4288, .inl cf))]) [0, 1] rfl
        have hD9 := hD.sub (ws' := [(h0, .inr (7, [.ref a1, .int ct, .ref a2, .ref a3, .int (nI z1), .ref a4, .int (nI z2), .int fa, .int fp])), (a3, .inl (cy 1, 4288, .inl cf))]) [0, 1] (by decide) rfl
        refine W.widen (k := 0) (n := 0) (Nat.le_of_ble_eq_true rfl) (Nat.le_of_ble_eq_true rfl) ?_
        exact W.iret (v := 31) hx hb hr (fun t ht hW => ⟨⟨31, (), rfl, trivial, by rw [ht]; exact hP9, hD9⟩, hS.F ht⟩) hS.2.2 dX7_codeAt_30
      · refine lv_aload_n hx hb dX7_codeAt_19 rfl (lv_at hl 0 rfl) ?_
        refine va_get (D := D) (ci := 7) (v := .ref a3) (C := RX7) (T := TX7) (N := 9) hx hb hT i_TX7 hown hK hP 0 rfl rfl 3 (by decide) (hT _ t_221) (fun _ h9 => h9) rfl dX7_codeAt_20 ?_
        refine lv_iload_n hx hb dX7_codeAt_23 rfl (lv_at hl 1 rfl) ?_
        refine va_iald hx hb hK hP 1 1 rfl rfl (vin_of c1 (n := 4288) c3 (by decide)) dX7_codeAt_24 ?_
        refine lv_topi (fun z4 e5 => ?_)
        refine lv_goto (tgt := 30) hx hb dX7_codeAt_25 (by decide) ?_
        have hP9 := hP.sub (ws' := [(h0, .inr (7, [.ref a1, .int ct, .ref a2, .ref a3, .int (nI z1), .ref a4, .int (nI z2), .int fa, .int fp])), (a3, .inl (cy 1, 4288, .inl cf))]) [0, 1] rfl
        have hD9 := hD.sub (ws' := [(h0, .inr (7, [.ref a1, .int ct, .ref a2, .ref a3, .int (nI z1), .ref a4, .int (nI z2), .int fa, .int fp])), (a3, .inl (cy 1, 4288, .inl cf))]) [0, 1] (by decide) rfl
        refine W.widen (k := 0) (n := 0) (Nat.le_of_ble_eq_true rfl) (Nat.le_of_ble_eq_true rfl) ?_
        exact W.iret (v := z4) hx hb hr (fun t ht hW => ⟨⟨z4, (), rfl, trivial, by rw [ht]; exact hP9, hD9⟩, hS.F ht⟩) hS.2.2 dX7_codeAt_30

set_option maxHeartbeats 4000000 in
set_option maxRecDepth 100000 in
theorem g_shapeAt (l : Launch) (D : va_G) (cy : Nat → ClassId) (sz : Nat) (h0 : Nat) (a1 : Nat) (a2 : Nat) (a3 : Nat) (a4 : Nat) (ct : Int32) (z1 : Nat) (z2 : Nat) (fa : Int32) (fp : Int32) (cf : Nat → Int32) (sf : Nat → Int32) (p0 : Int32) : Met l yX7_shapeAt (.code yX7_shapeAt cX7_shapeAt 2 (some .int) :: TB) ({ frames := 0, cells := 0, slots := 0, locals := 0 }) (va_Pc [.ref h0, .int p0] (fun U => U.heap.size = sz ∧ va_P D vwCl [(h0, .inr (7, [.ref a1, .int ct, .ref a2, .ref a3, .int (nI z1), .ref a4, .int (nI z2), .int fa, .int fp])), (a4, .inl (cy 1, 2064, .inl sf))] U.heap ∧ va_K D vwCl (TY cy) U ∧ va_D (fun _ => True) [(h0, .inr (7, [.ref a1, .int ct, .ref a2, .ref a3, .int (nI z1), .ref a4, .int (nI z2), .int fa, .int fp])), (a4, .inl (cy 1, 2064, .inl sf))])) (va_Qi (fun (r : Int32) (u : Unit) => True) (fun (u : Unit) t => va_P D vwCl [(h0, .inr (7, [.ref a1, .int ct, .ref a2, .ref a3, .int (nI z1), .ref a4, .int (nI z2), .int fa, .int fp])), (a4, .inl (cy 1, 2064, .inl sf))] t.heap ∧ va_D (va_A [(h0, .inr (7, [.ref a1, .int ct, .ref a2, .ref a3, .int (nI z1), .ref a4, .int (nI z2), .int fa, .int fp])), (a4, .inl (cy 1, 2064, .inl sf))] sz) [(h0, .inr (7, [.ref a1, .int ct, .ref a2, .ref a3, .int (nI z1), .ref a4, .int (nI z2), .int fa, .int fp])), (a4, .inl (cy 1, 2064, .inl sf))]) (va_A [(h0, .inr (7, [.ref a1, .int ct, .ref a2, .ref a3, .int (nI z1), .ref a4, .int (nI z2), .int fa, .int fp])), (a4, .inl (cy 1, 2064, .inl sf))] sz)) 0 0 (va_A [(h0, .inr (7, [.ref a1, .int ct, .ref a2, .ref a3, .int (nI z1), .ref a4, .int (nI z2), .int fa, .int fp])), (a4, .inl (cy 1, 2064, .inl sf))] sz) := by
  refine Met.ofW (cc := cX7_shapeAt) (maxL := 2) (ret := (some .int)) (by decide) rfl ?_
  intro p e s m args below meth c s₁ B hml hv
  obtain ⟨rfl, hsz, hP, hK, hD0⟩ := hv
  have hx := B.exec
  have hb := B.bytes
  have hr := B.returns
  have hts := atoms_spec (ws := .code yX7_shapeAt cX7_shapeAt 2 (some .int) :: TB) B.pre
  have hT : ∀ w ∈ TB, w.before _ s = true := fun w h => hts w (List.mem_cons_of_mem _ h)
  have hown : s.vm.findClass "MakerStarts$Text" = some m.cls := findClass_of_methodNamed B.named
  have hlocks := B.notSynchronized
  subst hsz
  have hD := hD0.self (sz := s.heap.size)
  generalize hAe : va_A [(h0, .inr (7, [.ref a1, .int ct, .ref a2, .ref a3, .int (nI z1), .ref a4, .int (nI z2), .int fa, .int fp])), (a4, .inl (cy 1, 2064, .inl sf))] s.heap.size = A at hD  ⊢
  have hA : ∀ q : Nat, s.heap.size ≤ q → A q := fun q h => by rw [← hAe]; exact Or.inr h
  have hS : va_S A s.heap s.heap [] := va_S.rf
  have hP : va_P D vwCl [(h0, .inr (7, [.ref a1, .int ct, .ref a2, .ref a3, .int (nI z1), .ref a4, .int (nI z2), .int fa, .int fp])), (a4, .inl (cy 1, 2064, .inl sf))] s.heap := hP
  have hl := lv_entry ([.ref h0, .int p0]) (n := 2) (Nat.le_of_ble_eq_true rfl)
  rw [lg_entry_eq]
  generalize (lg_sl ([.ref h0, .int p0]) ++ List.replicate (2 - (lg_sl ([.ref h0, .int p0])).length) Slot.unset).toArray = ls at hl ⊢
  have hl : lv_has ls 2 [(0, .ref h0), (1, .int p0)] := hl
  refine lv_iload_n hx hb dX7_shapeAt_0 rfl (lv_at hl 1 rfl) ?_
  refine lv_if_lt (tgt := 28) hx hb dX7_shapeAt_1 (by decide) (fun c1 => ?_) (fun c1 => ?_)
  · refine lv_bipush (v := 11) hx hb dX7_shapeAt_28 (by decide) ?_
    have hP9 := hP.sub (ws' := [(h0, .inr (7, [.ref a1, .int ct, .ref a2, .ref a3, .int (nI z1), .ref a4, .int (nI z2), .int fa, .int fp])), (a4, .inl (cy 1, 2064, .inl sf))]) [0, 1] rfl
    have hD9 := hD.sub (ws' := [(h0, .inr (7, [.ref a1, .int ct, .ref a2, .ref a3, .int (nI z1), .ref a4, .int (nI z2), .int fa, .int fp])), (a4, .inl (cy 1, 2064, .inl sf))]) [0, 1] (by decide) rfl
    refine W.widen (k := 0) (n := 0) (Nat.le_of_ble_eq_true rfl) (Nat.le_of_ble_eq_true rfl) ?_
    exact W.iret (v := 11) hx hb hr (fun t ht hW => ⟨⟨11, (), rfl, trivial, by rw [ht]; exact hP9, hD9⟩, hS.F ht⟩) hS.2.2 dX7_shapeAt_30
  · refine lv_iload_n hx hb dX7_shapeAt_4 rfl (lv_at hl 1 rfl) ?_
    refine lv_aload_n hx hb dX7_shapeAt_5 rfl (lv_at hl 0 rfl) ?_
    refine va_get (D := D) (ci := 7) (v := .int (nI z2)) (C := RX7) (T := TX7) (N := 9) hx hb hT i_TX7 hown hK hP 0 rfl rfl 6 (by decide) (hT _ t_226) (fun _ h9 => h9) rfl dX7_shapeAt_6 ?_
    refine lv_icmp_ge (tgt := 28) hx hb dX7_shapeAt_9 (by decide) (fun c2 => ?_) (fun c2 => ?_)
    · refine lv_bipush (v := 11) hx hb dX7_shapeAt_28 (by decide) ?_
      have hP9 := hP.sub (ws' := [(h0, .inr (7, [.ref a1, .int ct, .ref a2, .ref a3, .int (nI z1), .ref a4, .int (nI z2), .int fa, .int fp])), (a4, .inl (cy 1, 2064, .inl sf))]) [0, 1] rfl
      have hD9 := hD.sub (ws' := [(h0, .inr (7, [.ref a1, .int ct, .ref a2, .ref a3, .int (nI z1), .ref a4, .int (nI z2), .int fa, .int fp])), (a4, .inl (cy 1, 2064, .inl sf))]) [0, 1] (by decide) rfl
      refine W.widen (k := 0) (n := 0) (Nat.le_of_ble_eq_true rfl) (Nat.le_of_ble_eq_true rfl) ?_
      exact W.iret (v := 11) hx hb hr (fun t ht hW => ⟨⟨11, (), rfl, trivial, by rw [ht]; exact hP9, hD9⟩, hS.F ht⟩) hS.2.2 dX7_shapeAt_30
    · refine lv_iload_n hx hb dX7_shapeAt_12 rfl (lv_at hl 1 rfl) ?_
      refine lv_sipush (v := 2064) hx hb dX7_shapeAt_13 (by decide) ?_
      refine lv_icmp_ge (tgt := 28) hx hb dX7_shapeAt_16 (by decide) (fun c3 => ?_) (fun c3 => ?_)
      · refine lv_bipush (v := 11) hx hb dX7_shapeAt_28 (by decide) ?_
        have hP9 := hP.sub (ws' := [(h0, .inr (7, [.ref a1, .int ct, .ref a2, .ref a3, .int (nI z1), .ref a4, .int (nI z2), .int fa, .int fp])), (a4, .inl (cy 1, 2064, .inl sf))]) [0, 1] rfl
        have hD9 := hD.sub (ws' := [(h0, .inr (7, [.ref a1, .int ct, .ref a2, .ref a3, .int (nI z1), .ref a4, .int (nI z2), .int fa, .int fp])), (a4, .inl (cy 1, 2064, .inl sf))]) [0, 1] (by decide) rfl
        refine W.widen (k := 0) (n := 0) (Nat.le_of_ble_eq_true rfl) (Nat.le_of_ble_eq_true rfl) ?_
        exact W.iret (v := 11) hx hb hr (fun t ht hW => ⟨⟨11, (), rfl, trivial, by rw [ht]; exact hP9, hD9⟩, hS.F ht⟩) hS.2.2 dX7_shapeAt_30
      · refine lv_aload_n hx hb dX7_shapeAt_19 rfl (lv_at hl 0 rfl) ?_
        refine va_get (D := D) (ci := 7) (v := .ref a4) (C := RX7) (T := TX7) (N := 9) hx hb hT i_TX7 hown hK hP 0 rfl rfl 5 (by decide) (hT _ t_225) (fun _ h9 => h9) rfl dX7_shapeAt_20 ?_
        refine lv_iload_n hx hb dX7_shapeAt_23 rfl (lv_at hl 1 rfl) ?_
        refine va_iald hx hb hK hP 1 1 rfl rfl (vin_of c1 (n := 2064) c3 (by decide)) dX7_shapeAt_24 ?_
        refine lv_topi (fun z4 e5 => ?_)
        refine lv_goto (tgt := 30) hx hb dX7_shapeAt_25 (by decide) ?_
        have hP9 := hP.sub (ws' := [(h0, .inr (7, [.ref a1, .int ct, .ref a2, .ref a3, .int (nI z1), .ref a4, .int (nI z2), .int fa, .int fp])), (a4, .inl (cy 1, 2064, .inl sf))]) [0, 1] rfl
        have hD9 := hD.sub (ws' := [(h0, .inr (7, [.ref a1, .int ct, .ref a2, .ref a3, .int (nI z1), .ref a4, .int (nI z2), .int fa, .int fp])), (a4, .inl (cy 1, 2064, .inl sf))]) [0, 1] (by decide) rfl
        refine W.widen (k := 0) (n := 0) (Nat.le_of_ble_eq_true rfl) (Nat.le_of_ble_eq_true rfl) ?_
        exact W.iret (v := z4) hx hb hr (fun t ht hW => ⟨⟨z4, (), rfl, trivial, by rw [ht]; exact hP9, hD9⟩, hS.F ht⟩) hS.2.2 dX7_shapeAt_30

set_option maxHeartbeats 4000000 in
set_option maxRecDepth 100000 in
theorem g_patch (l : Launch) (D : va_G) (cy : Nat → ClassId) (sz : Nat) (h0 : Nat) (a1 : Nat) (a2 : Nat) (a3 : Nat) (a4 : Nat) (ct : Int32) (z1 : Nat) (z2 : Nat) (fa : Int32) (fp : Int32) (cf : Nat → Int32) (sf : Nat → Int32) (p0 : Int32) (p1 : Int32) : Met l yX7_patch (.code yX7_patch cX7_patch 3 none :: TB) ({ frames := 0, cells := 0, slots := 0, locals := 0 }) (va_Pc [.ref h0, .int p0, .int p1] (fun U => U.heap.size = sz ∧ va_P D vwCl [(h0, .inr (7, [.ref a1, .int ct, .ref a2, .ref a3, .int (nI z1), .ref a4, .int (nI z2), .int fa, .int fp])), (a3, .inl (cy 1, 4288, .inl cf))] U.heap ∧ va_K D vwCl (TY cy) U ∧ va_D (fun _ => True) [(h0, .inr (7, [.ref a1, .int ct, .ref a2, .ref a3, .int (nI z1), .ref a4, .int (nI z2), .int fa, .int fp])), (a3, .inl (cy 1, 4288, .inl cf))])) (va_Qv (fun (u : Nat → Int32) => True) (fun (u : Nat → Int32) t => va_P D vwCl [(h0, .inr (7, [.ref a1, .int ct, .ref a2, .ref a3, .int (nI z1), .ref a4, .int (nI z2), .int fa, .int fp])), (a3, .inl (cy 1, 4288, .inl u))] t.heap ∧ va_D (va_A [(h0, .inr (7, [.ref a1, .int ct, .ref a2, .ref a3, .int (nI z1), .ref a4, .int (nI z2), .int fa, .int fp])), (a3, .inl (cy 1, 4288, .inl cf))] sz) [(h0, .inr (7, [.ref a1, .int ct, .ref a2, .ref a3, .int (nI z1), .ref a4, .int (nI z2), .int fa, .int fp])), (a3, .inl (cy 1, 4288, .inl u))]) (va_A [(h0, .inr (7, [.ref a1, .int ct, .ref a2, .ref a3, .int (nI z1), .ref a4, .int (nI z2), .int fa, .int fp])), (a3, .inl (cy 1, 4288, .inl cf))] sz)) 0 0 (va_A [(h0, .inr (7, [.ref a1, .int ct, .ref a2, .ref a3, .int (nI z1), .ref a4, .int (nI z2), .int fa, .int fp])), (a3, .inl (cy 1, 4288, .inl cf))] sz) := by
  refine Met.ofW (cc := cX7_patch) (maxL := 3) (ret := none) (by decide) rfl ?_
  intro p e s m args below meth c s₁ B hml hv
  obtain ⟨rfl, hsz, hP, hK, hD0⟩ := hv
  have hx := B.exec
  have hb := B.bytes
  have hr := B.returns
  have hts := atoms_spec (ws := .code yX7_patch cX7_patch 3 none :: TB) B.pre
  have hT : ∀ w ∈ TB, w.before _ s = true := fun w h => hts w (List.mem_cons_of_mem _ h)
  have hown : s.vm.findClass "MakerStarts$Text" = some m.cls := findClass_of_methodNamed B.named
  have hlocks := B.notSynchronized
  subst hsz
  have hD := hD0.self (sz := s.heap.size)
  generalize hAe : va_A [(h0, .inr (7, [.ref a1, .int ct, .ref a2, .ref a3, .int (nI z1), .ref a4, .int (nI z2), .int fa, .int fp])), (a3, .inl (cy 1, 4288, .inl cf))] s.heap.size = A at hD  ⊢
  have hA : ∀ q : Nat, s.heap.size ≤ q → A q := fun q h => by rw [← hAe]; exact Or.inr h
  have hS : va_S A s.heap s.heap [] := va_S.rf
  have hP : va_P D vwCl [(h0, .inr (7, [.ref a1, .int ct, .ref a2, .ref a3, .int (nI z1), .ref a4, .int (nI z2), .int fa, .int fp])), (a3, .inl (cy 1, 4288, .inl cf))] s.heap := hP
  have hl := lv_entry ([.ref h0, .int p0, .int p1]) (n := 3) (Nat.le_of_ble_eq_true rfl)
  rw [lg_entry_eq]
  generalize (lg_sl ([.ref h0, .int p0, .int p1]) ++ List.replicate (3 - (lg_sl ([.ref h0, .int p0, .int p1])).length) Slot.unset).toArray = ls at hl ⊢
  have hl : lv_has ls 3 [(0, .ref h0), (1, .int p0), (2, .int p1)] := hl
  refine lv_iload_n hx hb dX7_patch_0 rfl (lv_at hl 1 rfl) ?_
  refine lv_if_lt (tgt := 26) hx hb dX7_patch_1 (by decide) (fun c1 => ?_) (fun c1 => ?_)
  · have hP9 := hP.sub (ws' := [(h0, .inr (7, [.ref a1, .int ct, .ref a2, .ref a3, .int (nI z1), .ref a4, .int (nI z2), .int fa, .int fp])), (a3, .inl (cy 1, 4288, .inl cf))]) [0, 1] rfl
    have hD9 := hD.sub (ws' := [(h0, .inr (7, [.ref a1, .int ct, .ref a2, .ref a3, .int (nI z1), .ref a4, .int (nI z2), .int fa, .int fp])), (a3, .inl (cy 1, 4288, .inl cf))]) [0, 1] (by decide) rfl
    refine W.widen (k := 0) (n := 0) (Nat.le_of_ble_eq_true rfl) (Nat.le_of_ble_eq_true rfl) ?_
    exact W.vret hx hb hr (fun t ht hW => ⟨⟨cf, rfl, trivial, by rw [ht]; exact hP9, hD9⟩, hS.F ht⟩) hS.2.2 dX7_patch_26
  · refine lv_iload_n hx hb dX7_patch_4 rfl (lv_at hl 1 rfl) ?_
    refine lv_aload_n hx hb dX7_patch_5 rfl (lv_at hl 0 rfl) ?_
    refine va_get (D := D) (ci := 7) (v := .int (nI z1)) (C := RX7) (T := TX7) (N := 9) hx hb hT i_TX7 hown hK hP 0 rfl rfl 4 (by decide) (hT _ t_222) (fun _ h9 => h9) rfl dX7_patch_6 ?_
    refine lv_icmp_ge (tgt := 26) hx hb dX7_patch_9 (by decide) (fun c2 => ?_) (fun c2 => ?_)
    · have hP9 := hP.sub (ws' := [(h0, .inr (7, [.ref a1, .int ct, .ref a2, .ref a3, .int (nI z1), .ref a4, .int (nI z2), .int fa, .int fp])), (a3, .inl (cy 1, 4288, .inl cf))]) [0, 1] rfl
      have hD9 := hD.sub (ws' := [(h0, .inr (7, [.ref a1, .int ct, .ref a2, .ref a3, .int (nI z1), .ref a4, .int (nI z2), .int fa, .int fp])), (a3, .inl (cy 1, 4288, .inl cf))]) [0, 1] (by decide) rfl
      refine W.widen (k := 0) (n := 0) (Nat.le_of_ble_eq_true rfl) (Nat.le_of_ble_eq_true rfl) ?_
      exact W.vret hx hb hr (fun t ht hW => ⟨⟨cf, rfl, trivial, by rw [ht]; exact hP9, hD9⟩, hS.F ht⟩) hS.2.2 dX7_patch_26
    · refine lv_iload_n hx hb dX7_patch_12 rfl (lv_at hl 1 rfl) ?_
      refine lv_sipush (v := 4288) hx hb dX7_patch_13 (by decide) ?_
      refine lv_icmp_ge (tgt := 26) hx hb dX7_patch_16 (by decide) (fun c3 => ?_) (fun c3 => ?_)
      · have hP9 := hP.sub (ws' := [(h0, .inr (7, [.ref a1, .int ct, .ref a2, .ref a3, .int (nI z1), .ref a4, .int (nI z2), .int fa, .int fp])), (a3, .inl (cy 1, 4288, .inl cf))]) [0, 1] rfl
        have hD9 := hD.sub (ws' := [(h0, .inr (7, [.ref a1, .int ct, .ref a2, .ref a3, .int (nI z1), .ref a4, .int (nI z2), .int fa, .int fp])), (a3, .inl (cy 1, 4288, .inl cf))]) [0, 1] (by decide) rfl
        refine W.widen (k := 0) (n := 0) (Nat.le_of_ble_eq_true rfl) (Nat.le_of_ble_eq_true rfl) ?_
        exact W.vret hx hb hr (fun t ht hW => ⟨⟨cf, rfl, trivial, by rw [ht]; exact hP9, hD9⟩, hS.F ht⟩) hS.2.2 dX7_patch_26
      · refine lv_aload_n hx hb dX7_patch_19 rfl (lv_at hl 0 rfl) ?_
        refine va_get (D := D) (ci := 7) (v := .ref a3) (C := RX7) (T := TX7) (N := 9) hx hb hT i_TX7 hown hK hP 0 rfl rfl 3 (by decide) (hT _ t_221) (fun _ h9 => h9) rfl dX7_patch_20 ?_
        refine lv_iload_n hx hb dX7_patch_23 rfl (lv_at hl 1 rfl) ?_
        refine lv_iload_n hx hb dX7_patch_24 rfl (lv_at hl 2 rfl) ?_
        refine va_iast hx hb hK hP hD hS 1 1 rfl rfl (vin_of c1 (n := 4288) c3 (by decide)) dX7_patch_25 (fun H locs hP hD hS => ?_)
        have hP : va_P D vwCl [(h0, .inr (7, [.ref a1, .int ct, .ref a2, .ref a3, .int (nI z1), .ref a4, .int (nI z2), .int fa, .int fp])), (a3, .inl (cy 1, 4288, .inl (upd cf (p0 : Int32).toNatClampNeg p1)))] H := hP
        have hD : va_D A [(h0, .inr (7, [.ref a1, .int ct, .ref a2, .ref a3, .int (nI z1), .ref a4, .int (nI z2), .int fa, .int fp])), (a3, .inl (cy 1, 4288, .inl (upd cf (p0 : Int32).toNatClampNeg p1)))] := hD
        generalize hff4 : (upd cf (p0 : Int32).toNatClampNeg p1) = f4 at hP hD
        have hP9 := hP.sub (ws' := [(h0, .inr (7, [.ref a1, .int ct, .ref a2, .ref a3, .int (nI z1), .ref a4, .int (nI z2), .int fa, .int fp])), (a3, .inl (cy 1, 4288, .inl f4))]) [0, 1] rfl
        have hD9 := hD.sub (ws' := [(h0, .inr (7, [.ref a1, .int ct, .ref a2, .ref a3, .int (nI z1), .ref a4, .int (nI z2), .int fa, .int fp])), (a3, .inl (cy 1, 4288, .inl f4))]) [0, 1] (by decide) rfl
        refine W.widen (k := 0) (n := 0) (Nat.le_of_ble_eq_true rfl) (Nat.le_of_ble_eq_true rfl) ?_
        exact W.vret hx hb hr (fun t ht hW => ⟨⟨f4, rfl, trivial, by rw [ht]; exact hP9, hD9⟩, hS.F ht⟩) hS.2.2 dX7_patch_26

set_option maxHeartbeats 4000000 in
set_option maxRecDepth 100000 in
theorem g_put (l : Launch) (D : va_G) (cy : Nat → ClassId) (sz : Nat) (h0 : Nat) (a1 : Nat) (a2 : Nat) (a3 : Nat) (a4 : Nat) (ct : Int32) (z1 : Nat) (z2 : Nat) (fa : Int32) (fp : Int32) (cf : Nat → Int32) (sf : Nat → Int32) (p0 : Int32) (hz1 : z1 ≤ 4288) (hz2 : z2 ≤ 2064) : Met l yX7_put (.code yX7_put cX7_put 2 none :: TB) ({ frames := 0, cells := 0, slots := 0, locals := 0 }) (va_Pc [.ref h0, .int p0] (fun U => U.heap.size = sz ∧ va_P D vwCl [(h0, .inr (7, [.ref a1, .int ct, .ref a2, .ref a3, .int (nI z1), .ref a4, .int (nI z2), .int fa, .int fp])), (a3, .inl (cy 1, 4288, .inl cf))] U.heap ∧ va_K D vwCl (TY cy) U ∧ va_D (fun _ => True) [(h0, .inr (7, [.ref a1, .int ct, .ref a2, .ref a3, .int (nI z1), .ref a4, .int (nI z2), .int fa, .int fp])), (a3, .inl (cy 1, 4288, .inl cf))])) (va_Qv (fun (u : Nat × (Nat → Int32)) => u.1 ≤ 4288) (fun (u : Nat × (Nat → Int32)) t => va_P D vwCl [(h0, .inr (7, [.ref a1, .int ct, .ref a2, .ref a3, .int (nI u.1), .ref a4, .int (nI z2), .int fa, .int fp])), (a3, .inl (cy 1, 4288, .inl u.2))] t.heap ∧ va_D (va_A [(h0, .inr (7, [.ref a1, .int ct, .ref a2, .ref a3, .int (nI z1), .ref a4, .int (nI z2), .int fa, .int fp])), (a3, .inl (cy 1, 4288, .inl cf))] sz) [(h0, .inr (7, [.ref a1, .int ct, .ref a2, .ref a3, .int (nI u.1), .ref a4, .int (nI z2), .int fa, .int fp])), (a3, .inl (cy 1, 4288, .inl u.2))]) (va_A [(h0, .inr (7, [.ref a1, .int ct, .ref a2, .ref a3, .int (nI z1), .ref a4, .int (nI z2), .int fa, .int fp])), (a3, .inl (cy 1, 4288, .inl cf))] sz)) 0 0 (va_A [(h0, .inr (7, [.ref a1, .int ct, .ref a2, .ref a3, .int (nI z1), .ref a4, .int (nI z2), .int fa, .int fp])), (a3, .inl (cy 1, 4288, .inl cf))] sz) := by
  refine Met.ofW (cc := cX7_put) (maxL := 2) (ret := none) (by decide) rfl ?_
  intro p e s m args below meth c s₁ B hml hv
  obtain ⟨rfl, hsz, hP, hK, hD0⟩ := hv
  have hx := B.exec
  have hb := B.bytes
  have hr := B.returns
  have hts := atoms_spec (ws := .code yX7_put cX7_put 2 none :: TB) B.pre
  have hT : ∀ w ∈ TB, w.before _ s = true := fun w h => hts w (List.mem_cons_of_mem _ h)
  have hown : s.vm.findClass "MakerStarts$Text" = some m.cls := findClass_of_methodNamed B.named
  have hlocks := B.notSynchronized
  subst hsz
  have hD := hD0.self (sz := s.heap.size)
  generalize hAe : va_A [(h0, .inr (7, [.ref a1, .int ct, .ref a2, .ref a3, .int (nI z1), .ref a4, .int (nI z2), .int fa, .int fp])), (a3, .inl (cy 1, 4288, .inl cf))] s.heap.size = A at hD  ⊢
  have hA : ∀ q : Nat, s.heap.size ≤ q → A q := fun q h => by rw [← hAe]; exact Or.inr h
  have hS : va_S A s.heap s.heap [] := va_S.rf
  have hP : va_P D vwCl [(h0, .inr (7, [.ref a1, .int ct, .ref a2, .ref a3, .int (nI z1), .ref a4, .int (nI z2), .int fa, .int fp])), (a3, .inl (cy 1, 4288, .inl cf))] s.heap := hP
  have hl := lv_entry ([.ref h0, .int p0]) (n := 2) (Nat.le_of_ble_eq_true rfl)
  rw [lg_entry_eq]
  generalize (lg_sl ([.ref h0, .int p0]) ++ List.replicate (2 - (lg_sl ([.ref h0, .int p0])).length) Slot.unset).toArray = ls at hl ⊢
  have hl : lv_has ls 2 [(0, .ref h0), (1, .int p0)] := hl
  refine lv_aload_n hx hb dX7_put_0 rfl (lv_at hl 0 rfl) ?_
  refine va_get (D := D) (ci := 7) (v := .int (nI z1)) (C := RX7) (T := TX7) (N := 9) hx hb hT i_TX7 hown hK hP 0 rfl rfl 4 (by decide) (hT _ t_222) (fun _ h9 => h9) rfl dX7_put_1 ?_
  refine lv_sipush (v := 4288) hx hb dX7_put_4 (by decide) ?_
  refine lv_icmp_ge (tgt := 30) hx hb dX7_put_7 (by decide) (fun c1 => ?_) (fun c1 => ?_)
  · have hP9 := hP.sub (ws' := [(h0, .inr (7, [.ref a1, .int ct, .ref a2, .ref a3, .int (nI z1), .ref a4, .int (nI z2), .int fa, .int fp])), (a3, .inl (cy 1, 4288, .inl cf))]) [0, 1] rfl
    have hD9 := hD.sub (ws' := [(h0, .inr (7, [.ref a1, .int ct, .ref a2, .ref a3, .int (nI z1), .ref a4, .int (nI z2), .int fa, .int fp])), (a3, .inl (cy 1, 4288, .inl cf))]) [0, 1] (by decide) rfl
    refine W.widen (k := 0) (n := 0) (Nat.le_of_ble_eq_true rfl) (Nat.le_of_ble_eq_true rfl) ?_
    exact W.vret hx hb hr (fun t ht hW => ⟨⟨(z1, cf), rfl, hz1, by rw [ht]; exact hP9, hD9⟩, hS.F ht⟩) hS.2.2 dX7_put_30
  · have hlt : z1 < 4288 := by
      rcases Nat.lt_or_ge z1 4288 with q | q
      · exact q
      · exact absurd (nI_le (a := 4288) (b := z1) q (by omega)) c1
    refine lv_aload_n hx hb dX7_put_10 rfl (lv_at hl 0 rfl) ?_
    refine va_get (D := D) (ci := 7) (v := .ref a3) (C := RX7) (T := TX7) (N := 9) hx hb hT i_TX7 hown hK hP 0 rfl rfl 3 (by decide) (hT _ t_221) (fun _ h9 => h9) rfl dX7_put_11 ?_
    refine lv_aload_n hx hb dX7_put_14 rfl (lv_at hl 0 rfl) ?_
    refine va_get (D := D) (ci := 7) (v := .int (nI z1)) (C := RX7) (T := TX7) (N := 9) hx hb hT i_TX7 hown hK hP 0 rfl rfl 4 (by decide) (hT _ t_222) (fun _ h9 => h9) rfl dX7_put_15 ?_
    refine lv_iload_n hx hb dX7_put_18 rfl (lv_at hl 1 rfl) ?_
    refine va_iast hx hb hK hP hD hS 1 1 rfl rfl (vp_in_nI hlt (by decide)) dX7_put_19 (fun H locs hP hD hS => ?_)
    have hP : va_P D vwCl [(h0, .inr (7, [.ref a1, .int ct, .ref a2, .ref a3, .int (nI z1), .ref a4, .int (nI z2), .int fa, .int fp])), (a3, .inl (cy 1, 4288, .inl (upd cf ((nI z1) : Int32).toNatClampNeg p0)))] H := hP
    have hD : va_D A [(h0, .inr (7, [.ref a1, .int ct, .ref a2, .ref a3, .int (nI z1), .ref a4, .int (nI z2), .int fa, .int fp])), (a3, .inl (cy 1, 4288, .inl (upd cf ((nI z1) : Int32).toNatClampNeg p0)))] := hD
    generalize hff2 : (upd cf ((nI z1) : Int32).toNatClampNeg p0) = f2 at hP hD
    refine lv_aload_n hx hb dX7_put_20 rfl (lv_at hl 0 rfl) ?_
    refine lv_dup hx hb dX7_put_21 rfl ?_
    refine va_get (D := D) (ci := 7) (v := .int (nI z1)) (C := RX7) (T := TX7) (N := 9) hx hb hT i_TX7 hown hK hP 0 rfl rfl 4 (by decide) (hT _ t_222) (fun _ h9 => h9) rfl dX7_put_22 ?_
    refine lv_iconst (v := 1) hx hb dX7_put_25 (by decide) ?_
    refine lv_iadd hx hb dX7_put_26 ?_
    refine lv_topi (fun z3 e4 => ?_)
    obtain rfl : z3 = nI (z1 + 1) := e4.trans (nI_1 z1)
    refine va_put (D := D) (ci := 7) (v := .int (nI (z1 + 1))) (ty := .int) (C := RX7) (T := TX7) (N := 9) hx hb hT i_TX7 tyX7 tyX7_ok nmX7 hown hK hP hD hS 0 rfl rfl 4 (by decide) (hT _ t_222) (fun _ h9 => h9) rfl (by decide +kernel) rfl rfl (Nat.le_of_ble_eq_true rfl) dX7_put_27 (fun H locs hP hD hS => ?_)
    have hP : va_P D vwCl [(h0, .inr (7, [.ref a1, .int ct, .ref a2, .ref a3, .int (nI (z1 + 1)), .ref a4, .int (nI z2), .int fa, .int fp])), (a3, .inl (cy 1, 4288, .inl f2))] H := hP
    have hD : va_D A [(h0, .inr (7, [.ref a1, .int ct, .ref a2, .ref a3, .int (nI (z1 + 1)), .ref a4, .int (nI z2), .int fa, .int fp])), (a3, .inl (cy 1, 4288, .inl f2))] := hD
    have hP9 := hP.sub (ws' := [(h0, .inr (7, [.ref a1, .int ct, .ref a2, .ref a3, .int (nI (z1 + 1)), .ref a4, .int (nI z2), .int fa, .int fp])), (a3, .inl (cy 1, 4288, .inl f2))]) [0, 1] rfl
    have hD9 := hD.sub (ws' := [(h0, .inr (7, [.ref a1, .int ct, .ref a2, .ref a3, .int (nI (z1 + 1)), .ref a4, .int (nI z2), .int fa, .int fp])), (a3, .inl (cy 1, 4288, .inl f2))]) [0, 1] (by decide) rfl
    refine W.widen (k := 0) (n := 0) (Nat.le_of_ble_eq_true rfl) (Nat.le_of_ble_eq_true rfl) ?_
    exact W.vret hx hb hr (fun t ht hW => ⟨⟨((z1 + 1), f2), rfl, (show z1 + 1 ≤ 4288 from hlt), by rw [ht]; exact hP9, hD9⟩, hS.F ht⟩) hS.2.2 dX7_put_30
