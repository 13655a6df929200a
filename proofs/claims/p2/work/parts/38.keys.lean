theorem dX8_findKeys_10 : decode cX8_findKeys 10 = .ok (.iconst 0, 1) := by decide +kernel
theorem dX8_findKeys_11 : decode cX8_findKeys 11 = .ok (.istore_n 2, 1) := by decide +kernel
theorem dX8_findKeys_12 : decode cX8_findKeys 12 = .ok (.iload_n 2, 1) := by decide +kernel
theorem dX8_findKeys_13 : decode cX8_findKeys 13 = .ok (.bipush 19, 2) := by decide +kernel
theorem dX8_findKeys_15 : decode cX8_findKeys 15 = .ok (.if_icmp .ge 46, 3) := by decide +kernel
theorem dX8_findKeys_18 : decode cX8_findKeys 18 = .ok (.aload_n 0, 1) := by decide +kernel
theorem dX8_findKeys_19 : decode cX8_findKeys 19 = .ok (.getfield 9, 3) := by decide +kernel
theorem dX8_findKeys_22 : decode cX8_findKeys 22 = .ok (.iload_n 1, 1) := by decide +kernel
theorem dX8_findKeys_23 : decode cX8_findKeys 23 = .ok (.iaload, 1) := by decide +kernel
theorem dX8_findKeys_24 : decode cX8_findKeys 24 = .ok (.iconst 2, 1) := by decide +kernel
theorem dX8_findKeys_25 : decode cX8_findKeys 25 = .ok (.if_icmp .ne 36, 3) := by decide +kernel
theorem dX8_findKeys_28 : decode cX8_findKeys 28 = .ok (.aload_n 0, 1) := by decide +kernel
theorem dX8_findKeys_29 : decode cX8_findKeys 29 = .ok (.getfield 18, 3) := by decide +kernel
theorem dX8_findKeys_32 : decode cX8_findKeys 32 = .ok (.iload_n 1, 1) := by decide +kernel
theorem dX8_findKeys_33 : decode cX8_findKeys 33 = .ok (.laload, 1) := by decide +kernel
theorem dX8_findKeys_34 : decode cX8_findKeys 34 = .ok (.aload_n 0, 1) := by decide +kernel
theorem dX8_findKeys_35 : decode cX8_findKeys 35 = .ok (.getfield 22, 3) := by decide +kernel
theorem dX8_findKeys_38 : decode cX8_findKeys 38 = .ok (.iload_n 2, 1) := by decide +kernel
theorem dX8_findKeys_39 : decode cX8_findKeys 39 = .ok (.laload, 1) := by decide +kernel
theorem dX8_findKeys_40 : decode cX8_findKeys 40 = .ok (.lcmp, 1) := by decide +kernel
theorem dX8_findKeys_41 : decode cX8_findKeys 41 = .ok (.ifCond .ne 14, 3) := by decide +kernel
theorem dX8_findKeys_44 : decode cX8_findKeys 44 = .ok (.aload_n 0, 1) := by decide +kernel
theorem dX8_findKeys_45 : decode cX8_findKeys 45 = .ok (.getfield 9, 3) := by decide +kernel
theorem dX8_findKeys_48 : decode cX8_findKeys 48 = .ok (.iload_n 1, 1) := by decide +kernel
theorem dX8_findKeys_49 : decode cX8_findKeys 49 = .ok (.sipush 256, 3) := by decide +kernel
theorem dX8_findKeys_52 : decode cX8_findKeys 52 = .ok (.iload_n 2, 1) := by decide +kernel
theorem dX8_findKeys_53 : decode cX8_findKeys 53 = .ok (.iadd, 1) := by decide +kernel
theorem dX8_findKeys_54 : decode cX8_findKeys 54 = .ok (.iastore, 1) := by decide +kernel
theorem dX8_findKeys_55 : decode cX8_findKeys 55 = .ok (.iinc 2 1, 3) := by decide +kernel
theorem dX8_findKeys_58 : decode cX8_findKeys 58 = .ok (.goto (-46), 3) := by decide +kernel
theorem dX8_findKeys_61 : decode cX8_findKeys 61 = .ok (.iinc 1 1, 3) := by decide +kernel
theorem dX8_findKeys_64 : decode cX8_findKeys 64 = .ok (.goto (-62), 3) := by decide +kernel
set_option maxHeartbeats 4000000 in
set_option maxRecDepth 100000 in
theorem g_findKeys (l : Launch) (D : va_G) (cy : Nat → ClassId) (sz : Nat) (h0 : Nat) (a1 : Nat) (a2 : Nat) (a3 : Nat) (a4 : Nat) (kf : Nat → Int32) (pf : Nat → Int32) (wf : Nat → Int64) (cn : Nat) (ln : Int32) (at0 : Nat) (fa : Int32) (fp : Int32) (ky : Nat → Int64) (hc : cn ≤ 1600) (ha : at0 ≤ cn) : Met l yX8_findKeys (.code yX8_findKeys cX8_findKeys 3 none :: TB) ({ frames := 0, cells := 0, slots := 0, locals := 0 }) (va_Pc [.ref h0] (fun U => U.heap.size = sz ∧ va_P D vwCl [(h0, .inr (8, [.ref a1, .ref a2, .ref a3, .ref a4, .int (nI cn), .int ln, .int (nI at0), .int fa, .int fp])), (a1, .inl (cy 1, 1601, .inl kf)), (a2, .inl (cy 1, 1601, .inl pf)), (a3, .inl (cy 2, 1601, .inr (.inl wf))), (a4, .inl (cy 2, 19, .inr (.inl ky)))] U.heap ∧ va_K D vwCl (TY cy) U ∧ va_D (fun _ => True) [(h0, .inr (8, [.ref a1, .ref a2, .ref a3, .ref a4, .int (nI cn), .int ln, .int (nI at0), .int fa, .int fp])), (a1, .inl (cy 1, 1601, .inl kf)), (a2, .inl (cy 1, 1601, .inl pf)), (a3, .inl (cy 2, 1601, .inr (.inl wf))), (a4, .inl (cy 2, 19, .inr (.inl ky)))])) (va_Qv (fun (u : Nat → Int32) => True) (fun (u : Nat → Int32) t => va_P D vwCl [(h0, .inr (8, [.ref a1, .ref a2, .ref a3, .ref a4, .int (nI cn), .int ln, .int (nI at0), .int fa, .int fp])), (a1, .inl (cy 1, 1601, .inl u)), (a2, .inl (cy 1, 1601, .inl pf)), (a3, .inl (cy 2, 1601, .inr (.inl wf))), (a4, .inl (cy 2, 19, .inr (.inl ky)))] t.heap ∧ va_D (va_A [(h0, .inr (8, [.ref a1, .ref a2, .ref a3, .ref a4, .int (nI cn), .int ln, .int (nI at0), .int fa, .int fp])), (a1, .inl (cy 1, 1601, .inl kf)), (a2, .inl (cy 1, 1601, .inl pf)), (a3, .inl (cy 2, 1601, .inr (.inl wf))), (a4, .inl (cy 2, 19, .inr (.inl ky)))] sz) [(h0, .inr (8, [.ref a1, .ref a2, .ref a3, .ref a4, .int (nI cn), .int ln, .int (nI at0), .int fa, .int fp])), (a1, .inl (cy 1, 1601, .inl u)), (a2, .inl (cy 1, 1601, .inl pf)), (a3, .inl (cy 2, 1601, .inr (.inl wf))), (a4, .inl (cy 2, 19, .inr (.inl ky)))]) (va_A [(h0, .inr (8, [.ref a1, .ref a2, .ref a3, .ref a4, .int (nI cn), .int ln, .int (nI at0), .int fa, .int fp])), (a1, .inl (cy 1, 1601, .inl kf)), (a2, .inl (cy 1, 1601, .inl pf)), (a3, .inl (cy 2, 1601, .inr (.inl wf))), (a4, .inl (cy 2, 19, .inr (.inl ky)))] sz)) 0 0 (va_A [(h0, .inr (8, [.ref a1, .ref a2, .ref a3, .ref a4, .int (nI cn), .int ln, .int (nI at0), .int fa, .int fp])), (a1, .inl (cy 1, 1601, .inl kf)), (a2, .inl (cy 1, 1601, .inl pf)), (a3, .inl (cy 2, 1601, .inr (.inl wf))), (a4, .inl (cy 2, 19, .inr (.inl ky)))] sz) := by
  refine Met.ofW (cc := cX8_findKeys) (maxL := 3) (ret := none) (by decide) rfl ?_
  intro p e s m args below meth c s₁ B hml hv
  obtain ⟨rfl, hsz, hP, hK, hD0⟩ := hv
  have hx := B.exec
  have hb := B.bytes
  have hr := B.returns
  have hts := atoms_spec (ws := .code yX8_findKeys cX8_findKeys 3 none :: TB) B.pre
  have hT : ∀ w ∈ TB, w.before _ s = true := fun w h => hts w (List.mem_cons_of_mem _ h)
  have hown : s.vm.findClass "MakerStarts$Tokens" = some m.cls := findClass_of_methodNamed B.named
  have hlocks := B.notSynchronized
  subst hsz
  have hD := hD0.self (sz := s.heap.size)
  generalize hAe : va_A [(h0, .inr (8, [.ref a1, .ref a2, .ref a3, .ref a4, .int (nI cn), .int ln, .int (nI at0), .int fa, .int fp])), (a1, .inl (cy 1, 1601, .inl kf)), (a2, .inl (cy 1, 1601, .inl pf)), (a3, .inl (cy 2, 1601, .inr (.inl wf))), (a4, .inl (cy 2, 19, .inr (.inl ky)))] s.heap.size = A at hD  ⊢
  have hA : ∀ q : Nat, s.heap.size ≤ q → A q := fun q h => by rw [← hAe]; exact Or.inr h
  have hS : va_S A s.heap s.heap [] := va_S.rf
  have hP : va_P D vwCl [(h0, .inr (8, [.ref a1, .ref a2, .ref a3, .ref a4, .int (nI cn), .int ln, .int (nI at0), .int fa, .int fp])), (a1, .inl (cy 1, 1601, .inl kf)), (a2, .inl (cy 1, 1601, .inl pf)), (a3, .inl (cy 2, 1601, .inr (.inl wf))), (a4, .inl (cy 2, 19, .inr (.inl ky)))] s.heap := hP
  have hl := lv_entry ([.ref h0]) (n := 3) (Nat.le_of_ble_eq_true rfl)
  rw [lg_entry_eq]
  generalize (lg_sl ([.ref h0]) ++ List.replicate (3 - (lg_sl ([.ref h0])).length) Slot.unset).toArray = ls at hl ⊢
  have hl : lv_has ls 3 [(0, .ref h0)] := hl
  refine lv_iconst (v := 0) hx hb dX8_findKeys_0 (by decide) ?_
  refine lv_istore_n (lv' := [(1, .int 0), (0, .ref h0)]) hx hb dX8_findKeys_1 rfl hl (by decide) rfl (fun ls hl => ?_)
  refine loopW (St := Nat × (Nat → Int32)) (fun n st H locs ls => st.1 + n = cn ∧ va_P D vwCl [(h0, .inr (8, [.ref a1, .ref a2, .ref a3, .ref a4, .int (nI cn), .int ln, .int (nI at0), .int fa, .int fp])), (a1, .inl (cy 1, 1601, .inl st.2)), (a2, .inl (cy 1, 1601, .inl pf)), (a3, .inl (cy 2, 1601, .inr (.inl wf))), (a4, .inl (cy 2, 19, .inr (.inl ky)))] H ∧ va_D A [(h0, .inr (8, [.ref a1, .ref a2, .ref a3, .ref a4, .int (nI cn), .int ln, .int (nI at0), .int fa, .int fp])), (a1, .inl (cy 1, 1601, .inl st.2)), (a2, .inl (cy 1, 1601, .inl pf)), (a3, .inl (cy 2, 1601, .inr (.inl wf))), (a4, .inl (cy 2, 19, .inr (.inl ky)))] ∧ va_S A s.heap H locs ∧ lv_has ls 3 [(1, .int (nI st.1)), (0, .ref h0)]) 2 ?_ ?_ cn (0, kf) _ _ ls ⟨Nat.zero_add cn, hP, hD, hS, hl⟩
  · rintro ⟨i, fk⟩ H locs ls ⟨hi, hP, hD, hS, hl⟩
    dsimp only at hi hP hD hl
    have hic : i = cn := by omega
    refine lv_iload_n hx hb dX8_findKeys_2 rfl (lv_at hl 0 rfl) ?_
    refine lv_aload_n hx hb dX8_findKeys_3 rfl (lv_at hl 1 rfl) ?_
    refine va_get (D := D) (ci := 8) (v := .int (nI cn)) (C := RX8) (T := TX8) (N := 9) hx hb hT i_TX8 hown hK hP 0 rfl rfl 4 (by decide) (hT _ t_320) (fun _ h9 => h9) rfl dX8_findKeys_4 ?_
    refine lv_icmp_ge (tgt := 67) hx hb dX8_findKeys_7 (by decide) (fun _ => ?_) (fun c9 => absurd (nI_le (Nat.le_of_eq hic.symm) (by omega)) c9)
    have hP9 := hP.sub (ws' := [(h0, .inr (8, [.ref a1, .ref a2, .ref a3, .ref a4, .int (nI cn), .int ln, .int (nI at0), .int fa, .int fp])), (a1, .inl (cy 1, 1601, .inl fk)), (a2, .inl (cy 1, 1601, .inl pf)), (a3, .inl (cy 2, 1601, .inr (.inl wf))), (a4, .inl (cy 2, 19, .inr (.inl ky)))]) [0, 1, 2, 3, 4] rfl
    have hD9 := hD.sub (ws' := [(h0, .inr (8, [.ref a1, .ref a2, .ref a3, .ref a4, .int (nI cn), .int ln, .int (nI at0), .int fa, .int fp])), (a1, .inl (cy 1, 1601, .inl fk)), (a2, .inl (cy 1, 1601, .inl pf)), (a3, .inl (cy 2, 1601, .inr (.inl wf))), (a4, .inl (cy 2, 19, .inr (.inl ky)))]) [0, 1, 2, 3, 4] (by decide) rfl
    refine W.widen (k := 0) (n := 0) (Nat.le_of_ble_eq_true rfl) (Nat.le_of_ble_eq_true rfl) ?_
    exact W.vret hx hb hr (fun t ht hW => ⟨⟨fk, rfl, trivial, by rw [ht]; exact hP9, hD9⟩, hS.F ht⟩) hS.2.2 dX8_findKeys_67
  · rintro n ⟨i, fk⟩ H locs ls ⟨hi, hP, hD, hS, hl⟩ ih
    dsimp only at hi hP hD hl
    refine lv_iload_n hx hb dX8_findKeys_2 rfl (lv_at hl 0 rfl) ?_
    refine lv_aload_n hx hb dX8_findKeys_3 rfl (lv_at hl 1 rfl) ?_
    refine va_get (D := D) (ci := 8) (v := .int (nI cn)) (C := RX8) (T := TX8) (N := 9) hx hb hT i_TX8 hown hK hP 0 rfl rfl 4 (by decide) (hT _ t_320) (fun _ h9 => h9) rfl dX8_findKeys_4 ?_
    refine lv_icmp_ge (tgt := 67) hx hb dX8_findKeys_7 (by decide) (fun c9 => absurd c9 (nI_ge (a := i) (b := cn) (by omega) (by omega))) (fun _ => ?_)
    refine lv_iconst (v := 0) hx hb dX8_findKeys_10 (by decide) ?_
    refine lv_istore_n (lv' := [(2, .int 0), (1, .int (nI i)), (0, .ref h0)]) hx hb dX8_findKeys_11 rfl hl (by decide) rfl (fun ls hl => ?_)
    refine loopW (St := Nat × (Nat → Int32)) (fun n st H locs ls => st.1 + n = 19 ∧ va_P D vwCl [(h0, .inr (8, [.ref a1, .ref a2, .ref a3, .ref a4, .int (nI cn), .int ln, .int (nI at0), .int fa, .int fp])), (a1, .inl (cy 1, 1601, .inl st.2)), (a2, .inl (cy 1, 1601, .inl pf)), (a3, .inl (cy 2, 1601, .inr (.inl wf))), (a4, .inl (cy 2, 19, .inr (.inl ky)))] H ∧ va_D A [(h0, .inr (8, [.ref a1, .ref a2, .ref a3, .ref a4, .int (nI cn), .int ln, .int (nI at0), .int fa, .int fp])), (a1, .inl (cy 1, 1601, .inl st.2)), (a2, .inl (cy 1, 1601, .inl pf)), (a3, .inl (cy 2, 1601, .inr (.inl wf))), (a4, .inl (cy 2, 19, .inr (.inl ky)))] ∧ va_S A s.heap H locs ∧ lv_has ls 3 [(2, .int (nI st.1)), (1, .int (nI i)), (0, .ref h0)]) 12 ?_ ?_ 19 (0, fk) _ _ ls ⟨rfl, hP, hD, hS, lv_sub hl [0, 1, 2] rfl⟩
    · rintro ⟨k, fj⟩ H locs ls ⟨hk, hP, hD, hS, hl⟩
      dsimp only at hk hP hD hl
      obtain rfl : k = 19 := by omega
      refine lv_iload_n hx hb dX8_findKeys_12 rfl (lv_at hl 0 rfl) ?_
      refine lv_bipush (v := 19) hx hb dX8_findKeys_13 (by decide) ?_
      refine lv_icmp_ge (tgt := 61) hx hb dX8_findKeys_15 (by decide) (fun _ => ?_) (fun c9 => absurd (by decide) c9)
      obtain ⟨z1, e2⟩ : ∃ y : Int32, y = (nI i) + 1 := ⟨_, rfl⟩
      refine lv_iinc (v := z1) (lv' := [(1, .int z1), (2, .int (nI 19)), (0, .ref h0)]) hx hb dX8_findKeys_61 hl (k := 1) rfl (by rw [e2]; rfl) (by decide) rfl (fun ls hl => ?_)
      obtain rfl : z1 = nI (i + 1) := e2.trans (nI_1 i)
      refine lv_goto (tgt := 2) hx hb dX8_findKeys_64 (by decide) ?_
      exact ih (i + 1, fj) H locs ls ⟨show i + 1 + n = cn by omega, hP, hD, hS, lv_sub hl [0, 2] rfl⟩
    · rintro n2 ⟨k, fj⟩ H locs ls ⟨hk, hP, hD, hS, hl⟩ ih2
      dsimp only at hk hP hD hl
      refine lv_iload_n hx hb dX8_findKeys_12 rfl (lv_at hl 0 rfl) ?_
      refine lv_bipush (v := 19) hx hb dX8_findKeys_13 (by decide) ?_
      refine lv_icmp_ge (tgt := 61) hx hb dX8_findKeys_15 (by decide) (fun c9 => absurd c9 (nI_ge (a := k) (b := 19) (by omega) (by decide))) (fun _ => ?_)
      refine lv_aload_n hx hb dX8_findKeys_18 rfl (lv_at hl 2 rfl) ?_
      refine va_get (D := D) (ci := 8) (v := .ref a1) (C := RX8) (T := TX8) (N := 9) hx hb hT i_TX8 hown hK hP 0 rfl rfl 0 (by decide) (hT _ t_316) (fun _ h9 => h9) rfl dX8_findKeys_19 ?_
      refine lv_iload_n hx hb dX8_findKeys_22 rfl (lv_at hl 1 rfl) ?_
      refine va_iald hx hb hK hP 1 1 rfl rfl (vp_in_nI (by omega) (by decide)) dX8_findKeys_23 ?_
      refine lv_topi (fun z3 e4 => ?_)
      refine lv_iconst (v := 2) hx hb dX8_findKeys_24 (by decide) ?_
      refine lv_icmp_ne (tgt := 61) hx hb dX8_findKeys_25 (by decide) (fun c5 => ?_) (fun c5 => ?_)
      · obtain ⟨z6, e7⟩ : ∃ y : Int32, y = (nI i) + 1 := ⟨_, rfl⟩
        refine lv_iinc (v := z6) (lv' := [(1, .int z6), (2, .int (nI k)), (0, .ref h0)]) hx hb dX8_findKeys_61 hl (k := 1) rfl (by rw [e7]; rfl) (by decide) rfl (fun ls hl => ?_)
        obtain rfl : z6 = nI (i + 1) := e7.trans (nI_1 i)
        refine lv_goto (tgt := 2) hx hb dX8_findKeys_64 (by decide) ?_
        exact ih (i + 1, fj) H locs ls ⟨show i + 1 + n = cn by omega, hP, hD, hS, lv_sub hl [0, 2] rfl⟩
      · refine lv_aload_n hx hb dX8_findKeys_28 rfl (lv_at hl 2 rfl) ?_
        refine va_get (D := D) (ci := 8) (v := .ref a3) (C := RX8) (T := TX8) (N := 9) hx hb hT i_TX8 hown hK hP 0 rfl rfl 2 (by decide) (hT _ t_318) (fun _ h9 => h9) rfl dX8_findKeys_29 ?_
        refine lv_iload_n hx hb dX8_findKeys_32 rfl (lv_at hl 1 rfl) ?_
        refine va_lald hx hb hK hP 3 2 rfl rfl (vp_in_nI (by omega) (by decide)) dX8_findKeys_33 ?_
        refine lv_topl (fun z8 e9 => ?_)
        refine lv_aload_n hx hb dX8_findKeys_34 rfl (lv_at hl 2 rfl) ?_
        refine va_get (D := D) (ci := 8) (v := .ref a4) (C := RX8) (T := TX8) (N := 9) hx hb hT i_TX8 hown hK hP 0 rfl rfl 3 (by decide) (hT _ t_319) (fun _ h9 => h9) rfl dX8_findKeys_35 ?_
        refine lv_iload_n hx hb dX8_findKeys_38 rfl (lv_at hl 0 rfl) ?_
        refine va_lald hx hb hK hP 4 2 rfl rfl (vp_in_nI (by omega) (by decide)) dX8_findKeys_39 ?_
        refine lv_topl (fun z10 e11 => ?_)
        refine W.lcmp hx hb dX8_findKeys_40 ?_
        refine lv_topi (fun z12 e13 => ?_)
        refine lv_if_ne (tgt := 55) hx hb dX8_findKeys_41 (by decide) (fun c14 => ?_) (fun c14 => ?_)
        · obtain ⟨z15, e16⟩ : ∃ y : Int32, y = (nI k) + 1 := ⟨_, rfl⟩
          refine lv_iinc (v := z15) (lv' := [(2, .int z15), (1, .int (nI i)), (0, .ref h0)]) hx hb dX8_findKeys_55 hl (k := 0) rfl (by rw [e16]; rfl) (by decide) rfl (fun ls hl => ?_)
          obtain rfl : z15 = nI (k + 1) := e16.trans (nI_1 k)
          refine lv_goto (tgt := 12) hx hb dX8_findKeys_58 (by decide) ?_
          exact ih2 (k + 1, fj) H locs ls ⟨show k + 1 + n2 = 19 by omega, hP, hD, hS, lv_sub hl [0, 1, 2] rfl⟩
        · refine lv_aload_n hx hb dX8_findKeys_44 rfl (lv_at hl 2 rfl) ?_
          refine va_get (D := D) (ci := 8) (v := .ref a1) (C := RX8) (T := TX8) (N := 9) hx hb hT i_TX8 hown hK hP 0 rfl rfl 0 (by decide) (hT _ t_316) (fun _ h9 => h9) rfl dX8_findKeys_45 ?_
          refine lv_iload_n hx hb dX8_findKeys_48 rfl (lv_at hl 1 rfl) ?_
          refine lv_sipush (v := 256) hx hb dX8_findKeys_49 (by decide) ?_
          refine lv_iload_n hx hb dX8_findKeys_52 rfl (lv_at hl 0 rfl) ?_
          refine lv_iadd hx hb dX8_findKeys_53 ?_
          refine lv_topi (fun z17 e18 => ?_)
          refine va_iast hx hb hK hP hD hS 1 1 rfl rfl (vp_in_nI (by omega) (by decide)) dX8_findKeys_54 (fun H locs hP hD hS => ?_)
          have hP : va_P D vwCl [(h0, .inr (8, [.ref a1, .ref a2, .ref a3, .ref a4, .int (nI cn), .int ln, .int (nI at0), .int fa, .int fp])), (a1, .inl (cy 1, 1601, .inl (upd fj ((nI i) : Int32).toNatClampNeg z17))), (a2, .inl (cy 1, 1601, .inl pf)), (a3, .inl (cy 2, 1601, .inr (.inl wf))), (a4, .inl (cy 2, 19, .inr (.inl ky)))] H := hP
          have hD : va_D A [(h0, .inr (8, [.ref a1, .ref a2, .ref a3, .ref a4, .int (nI cn), .int ln, .int (nI at0), .int fa, .int fp])), (a1, .inl (cy 1, 1601, .inl (upd fj ((nI i) : Int32).toNatClampNeg z17))), (a2, .inl (cy 1, 1601, .inl pf)), (a3, .inl (cy 2, 1601, .inr (.inl wf))), (a4, .inl (cy 2, 19, .inr (.inl ky)))] := hD
          generalize hff19 : (upd fj ((nI i) : Int32).toNatClampNeg z17) = f19 at hP hD
          obtain ⟨z20, e21⟩ : ∃ y : Int32, y = (nI k) + 1 := ⟨_, rfl⟩
          refine lv_iinc (v := z20) (lv' := [(2, .int z20), (1, .int (nI i)), (0, .ref h0)]) hx hb dX8_findKeys_55 hl (k := 0) rfl (by rw [e21]; rfl) (by decide) rfl (fun ls hl => ?_)
          obtain rfl : z20 = nI (k + 1) := e21.trans (nI_1 k)
          refine lv_goto (tgt := 12) hx hb dX8_findKeys_58 (by decide) ?_
          exact ih2 (k + 1, f19) H locs ls ⟨show k + 1 + n2 = 19 by omega, hP, hD, hS, lv_sub hl [0, 1, 2] rfl⟩
