theorem t_164 : (Jvm.Cond.initialized "java/lang/Throwable") ∈ TB := inTB 164 (by decide +kernel) (by decide +kernel)
theorem t_170 : (Jvm.Cond.instantiable "MakerStarts" (8 : Nat)) ∈ TB := inTB 170 (by decide +kernel) (by decide +kernel)
theorem t_686 : (Jvm.Cond.instantiable "MakerStarts$Type" (11 : Nat)) ∈ TB := inTB 686 (by decide +kernel) (by decide +kernel)
theorem t_789 : (Jvm.Cond.instantiable "MakerStarts$Member" (20 : Nat)) ∈ TB := inTB 789 (by decide +kernel) (by decide +kernel)
theorem t_945 : (Jvm.Cond.instantiable "MakerStarts$Use" (12 : Nat)) ∈ TB := inTB 945 (by decide +kernel) (by decide +kernel)
theorem t_1691 : (Jvm.Cond.instantiable "MakerStartsModel" (74 : Nat)) ∈ TB := inTB 1691 (by decide +kernel) (by decide +kernel)
theorem sl_al : (Jvm.Cond.laysStatic "java/util/ArrayList" "DEFAULTCAPACITY_EMPTY_ELEMENTDATA" "[Ljava/lang/Object;") ∈ lw_tbl := List.mem_of_getElem? (i := 198) (by decide +kernel)

theorem sl_cs : (Jvm.Cond.laysStatic "java/lang/String" "COMPACT_STRINGS" "Z") ∈ lw_tbl := List.mem_of_getElem? (i := 277) (by decide +kernel)

theorem sl_sio : (Jvm.Cond.laysStatic "jdk/internal/util/Preconditions" "SIOOBE_FORMATTER" "Ljava/util/function/BiFunction;") ∈ lw_tbl := List.mem_of_getElem? (i := 293) (by decide +kernel)

theorem sl_thu : (Jvm.Cond.laysStatic "java/lang/Throwable" "UNASSIGNED_STACK" "[Ljava/lang/StackTraceElement;") ∈ lw_tbl := List.mem_of_getElem? (i := 1598) (by decide +kernel)

theorem sl_ths : (Jvm.Cond.laysStatic "java/lang/Throwable" "SUPPRESSED_SENTINEL" "Ljava/util/List;") ∈ lw_tbl := List.mem_of_getElem? (i := 1600) (by decide +kernel)

theorem sr_25 : (Jvm.Cond.stringRef "MakerStarts$Tokens" (25 : Nat) "type field const static block maker fails this super act mark throw try catch finally if else new return ") ∈ lw_tbl := List.mem_of_getElem? (i := 267) (by decide +kernel)

theorem sr_129 : (Jvm.Cond.stringRef "MakerStarts" (129 : Nat) "no such mark") ∈ lw_tbl := List.mem_of_getElem? (i := 1611) (by decide +kernel)

theorem sr_144 : (Jvm.Cond.stringRef "MakerStarts" (144 : Nat) "there is no thing") ∈ lw_tbl := List.mem_of_getElem? (i := 1658) (by decide +kernel)

theorem sr_171 : (Jvm.Cond.stringRef "MakerStarts" (171 : Nat) "no such static or constant") ∈ lw_tbl := List.mem_of_getElem? (i := 1685) (by decide +kernel)

theorem aoT : (Jvm.Cond.arrayOver (Jvm.ClassFile.FieldType.object "MakerStarts$Type")) ∈ lw_tbl := List.mem_of_getElem? (i := 184) (by decide +kernel)

theorem aoF : (Jvm.Cond.arrayOver (Jvm.ClassFile.FieldType.object "MakerStarts$Frame")) ∈ lw_tbl := List.mem_of_getElem? (i := 410) (by decide +kernel)

theorem nst_0 : (Jvm.Cond.methodLinkNest "MakerStarts" (22 : Nat) ({ cls := "MakerStarts$Text", name := "<init>", desc := "()V" } : Jvm.MethodName) "MakerStarts") ∈ lw_tbl := List.mem_of_getElem? (i := 179) (by decide +kernel)

theorem nst_1 : (Jvm.Cond.methodLinkNest "MakerStarts" (32 : Nat) ({ cls := "MakerStarts$Reader", name := "<init>", desc := "()V" } : Jvm.MethodName) "MakerStarts") ∈ lw_tbl := List.mem_of_getElem? (i := 257) (by decide +kernel)

theorem nst_2 : (Jvm.Cond.methodLinkNest "MakerStarts" (39 : Nat) ({ cls := "MakerStarts$Flow", name := "<init>", desc := "()V" } : Jvm.MethodName) "MakerStarts") ∈ lw_tbl := List.mem_of_getElem? (i := 385) (by decide +kernel)

theorem nst_3 : (Jvm.Cond.methodLinkNest "MakerStarts$Machine" (52 : Nat) ({ cls := "MakerStarts$Frame", name := "<init>", desc := "()V" } : Jvm.MethodName) "MakerStarts") ∈ lw_tbl := List.mem_of_getElem? (i := 412) (by decide +kernel)

theorem nst_4 : (Jvm.Cond.castable "java/lang/IndexOutOfBoundsException" "java/lang/IndexOutOfBoundsException") ∈ lw_tbl := List.mem_of_getElem? (i := 1573) (by decide +kernel)

theorem nst_5 : (Jvm.Cond.castable "java/lang/IllegalStateException" "java/lang/IllegalStateException") ∈ lw_tbl := List.mem_of_getElem? (i := 1651) (by decide +kernel)

theorem nst_6 : (Jvm.Cond.declares ({ cls := "java/lang/RuntimeException", name := "<init>", desc := "(Ljava/lang/String;)V" } : Jvm.MethodName)) ∈ lw_tbl := List.mem_of_getElem? (i := 1575) (by decide +kernel)

theorem nst_7 : (Jvm.Cond.declares ({ cls := "java/lang/Exception", name := "<init>", desc := "(Ljava/lang/String;)V" } : Jvm.MethodName)) ∈ lw_tbl := List.mem_of_getElem? (i := 1577) (by decide +kernel)

theorem nst_8 : (Jvm.Cond.declares ({ cls := "java/lang/Throwable", name := "<init>", desc := "(Ljava/lang/String;)V" } : Jvm.MethodName)) ∈ lw_tbl := List.mem_of_getElem? (i := 1579) (by decide +kernel)

theorem lf_al : (Jvm.Cond.exactly (Jvm.Term.static "java/util/ArrayList" "DEFAULTCAPACITY_EMPTY_ELEMENTDATA" "[Ljava/lang/Object;") "[Ljava/lang/Object;") ∈ flatC (Jvm.Cond.and given_1 narrow_1) := List.mem_of_getElem? (i := 6) (by decide +kernel)

theorem lf_cs : (Jvm.Cond.eq (Jvm.Term.static "java/lang/String" "COMPACT_STRINGS" "Z") (Jvm.Term.int (1 : Int32))) ∈ flatC (Jvm.Cond.and given_1 narrow_1) := List.mem_of_getElem? (i := 8) (by decide +kernel)

theorem lf_sio : (Jvm.Cond.isRef (Jvm.Term.static "jdk/internal/util/Preconditions" "SIOOBE_FORMATTER" "Ljava/util/function/BiFunction;")) ∈ flatC (Jvm.Cond.and given_1 narrow_1) := List.mem_of_getElem? (i := 9) (by decide +kernel)

theorem lf_thu : (Jvm.Cond.isRef (Jvm.Term.static "java/lang/Throwable" "UNASSIGNED_STACK" "[Ljava/lang/StackTraceElement;")) ∈ flatC (Jvm.Cond.and given_1 narrow_1) := List.mem_of_getElem? (i := 13) (by decide +kernel)

theorem lf_ths : (Jvm.Cond.isRef (Jvm.Term.static "java/lang/Throwable" "SUPPRESSED_SENTINEL" "Ljava/util/List;")) ∈ flatC (Jvm.Cond.and given_1 narrow_1) := List.mem_of_getElem? (i := 14) (by decide +kernel)

theorem lf_s25 : (Jvm.Cond.exactly (Jvm.Term.string "MakerStarts$Tokens" (25 : Nat)) "java/lang/String") ∈ flatC (Jvm.Cond.and given_1 narrow_1) := List.mem_of_getElem? (i := 44) (by decide +kernel)

theorem lf_s129 : (Jvm.Cond.exactly (Jvm.Term.string "MakerStarts" (129 : Nat)) "java/lang/String") ∈ flatC (Jvm.Cond.and given_1 narrow_1) := List.mem_of_getElem? (i := 173) (by decide +kernel)

theorem lf_s144 : (Jvm.Cond.exactly (Jvm.Term.string "MakerStarts" (144 : Nat)) "java/lang/String") ∈ flatC (Jvm.Cond.and given_1 narrow_1) := List.mem_of_getElem? (i := 191) (by decide +kernel)

theorem lf_s171 : (Jvm.Cond.exactly (Jvm.Term.string "MakerStarts" (171 : Nat)) "java/lang/String") ∈ flatC (Jvm.Cond.and given_1 narrow_1) := List.mem_of_getElem? (i := 299) (by decide +kernel)

theorem lf_co : (Jvm.Cond.eq (Jvm.Term.field (Jvm.Term.string "MakerStarts$Tokens" (25 : Nat)) "java/lang/String" "coder" "B") (Jvm.Term.int (0 : Int32))) ∈ flatC (Jvm.Cond.and given_1 narrow_1) := List.mem_of_getElem? (i := 45) (by decide +kernel)

theorem lf_ar : (Jvm.Cond.arrayOf (Jvm.Term.field (Jvm.Term.string "MakerStarts$Tokens" (25 : Nat)) "java/lang/String" "value" "[B") Jvm.ClassFile.FieldType.byte) ∈ flatC (Jvm.Cond.and given_1 narrow_1) := List.mem_of_getElem? (i := 46) (by decide +kernel)

theorem lf_le : (Jvm.Cond.eq (Jvm.Term.length (Jvm.Term.field (Jvm.Term.string "MakerStarts$Tokens" (25 : Nat)) "java/lang/String" "value" "[B")) (Jvm.Term.int (105 : Int32))) ∈ flatC (Jvm.Cond.and given_1 narrow_1) := List.mem_of_getElem? (i := 47) (by decide +kernel)

def kbyt : List Int32 := [116, 121, 112, 101, 32, 102, 105, 101, 108, 100, 32, 99, 111, 110, 115, 116, 32, 115, 116, 97, 116, 105, 99, 32, 98, 108, 111, 99, 107, 32, 109, 97, 107, 101, 114, 32, 102, 97, 105, 108, 115, 32, 116, 104, 105, 115, 32, 115, 117, 112, 101, 114, 32, 97, 99, 116, 32, 109, 97, 114, 107, 32, 116, 104, 114, 111, 119, 32, 116, 114, 121, 32, 99, 97, 116, 99, 104, 32, 102, 105, 110, 97, 108, 108, 121, 32, 105, 102, 32, 101, 108, 115, 101, 32, 110, 101, 119, 32, 114, 101, 116, 117, 114, 110, 32]

theorem lf_el : (List.range 105).map (fun j => Jvm.Cond.eq (Jvm.Term.elem (Jvm.Term.field (Jvm.Term.string "MakerStarts$Tokens" (25 : Nat)) "java/lang/String" "value" "[B") (Jvm.Term.int (Int32.ofNat j))) (Jvm.Term.int (kbyt.getD j 0))) = ((flatC (Jvm.Cond.and given_1 narrow_1)).drop 48).take 105 := by decide +kernel

set_option maxHeartbeats 4000000 in
set_option maxRecDepth 100000 in
theorem gv_start {s : State} {b : Nat} (hts : ∀ w ∈ lw_tbl, w.before #[Value.ref b] s = true) (hgv : (Jvm.Cond.and given_1 narrow_1).before #[Value.ref b] s = true) : ∃ tE tK tV s1 s2 s3 : Nat, Gv tE tK tV s1 s2 s3 (fun q : Nat => s.heap.size ≤ q) s s.heap := by
  have hs := flat_of_before _ hgv
  have hT : ∀ w ∈ TB, w.before #[Value.ref b] s = true := fun w h => hts w (List.mem_filter.mp h).1
  have hA : ∀ a : Nat, a < s.heap.size → ¬ (fun q : Nat => s.heap.size ≤ q) a := fun a h h2 => absurd h (Nat.not_lt.mpr h2)
  obtain ⟨tE, _, _, _, eE, -⟩ := Cond.exactly_spec (args := #[Value.ref b]) (first := s) (o := none) (s := s) (idx := []) (hs _ lf_al)
  obtain ⟨tK, _, _, _, e25, -⟩ := Cond.exactly_spec (args := #[Value.ref b]) (first := s) (o := none) (s := s) (idx := []) (hs _ lf_s25)
  obtain ⟨s1, _, _, _, e129, -⟩ := Cond.exactly_spec (args := #[Value.ref b]) (first := s) (o := none) (s := s) (idx := []) (hs _ lf_s129)
  obtain ⟨s2, _, _, _, e144, -⟩ := Cond.exactly_spec (args := #[Value.ref b]) (first := s) (o := none) (s := s) (idx := []) (hs _ lf_s144)
  obtain ⟨s3, _, _, _, e171, -⟩ := Cond.exactly_spec (args := #[Value.ref b]) (first := s) (o := none) (s := s) (idx := []) (hs _ lf_s171)
  obtain ⟨tV, eV, hTv⟩ := va_Tof (f := fun j => .int (kbyt.getD j 0)) (N := 105) (A := fun q : Nat => s.heap.size ≤ q) (by decide) (hs _ lf_ar) (va_eqt (hs _ lf_le)) (fun j hj => va_eqt (hs _ (va_run lf_el j hj))) hA
  refine ⟨tE, tK, tV, s1, s2, s3, va_Zof (hts _ sl_al) (hT _ t_142) eE hA, va_Zof (hts _ sl_cs) (hT _ t_145) (va_eqi (hs _ lf_cs)) hA, vk_R.of (hts _ sr_25) e25, va_Oof (hs _ lf_s25) e25 hA, vk_OFof e25 (va_eqt (hs _ lf_co)) hA, vk_OFof e25 eV hA, ⟨fun j => kbyt.getD j 0, hTv⟩, vx_Zqof (hts _ sl_thu) (hT _ t_164) (hs _ lf_thu) hA, vx_Zqof (hts _ sl_ths) (hT _ t_164) (hs _ lf_ths) hA, vk_R.of (hts _ sr_129) e129, vk_R.of (hts _ sr_144) e144, vk_R.of (hts _ sr_171) e171, va_AO.of (hts _ aoT), va_AO.of (hts _ aoF), va_Zqof (hts _ sl_sio) (hT _ t_147) (hs _ lf_sio) hA, va_Nw.of rfl (hts _ nst_0), va_Nw.of rfl (hts _ nst_1), va_Nw.of rfl (hts _ nst_2), va_Nw.of rfl (hts _ nst_3), va_Nw.of rfl (hts _ nst_4), va_Nw.of rfl (hts _ nst_5), va_Nw.of rfl (hts _ nst_6), va_Nw.of rfl (hts _ nst_7), va_Nw.of rfl (hts _ nst_8)⟩

set_option maxHeartbeats 4000000 in
set_option maxRecDepth 100000 in
theorem k_start {s : State} {b : Nat} (hts : ∀ w ∈ lw_tbl, w.before #[Value.ref b] s = true) : ∃ (D : va_G) (cy : Nat → ClassId), va_K D vwCl (TY cy) s := by
  have hT : ∀ w ∈ TB, w.before #[Value.ref b] s = true := fun w h => hts w (List.mem_filter.mp h).1
  obtain ⟨c0, iS0, hKn0⟩ := u_known (C := RJx4a65c) (T := TJx4a65c) (N := 3) (n := 3) hT i_TJx4a65c (hT _ t_186)
  obtain ⟨c1, iS1, hKn1⟩ := u_known (C := RX0) (T := TX0) (N := 6) (n := 6) hT i_TX0 (hT _ t_349)
  obtain ⟨c2, iS2, hKn2⟩ := u_known (C := RX1) (T := TX1) (N := 4) (n := 4) hT i_TX1 (hT _ t_384)
  obtain ⟨c3, iS3, hKn3⟩ := u_known (C := RX2) (T := TX2) (N := 15) (n := 15) hT i_TX2 (hT _ t_411)
  obtain ⟨c4, iS4, hKn4⟩ := u_known (C := RX4) (T := TX4) (N := 20) (n := 20) hT i_TX4 (hT _ t_404)
  obtain ⟨c5, iS5, hKn5⟩ := u_known (C := RX5) (T := TX5) (N := 20) (n := 20) hT i_TX5 (hT _ t_789)
  obtain ⟨c6, iS6, hKn6⟩ := u_known (C := RX6) (T := TX6) (N := 3) (n := 3) hT i_TX6 (hT _ t_256)
  obtain ⟨c7, iS7, hKn7⟩ := u_known (C := RX7) (T := TX7) (N := 9) (n := 9) hT i_TX7 (hT _ t_178)
  obtain ⟨c8, iS8, hKn8⟩ := u_known (C := RX8) (T := TX8) (N := 9) (n := 9) hT i_TX8 (hT _ t_262)
  obtain ⟨c9, iS9, hKn9⟩ := u_known (C := RX9) (T := TX9) (N := 11) (n := 11) hT i_TX9 (hT _ t_686)
  obtain ⟨c10, iS10, hKn10⟩ := u_known (C := RX10) (T := TX10) (N := 12) (n := 12) hT i_TX10 (hT _ t_945)
  obtain ⟨c11, iS11, hKn11⟩ := u_known (C := RX11) (T := TX11) (N := 8) (n := 8) hT i_TX11 (hT _ t_170)
  obtain ⟨c12, iS12, hKn12⟩ := u_known (C := RX12) (T := TX12) (N := 74) (n := 74) hT i_TX12 (hT _ t_1691)
  obtain ⟨y0, k0, q0, f0a, f0b, f0c⟩ := Cond.arrayClass_spec (args := #[Value.ref b]) (first := s) (o := none) (s := s) (idx := []) (hT _ t_211)
  obtain ⟨y1, k1, q1, f1a, f1b, f1c⟩ := Cond.arrayClass_spec (args := #[Value.ref b]) (first := s) (o := none) (s := s) (idx := []) (hT _ t_254)
  obtain ⟨y2, k2, q2, f2a, f2b, f2c⟩ := Cond.arrayClass_spec (args := #[Value.ref b]) (first := s) (o := none) (s := s) (idx := []) (hT _ t_347)
  obtain ⟨y3, k3, q3, f3a, f3b, f3c⟩ := Cond.arrayClass_spec (args := #[Value.ref b]) (first := s) (o := none) (s := s) (idx := []) (hT _ t_402)
  obtain ⟨q4, y4, k4, f4a, -, f4b, f4c, f4d⟩ := Cond.arrayOver_spec (args := #[Value.ref b]) (first := s) (o := none) (s := s) (idx := []) (hts _ aoT)
  obtain ⟨q5, y5, k5, f5a, -, f5b, f5c, f5d⟩ := Cond.arrayOver_spec (args := #[Value.ref b]) (first := s) (o := none) (s := s) (idx := []) (hts _ aoF)
  refine ⟨(fun k => if k = 0 then c0 else if k = 1 then c1 else if k = 2 then c2 else if k = 3 then c3 else if k = 4 then c4 else if k = 5 then c5 else if k = 6 then c6 else if k = 7 then c7 else if k = 8 then c8 else if k = 9 then c9 else if k = 10 then c10 else if k = 11 then c11 else c12, fun k => if k = 0 then iS0 else if k = 1 then iS1 else if k = 2 then iS2 else if k = 3 then iS3 else if k = 4 then iS4 else if k = 5 then iS5 else if k = 6 then iS6 else if k = 7 then iS7 else if k = 8 then iS8 else if k = 9 then iS9 else if k = 10 then iS10 else if k = 11 then iS11 else iS12), (fun k => [y0, y1, y2, y3, y4, y5].getD k 0), ?_, ?_⟩
  · intro k q hq
    match k, hq with
    | 0, hq => cases hq; exact hKn0
    | 1, hq => cases hq; exact hKn1
    | 2, hq => cases hq; exact hKn2
    | 3, hq => cases hq; exact hKn3
    | 4, hq => cases hq; exact hKn4
    | 5, hq => cases hq; exact hKn5
    | 6, hq => cases hq; exact hKn6
    | 7, hq => cases hq; exact hKn7
    | 8, hq => cases hq; exact hKn8
    | 9, hq => cases hq; exact hKn9
    | 10, hq => cases hq; exact hKn10
    | 11, hq => cases hq; exact hKn11
    | 12, hq => cases hq; exact hKn12
    | k + 13, hq => simp [vwCl] at hq
  · intro k q hq
    match k, hq with
    | 0, hq => cases hq; exact ⟨fun n z => ⟨fun k h => (by cases h), k0, f0b, q0, f0c⟩, f0a⟩
    | 1, hq => cases hq; exact ⟨fun n z => ⟨fun k h => (by cases h), k1, f1b, q1, f1c⟩, f1a⟩
    | 2, hq => cases hq; exact ⟨fun n z => ⟨fun k h => (by cases h), k2, f2b, q2, f2c⟩, f2a⟩
    | 3, hq => cases hq; exact ⟨fun n z => ⟨fun k h => (by cases h), k3, f3b, q3, f3c⟩, f3a⟩
    | 4, hq => cases hq; exact ⟨fun n z => ⟨fun k h => (by cases h), k4, f4b, q4, f4c⟩, k4, q4, f4b, f4c, f4a, f4d⟩
    | 5, hq => cases hq; exact ⟨fun n z => ⟨fun k h => (by cases h), k5, f5b, q5, f5c⟩, k5, q5, f5b, f5c, f5a, f5d⟩
    | k + 6, hq => simp [TY] at hq
