set_option maxHeartbeats 4000000 in
set_option maxRecDepth 100000 in
/-- an EXP with jj signs + over f(), dp MAKERS and ACTS under way: it never comes back where fewer frames are left than the way down needs -/
theorem deep_work (l : Launch) (D : va_G) (cy : Nat → ClassId) (hm : Nat) (ma : Nat → Nat) (fv : Nat → Value) (kf : Nat → Int32) (af : Nat → Int32) (nf : Nat → Int64) (tm : Nat → Int32) (mkf : Nat → Int32) (mnf : Nat → Int64) (mbf : Nat → Int32) (ttf : Nat → Int32) (kn : Nat → Nat) (nn : Nat) (se : Nat) (tt : Nat) (bb : Nat) (ss : Nat) (nm : Int64) (cd md hf : Int32) (hd : Dp kf af nf tm mkf mnf mbf ttf kn nn se tt bb ss nm) : ∀ (d st dp : Nat) (rv : Int32) (jj : Nat) (fr : Int32) (sz : Nat), jj ≤ nn → dp ≤ 24 → st + 2 * (24 - dp) < 120 → d < (24 - dp) * (nn + 4) + jj + 1 → Dies l yX12_work (.code yX12_work cX12_work 5 (some .int) :: TB) d (va_Pc [.ref hm, .int (nI (kn jj)), .int fr] (fun U => U.heap.size = sz ∧ va_P D vwCl [(hm, .inr (12, [.int cd, .ref (ma 1), (fv 2), (fv 3), .ref (ma 4), (fv 5), (fv 6), (fv 7), (fv 8), (fv 9), (fv 10), (fv 11), (fv 12), (fv 13), (fv 14), .int hf, (fv 16), .ref (ma 17), .ref (ma 18), .ref (ma 19), .ref (ma 20), .ref (ma 21), .ref (ma 22), .ref (ma 23), .ref (ma 24), .ref (ma 25), .ref (ma 26), .ref (ma 27), .ref (ma 28), .ref (ma 29), .ref (ma 30), .ref (ma 31), .ref (ma 32), .ref (ma 33), .ref (ma 34), .ref (ma 35), .ref (ma 36), .ref (ma 37), .ref (ma 38), .ref (ma 39), .ref (ma 40), .ref (ma 41), .ref (ma 42), .ref (ma 43), .ref (ma 44), .ref (ma 45), .ref (ma 46), .ref (ma 47), .ref (ma 48), (fv 49), (fv 50), (fv 51), (fv 52), (fv 53), (fv 54), (fv 55), (fv 56), (fv 57), (fv 58), .ref (ma 59), .ref (ma 60), (fv 61), (fv 62), .int (nI st), .int (nI dp), .int 0, .int rv, .ref (ma 67), .ref (ma 68), .ref (ma 69), .int md, (fv 71), .int (nI se), .ref (ma 73)])), ((ma 39), .inl (cy 1, 3400, .inl kf)), ((ma 40), .inl (cy 1, 3400, .inl af)), ((ma 46), .inl (cy 2, 3400, .inr (.inl nf))), ((ma 23), .inl (cy 1, 16, .inl tm)), ((ma 24), .inl (cy 1, 128, .inl mkf)), ((ma 25), .inl (cy 2, 128, .inr (.inl mnf))), ((ma 29), .inl (cy 1, 128, .inl mbf)), ((ma 68), .inl (cy 1, 210, .inl ttf))] U.heap ∧ va_K D vwCl (TY cy) U ∧ va_D (fun _ => True) [(hm, .inr (12, [.int cd, .ref (ma 1), (fv 2), (fv 3), .ref (ma 4), (fv 5), (fv 6), (fv 7), (fv 8), (fv 9), (fv 10), (fv 11), (fv 12), (fv 13), (fv 14), .int hf, (fv 16), .ref (ma 17), .ref (ma 18), .ref (ma 19), .ref (ma 20), .ref (ma 21), .ref (ma 22), .ref (ma 23), .ref (ma 24), .ref (ma 25), .ref (ma 26), .ref (ma 27), .ref (ma 28), .ref (ma 29), .ref (ma 30), .ref (ma 31), .ref (ma 32), .ref (ma 33), .ref (ma 34), .ref (ma 35), .ref (ma 36), .ref (ma 37), .ref (ma 38), .ref (ma 39), .ref (ma 40), .ref (ma 41), .ref (ma 42), .ref (ma 43), .ref (ma 44), .ref (ma 45), .ref (ma 46), .ref (ma 47), .ref (ma 48), (fv 49), (fv 50), (fv 51), (fv 52), (fv 53), (fv 54), (fv 55), (fv 56), (fv 57), (fv 58), .ref (ma 59), .ref (ma 60), (fv 61), (fv 62), .int (nI st), .int (nI dp), .int 0, .int rv, .ref (ma 67), .ref (ma 68), .ref (ma 69), .int md, (fv 71), .int (nI se), .ref (ma 73)])), ((ma 39), .inl (cy 1, 3400, .inl kf)), ((ma 40), .inl (cy 1, 3400, .inl af)), ((ma 46), .inl (cy 2, 3400, .inr (.inl nf))), ((ma 23), .inl (cy 1, 16, .inl tm)), ((ma 24), .inl (cy 1, 128, .inl mkf)), ((ma 25), .inl (cy 2, 128, .inr (.inl mnf))), ((ma 29), .inl (cy 1, 128, .inl mbf)), ((ma 68), .inl (cy 1, 210, .inl ttf))])) := by
  intro d
  induction d using Nat.strongRecOn with
  | _ d IH =>
    intro st dp rv jj fr sz hj hdp hst hlt
    cases jj with
    | succ j =>
      refine d_work1 l D cy sz hm ma fv kf af nf tm mkf mnf mbf ttf kn nn se tt bb ss nm st dp rv cd md hf j fr d hd (by omega) ?_
      rintro k rfl sz'
      exact IH k (by omega) st dp rv j fr sz' (by omega) hdp hst (by omega)
    | zero =>
      refine d_work0 l D cy sz hm ma fv kf af nf tm mkf mnf mbf ttf kn nn se tt bb ss nm st dp rv cd md hf fr d hd ?_
      rintro k rfl sz'
      have hdp' : dp < 24 := by
        rcases Nat.lt_or_ge dp 24 with h | h
        · exact h
        · obtain rfl : dp = 24 := by omega
          simp at hlt
      obtain ⟨q, hq⟩ : ∃ q, 24 - dp = q + 1 := ⟨23 - dp, by omega⟩
      have hq2 : 24 - (dp + 1) = q := by omega
      rw [hq, Nat.succ_mul] at hlt
      generalize hQ : q * (nn + 4) = Q at hlt
      refine d_call1 l D cy sz' hm ma fv kf af nf tm mkf mnf mbf ttf kn nn se tt bb ss nm st dp rv cd md hf k hd hdp' (by omega) ?_
      rintro k2 rfl sz2
      refine d_body1 l D cy sz2 hm ma fv kf af nf tm mkf mnf mbf ttf kn nn se tt bb ss nm (st + 1) (dp + 1) 0 cd md hf (nI (dp + 1)) k2 hd (by omega) ?_
      rintro k3 rfl sz3
      refine d_run1 l D cy sz3 hm ma fv kf af nf tm mkf mnf mbf ttf kn nn se tt bb ss nm (st + 1 + 1) (dp + 1) 0 cd md hf (nI (dp + 1)) k3 hd ?_
      rintro k4 rfl sz4
      exact IH k4 (by omega) (st + 1 + 1) (dp + 1) 0 nn (nI (dp + 1)) sz4 (Nat.le_refl _) (by omega) (by omega) (by rw [hq2, hQ]; omega)

set_option maxHeartbeats 4000000 in
set_option maxRecDepth 100000 in
/-- the same of the act itself -/
theorem deep_call (l : Launch) (D : va_G) (cy : Nat → ClassId) (sz : Nat) (hm : Nat) (ma : Nat → Nat) (fv : Nat → Value) (kf : Nat → Int32) (af : Nat → Int32) (nf : Nat → Int64) (tm : Nat → Int32) (mkf : Nat → Int32) (mnf : Nat → Int64) (mbf : Nat → Int32) (ttf : Nat → Int32) (kn : Nat → Nat) (nn : Nat) (se : Nat) (tt : Nat) (bb : Nat) (ss : Nat) (nm : Int64) (st : Nat) (dp : Nat) (rv : Int32) (cd : Int32) (md : Int32) (hf : Int32) (d : Nat) (hd : Dp kf af nf tm mkf mnf mbf ttf kn nn se tt bb ss nm) (hdp : dp < 24) (hst : st + 2 * (24 - dp) < 120) (hlt : d < (24 - dp) * (nn + 4)) : Dies l yX12_callAct (.code yX12_callAct cX12_callAct 5 (some .int) :: TB) d (va_Pc [.ref hm, .long nm] (fun U => U.heap.size = sz ∧ va_P D vwCl [(hm, .inr (12, [.int cd, .ref (ma 1), (fv 2), (fv 3), .ref (ma 4), (fv 5), (fv 6), (fv 7), (fv 8), (fv 9), (fv 10), (fv 11), (fv 12), (fv 13), (fv 14), .int hf, (fv 16), .ref (ma 17), .ref (ma 18), .ref (ma 19), .ref (ma 20), .ref (ma 21), .ref (ma 22), .ref (ma 23), .ref (ma 24), .ref (ma 25), .ref (ma 26), .ref (ma 27), .ref (ma 28), .ref (ma 29), .ref (ma 30), .ref (ma 31), .ref (ma 32), .ref (ma 33), .ref (ma 34), .ref (ma 35), .ref (ma 36), .ref (ma 37), .ref (ma 38), .ref (ma 39), .ref (ma 40), .ref (ma 41), .ref (ma 42), .ref (ma 43), .ref (ma 44), .ref (ma 45), .ref (ma 46), .ref (ma 47), .ref (ma 48), (fv 49), (fv 50), (fv 51), (fv 52), (fv 53), (fv 54), (fv 55), (fv 56), (fv 57), (fv 58), .ref (ma 59), .ref (ma 60), (fv 61), (fv 62), .int (nI st), .int (nI dp), .int 0, .int rv, .ref (ma 67), .ref (ma 68), .ref (ma 69), .int md, (fv 71), .int (nI se), .ref (ma 73)])), ((ma 39), .inl (cy 1, 3400, .inl kf)), ((ma 40), .inl (cy 1, 3400, .inl af)), ((ma 46), .inl (cy 2, 3400, .inr (.inl nf))), ((ma 23), .inl (cy 1, 16, .inl tm)), ((ma 24), .inl (cy 1, 128, .inl mkf)), ((ma 25), .inl (cy 2, 128, .inr (.inl mnf))), ((ma 29), .inl (cy 1, 128, .inl mbf)), ((ma 68), .inl (cy 1, 210, .inl ttf))] U.heap ∧ va_K D vwCl (TY cy) U ∧ va_D (fun _ => True) [(hm, .inr (12, [.int cd, .ref (ma 1), (fv 2), (fv 3), .ref (ma 4), (fv 5), (fv 6), (fv 7), (fv 8), (fv 9), (fv 10), (fv 11), (fv 12), (fv 13), (fv 14), .int hf, (fv 16), .ref (ma 17), .ref (ma 18), .ref (ma 19), .ref (ma 20), .ref (ma 21), .ref (ma 22), .ref (ma 23), .ref (ma 24), .ref (ma 25), .ref (ma 26), .ref (ma 27), .ref (ma 28), .ref (ma 29), .ref (ma 30), .ref (ma 31), .ref (ma 32), .ref (ma 33), .ref (ma 34), .ref (ma 35), .ref (ma 36), .ref (ma 37), .ref (ma 38), .ref (ma 39), .ref (ma 40), .ref (ma 41), .ref (ma 42), .ref (ma 43), .ref (ma 44), .ref (ma 45), .ref (ma 46), .ref (ma 47), .ref (ma 48), (fv 49), (fv 50), (fv 51), (fv 52), (fv 53), (fv 54), (fv 55), (fv 56), (fv 57), (fv 58), .ref (ma 59), .ref (ma 60), (fv 61), (fv 62), .int (nI st), .int (nI dp), .int 0, .int rv, .ref (ma 67), .ref (ma 68), .ref (ma 69), .int md, (fv 71), .int (nI se), .ref (ma 73)])), ((ma 39), .inl (cy 1, 3400, .inl kf)), ((ma 40), .inl (cy 1, 3400, .inl af)), ((ma 46), .inl (cy 2, 3400, .inr (.inl nf))), ((ma 23), .inl (cy 1, 16, .inl tm)), ((ma 24), .inl (cy 1, 128, .inl mkf)), ((ma 25), .inl (cy 2, 128, .inr (.inl mnf))), ((ma 29), .inl (cy 1, 128, .inl mbf)), ((ma 68), .inl (cy 1, 210, .inl ttf))])) := by
  obtain ⟨q, hq⟩ : ∃ q, 24 - dp = q + 1 := ⟨23 - dp, by omega⟩
  have hq2 : 24 - (dp + 1) = q := by omega
  rw [hq, Nat.succ_mul] at hlt
  generalize hQ : q * (nn + 4) = Q at hlt
  refine d_call1 l D cy sz hm ma fv kf af nf tm mkf mnf mbf ttf kn nn se tt bb ss nm st dp rv cd md hf d hd hdp (by omega) ?_
  rintro k2 rfl sz2
  refine d_body1 l D cy sz2 hm ma fv kf af nf tm mkf mnf mbf ttf kn nn se tt bb ss nm (st + 1) (dp + 1) 0 cd md hf (nI (dp + 1)) k2 hd (by omega) ?_
  rintro k3 rfl sz3
  refine d_run1 l D cy sz3 hm ma fv kf af nf tm mkf mnf mbf ttf kn nn se tt bb ss nm (st + 1 + 1) (dp + 1) 0 cd md hf (nI (dp + 1)) k3 hd ?_
  rintro k4 rfl sz4
  exact deep_work l D cy hm ma fv kf af nf tm mkf mnf mbf ttf kn nn se tt bb ss nm cd md hf hd k4 (st + 1 + 1) (dp + 1) 0 nn (nI (dp + 1)) sz4 (Nat.le_refl _) (by omega) (by omega) (by rw [hq2, hQ]; omega)
