/-- What is left of the refutation: a start that the statement allows, from which the law comes to a call that never comes back. -/
theorem refuted_if {l : Launch} {p : Program} {e : Env} {s V : State} {m mk : MethodId} {args av : Array Value} {below : List Frame} {g : JFrame} {meth : Method} {c : Code}
    (hfl : l.flags = flags0) (hS : AtStart classFile x code maxLocals ret World_1 tables_1 room_1 Calls_1 rest_1 Pre_1 l p e s m args below) (hb : ∀ g r, below ≠ .native g :: r)
    (hst : Steps p.tables e below s V) (hV : V.frames = .invoking mk av :: .java g :: below)
    (hm : V.vm.method? g.method = some meth) (hcode : meth.code = some c) (hx : c.exceptionTable = #[]) (hl : meth.locks = false) (h1 : g.locked = none) (h2 : g.entered = [])
    (hd : Dm p.tables e (.java g :: below) V) : ¬ Claimed_1_1 := by
  intro hC
  obtain ⟨hL, hW, ha, -, hc, hk, hf, hfit, hheap, happ, q1, q2, q3⟩ := hS
  obtain ⟨n, o, hw, -, hend, hpost⟩ := hC l hfl hL hW p e ha hc hk s m args below hf hfit hheap happ ⟨q1, q2, q3⟩
  have hdoom : Dm p.tables e below s := dm_back hst (dm_over hm hcode hx hl h1 h2 hd)
  cases o with
  | returned v => exact (hdoom n hw).not_returned hb v hend
  | threw a => exact absurd hpost.1 (by simp [limb_1_1, postC, Cond.after, Cond.holds, Cond.value])
