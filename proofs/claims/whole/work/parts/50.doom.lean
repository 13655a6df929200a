/-! What never comes back with a value, by the library's word 'Doomed'. Rows of a refutation: not of i_vc. -/
abbrev Dm (tb : Tables) (e : Env) (below : List Frame) (s : State) : Prop := Jvm.Refuse.Doomed tb e below s
theorem dm_back {tb : Tables} {e : Env} {below : List Frame} {s t : State} (h : Steps tb e below s t) (d : Dm tb e below t) : Dm tb e below s := by
  obtain ⟨k0, hk0, hin⟩ := h
  intro n hw
  by_cases hlt : n < k0
  · exact .inl (hin n hlt)
  · obtain ⟨j, rfl⟩ : ∃ j, n = k0 + j := ⟨n - k0, by omega⟩
    have key : ∀ i, stepsAlone tb e (k0 + i) s = stepsAlone tb e i t := fun i => by rw [stepsAlone_add, hk0]
    rw [key]
    exact d j fun i hi => by rw [← key]; exact hw (k0 + i) (by omega)
theorem dm_stop {tb : Tables} {e : Env} {below : List Frame} {s : State} (h : ¬ s.goesOn) (hw : Jvm.Refuse.Alive below s) : Dm tb e below s :=
  fun n _ => by rw [stepsAlone_of_not_goesOn tb e h]; exact hw
theorem dm_first (P : Nat → Prop) (n : Nat) : (∀ k, k < n → P k) ∨ ∃ j, j < n ∧ (∀ i, i < j → P i) ∧ ¬ P j := by
  induction n with
  | zero => exact .inl fun k hk => absurd hk (Nat.not_lt_zero k)
  | succ n ih =>
    rcases ih with h | ⟨j, h1, h2, h3⟩
    · by_cases hp : P n
      · refine .inl fun k hk => ?_
        by_cases hkn : k < n
        · exact h k hkn
        · obtain rfl : k = n := by omega
          exact hp
      · exact .inr ⟨n, Nat.lt_succ_self n, h, hp⟩
    · exact .inr ⟨j, by omega, h2, h3⟩
/-- what is called over g never comes back with a value, and g has no handler: so g's own invocation doesn't -/
theorem dm_over {tb : Tables} {e : Env} {below : List Frame} {u : State} {g : JFrame} {meth : Method} {c : Code}
    (hm : u.vm.method? g.method = some meth) (hcode : meth.code = some c) (hx : c.exceptionTable = #[]) (hl : meth.locks = false) (h1 : g.locked = none) (h2 : g.entered = [])
    (hd : Dm tb e (.java g :: below) u) : Dm tb e below u := by
  intro n hw
  rcases dm_first (fun k => Within (stepsAlone tb e k u) (.java g :: below)) n with hall | ⟨j, hj, hall, hnot⟩
  · rcases hd n hall with h | ⟨a, h⟩ | h
    · exact .inl (Within.weaken (mid := [.java g]) h)
    · exact .inl (Jvm.Refuse.within_two (above := []) h)
    · exact .inr (.inr (Jvm.Refuse.cut_up h))
  · rcases hd j hall with h | ⟨a, hov⟩ | h
    · exact absurd h hnot
    · obtain ⟨i, rfl⟩ : ∃ i, n = j + 1 + i := ⟨n - (j + 1), by omega⟩
      have hmv : (stepsAlone tb e j u).vm.method? g.method = some meth := Jvm.Refuse.stepsAlone_method? tb e j hm
      by_cases hgo : (stepsAlone tb e j u).goesOn
      · have hst : (stepsAlone tb e (j + 1) u).frames = .throwing a :: below := by
          rw [stepsAlone_add, stepsAlone_succ _ hgo]
          show (stepThread tb e (stepsAlone tb e j u)).1.frames = _
          have h9 : stepThread tb e (stepsAlone tb e j u) = stepThrowing e (stepsAlone tb e j u) a (.java g :: below) := by unfold stepThread; rw [hov]
          rw [h9]
          exact Jvm.Refuse.falls_strong hmv hcode (Jvm.Refuse.Misses.of_empty hx) hl h1 h2 hov
        cases i with
        | zero => exact .inr (.inl ⟨a, hst⟩)
        | succ i => exact absurd (hw (j + 1) (by omega)) (Jvm.Refuse.not_within_over hst)
      · have h9 : stepsAlone tb e (j + 1 + i) u = stepsAlone tb e j u := by
          rw [Nat.add_assoc, stepsAlone_add, stepsAlone_of_not_goesOn tb e hgo]
        rw [h9]
        exact .inl (Jvm.Refuse.within_two (above := []) hov)
    · exact absurd (hw j hj) (Jvm.Refuse.not_within_cut (Jvm.Refuse.cut_up h))
/-! ## an invocation beyond the stack -/
def Ro {α : Type} : Sem α → Prop
  | .pure _ => True
  | .ctl _ => True
  | .look _ k => ∀ v, Ro (k v)
  | .frames k => ∀ v, Ro (k v)
  | .mark _ k => Ro k
  | _ => False
theorem Ro.bind {α β : Type} {t : Sem α} {f : α → Sem β} (h : Ro t) (h2 : ∀ a, Ro (f a)) : Ro (t >>= f) := by
  show Ro (t.bind f)
  induction t with
  | pure a => exact h2 a
  | ctl c => trivial
  | look g k ih => exact fun v => ih v (h v)
  | frames k ih => exact fun v => ih v (h v)
  | mark r k ih => exact ih h
  | _ => exact h.elim
theorem Ro.forIn {α β : Type} (xs : List α) (f : α → β → Sem (ForInStep β)) (hf : ∀ a b, Ro (f a b)) : ∀ init : β, Ro (forIn xs init f) := by
  induction xs with
  | nil => intro init; exact trivial
  | cons x xs ih =>
    intro init
    rw [List.forIn_cons]
    refine Ro.bind (hf x init) fun r => ?_
    cases r with
    | done b => exact trivial
    | yield b => exact ih b
theorem go_ro {α : Type} (t : Sem α) (e : Env) : ∀ (d : Bool) (acts : List Action) (s : State), Ro t → (t.go e d acts s).state = s := by
  induction t with
  | pure a => intro d acts s _; rfl
  | ctl c => intro d acts s _; rw [Sem.go]; unfold Sem.go.endStep; split <;> rfl
  | look g k ih => intro d acts s h; rw [Sem.go]; exact ih _ _ _ _ (h _)
  | frames k ih => intro d acts s h; rw [Sem.go]; exact ih _ _ _ _ (h _)
  | mark r k ih => intro d acts s h; rw [Sem.go]; exact ih _ _ _ h
  | _ => intro d acts s h; exact h.elim
theorem ro_class (c : ClassId) : Ro (theClass c) := fun v => by cases v <;> trivial
theorem ro_method (m : MethodId) : Ro (theMethod m) := Ro.bind (ro_class _) fun k => by split <;> trivial
theorem ro_ann (m : MethodId) (d : String) : Ro (annotated m d) := by
  unfold annotated
  refine Ro.bind (ro_class _) fun k => ?_
  dsimp only
  split
  · split
    · refine Ro.bind (fun v => trivial) fun b => ?_
      split
      · trivial
      · split
        · split
          · split <;> trivial
          · trivial
        · trivial
    · split
      · split
        · split <;> trivial
        · trivial
      · trivial
  · trivial
def dmP (x : Control) : Prop := (∃ cls msg, x = .throwNew cls msg) ∨ (∃ y, x = .stop y) ∨ ∃ a, x = .block a
def Gc (e : Env) (s : State) (t : Sem Frame) : Prop := ∀ acts, ∃ x acts', t.go e false acts s = .ctl x s acts' ∧ dmP x
theorem gc_ctl {e : Env} {s : State} {x : Control} (h : dmP x) : Gc e s (.ctl x) := by
  intro acts
  rw [Sem.go]
  unfold Sem.go.endStep
  split
  · exact ⟨_, _, rfl, .inr (.inl ⟨_, rfl⟩)⟩
  · exact ⟨_, _, rfl, h⟩
theorem gc_bind {e : Env} {s : State} {α : Type} {t : Sem α} {k : α → Sem Frame} (h : Ro t) (he : Jvm.Refuse.EndsIn dmP t) (hk : ∀ a, Gc e s (k a)) : Gc e s (t >>= k) := by
  show Gc e s (t.bind k)
  induction t with
  | pure a => exact hk a
  | ctl c => exact gc_ctl he
  | look f k' ih =>
    intro acts
    show ∃ x acts', Sem.go (Sem.look f fun v => (k' v).bind k) e false acts s = .ctl x s acts' ∧ dmP x
    rw [Sem.go]
    exact ih _ (h _) (he _) _
  | frames k' ih =>
    intro acts
    show ∃ x acts', Sem.go (Sem.frames fun v => (k' v).bind k) e false acts s = .ctl x s acts' ∧ dmP x
    rw [Sem.go]
    exact ih _ (h _) (he _) _
  | mark r k' ih =>
    intro acts
    show ∃ x acts', Sem.go (Sem.mark r (k'.bind k)) e false acts s = .ctl x s acts' ∧ dmP x
    rw [Sem.go]
    exact ih h he _
  | _ => exact h.elim
theorem gc_frames {e : Env} {s : State} {k : List Frame → Sem Frame} (h : Gc e s (k s.frames)) : Gc e s (Jvm.frames >>= k) := by
  intro acts
  show ∃ x acts', Sem.go (Sem.frames fun v => (Sem.pure v).bind k) e false acts s = .ctl x s acts' ∧ dmP x
  rw [Sem.go]
  exact h acts
theorem gc_ask {e : Env} {s : State} {β : Type} {f : Platform → β} {k : β → Sem Frame} (h : Gc e s (k (f e.platform))) : Gc e s (Jvm.ask f >>= k) := by
  intro acts
  show ∃ x acts', Sem.go (Sem.look (fun e _ => f e.platform) fun v => (Sem.pure v).bind k) e false acts s = .ctl x s acts' ∧ dmP x
  rw [Sem.go]
  exact h acts
theorem dm_fin {tb : Tables} {e : Env} {s : State} {acts : List Action} {my : MethodId} {args : Array Value} {below : List Frame} {g : JFrame} {meth : Method} {c : Code} {X : Sem Frame}
    (hX : Gc e s X) (hfr : s.frames = .java g :: below)
    (hm : s.vm.method? g.method = some meth) (hcode : meth.code = some c) (hx : c.exceptionTable = #[]) (hl : meth.locks = false) (h1 : g.locked = none) (h2 : g.entered = []) :
    Dm tb e below (match X.go e false acts s with
      | .ok f s' acts' => (s'.pushFrame f, acts')
      | .ctl (.block a) s' acts' => ((s'.pushFrame (.invoking my args)).setStatus (.blocking a), .mark "vm.invoke/blocked" :: acts')
      | .ctl c s' acts' => (note c s', acts') : Out).1 := by
  obtain ⟨x, acts', hg, hP⟩ := hX acts
  rw [hg]
  rcases hP with ⟨cls, msg, rfl⟩ | ⟨y, rfl⟩ | ⟨a, rfl⟩
  · show Dm tb e below (s.pushFrame (.throwNew cls msg none))
    exact Jvm.Refuse.doomed_raise (N := .throwNew cls msg none) hx (m := g.method) hm hcode hl (by rw [Jvm.Refuse.frames_pushFrame _ (Jvm.Refuse.ok_of_frames hfr), hfr]) trivial rfl h1 h2
  · show Dm tb e below (s.halt y)
    refine dm_stop (fun h => ?_) (.inl ⟨[.java g], ?_, by simp, by simp⟩)
    · exact absurd h.1 (by unfold State.halt; simp)
    · exact hfr
  · show Dm tb e below ((s.pushFrame (.invoking my args)).setStatus (.blocking a))
    refine dm_stop (fun h => ?_) (.inl (Jvm.Refuse.within_two (above := []) (x := .invoking my args) (y := .java g) ?_))
    · have h9 := h.2.1
      simp [State.curStatus?, State.setStatus, Array.getElem?_modify] at h9
    · rw [Jvm.Refuse.frames_setStatus, Jvm.Refuse.frames_pushFrame _ (Jvm.Refuse.ok_of_frames hfr), hfr]; rfl
theorem ends_class (c : ClassId) : Jvm.Refuse.EndsIn dmP (theClass c) := fun v => by
  cases v with
  | none => exact .inr (.inl ⟨_, rfl⟩)
  | some k => trivial
theorem ends_method (m : MethodId) : Jvm.Refuse.EndsIn dmP (theMethod m) := Jvm.Refuse.EndsIn.bind (ends_class _) fun k => by split <;> first | trivial | exact .inr (.inl ⟨_, rfl⟩)
theorem ends_ann (m : MethodId) (d : String) : Jvm.Refuse.EndsIn dmP (annotated m d) := by
  unfold annotated
  refine Jvm.Refuse.EndsIn.bind (ends_class _) fun k => ?_
  dsimp only
  split
  · split
    · refine Jvm.Refuse.EndsIn.bind (fun v => trivial) fun b => ?_
      split
      · trivial
      · split
        · split
          · split <;> trivial
          · trivial
        · exact .inr (.inl ⟨_, rfl⟩)
    · split
      · split
        · split <;> trivial
        · trivial
      · exact .inr (.inl ⟨_, rfl⟩)
  · trivial
theorem dm_full {tb : Tables} {e : Env} {s : State} {acts : List Action} {my : MethodId} {args : Array Value} {below : List Frame} {g : JFrame} {meth : Method} {c : Code}
    (hfr : s.frames = .java g :: below) (hfull : (e.platform.stackLimits ((s.threads[s.cur]?).getD { frames := [] })).1 ≤ s.frames.length) (hno : ∀ f ∈ s.frames, ¬ Jvm.Refuse.Thr f)
    (hm : s.vm.method? g.method = some meth) (hcode : meth.code = some c) (hx : c.exceptionTable = #[]) (hl : meth.locks = false) (h1 : g.locked = none) (h2 : g.entered = []) :
    Dm tb e below (doInvoke e s acts my args).1 := by
  have hsf : ∀ n, e.platform.stackFull ((s.threads[s.cur]?).getD { frames := [] }) s.frames n = true := fun n => by
    unfold Platform.stackFull
    rw [stackUse_fst, decide_eq_true hfull]; rfl
  have han : ∀ fs : List Frame, (∀ f ∈ fs, ¬ Jvm.Refuse.Thr f) → (fs.any fun x => match x with
      | .thenThrow _ => true
      | .throwNew _ _ _ => true
      | _ => false) = false := fun fs h => by
    rw [List.any_eq_false]
    intro f hf
    have h9 := h f hf
    cases f <;> first | exact fun _ => h9 trivial | exact fun q => Bool.noConfusion q
  unfold doInvoke
  refine dm_fin (gc_frames (gc_bind (ro_method my) (ends_method my) fun methY => gc_ask ?_)) hfr hm hcode hx hl h1 h2
  dsimp only
  rw [if_pos (by rw [hsf, Bool.true_and, Bool.or_eq_true]; exact .inl ((Bool.not_eq_true' _).mpr (han s.frames hno)))]
  refine gc_bind (Ro.forIn _ _ (fun f b => ?_) _) (Jvm.Refuse.EndsIn.forIn_list _ _ (fun f b => ?_) _) fun _ => gc_bind (t := Jvm.mark _) trivial trivial fun _ => gc_ctl (.inl ⟨_, _, rfl⟩)
  · split
    · refine Ro.bind (ro_ann _ _) fun b => ?_
      split <;> trivial
    · trivial
  · split
    · refine Jvm.Refuse.EndsIn.bind (ends_ann _ _) fun b => ?_
      split
      · exact .inr (.inl ⟨_, rfl⟩)
      · trivial
    · trivial
/-! ## contracts of what never comes back -/
/-- just d frames are left, and no exception is under way -/
def Tg (e : Env) (d : Nat) (s : State) : Prop := (e.platform.stackLimits s.me).1 = s.frames.length + d ∧ ∀ f ∈ s.frames, ¬ Jvm.Refuse.Thr f
def Rm (d : Nat) : Room := { frames := d, cells := 0, slots := 0, locals := 40 * d }
def Dies (l : Launch) (y : MethodName) (ws : List Cond) (d : Nat) (Pc : Array Value → State → Prop) : Prop :=
  ∀ (p : Program) (e : Env), l.admits e → FairCas e.choices → FairClock e.choices → ∀ (s : State) (m : MethodId) (args : Array Value) (below : List Frame),
    s.frames = .invoking m args :: below → (headSpec ws (Rm d)).appliesLoose y e.platform s = true → Tg e d s → Pc args s → Dm p.tables e below s
theorem Dies.ofW {l : Launch} {y : MethodName} {ws ws' : List Cond} {d : Nat} {Pc : Array Value → State → Prop} {cc : ByteArray} {maxL : Nat} {ret : Option FieldType}
    (hy : plainName y.cls = true) (hw : ws = Cond.code y cc maxL ret :: ws')
    (body : ∀ p e s m args below meth c s₁, BodyLoose p l y (headSpec ws (Rm d)) cc maxL ret e s m args below meth c s₁ → c.maxLocals = maxL → c.exceptionTable = #[] → meth.code = some c → Tg e d s → Pc args s →
      W p l e (Rm d) s m args below meth c s.heap [] 0 0 (Dm p.tables e below) (entryFrame m args maxL)) : Dies l y ws d Pc := by
  intro p e ha hc hk s m args below hf happ htg hP
  obtain ⟨hrun, hable, halone, hname, hhears, hinit, hroom, hpre⟩ := (Spec.appliesLoose_iff hf).mp happ
  obtain ⟨meth, c, hmeth, hcode, hbytes, hlocals, hret, hlocks, hempty, -⟩ := Cond.code_spec hname (atoms_spec (ws := ws) hpre _ (by rw [hw]; exact List.mem_cons_self))
  have hcur := State.cur_lt_of_frames hf
  obtain ⟨s₁, hs₁⟩ : ∃ s₁, s₁ = s.setFrames (.java (entryFrame m args maxL) :: below) := ⟨_, rfl⟩
  have hf1 : s₁.frames = .java (entryFrame m args maxL) :: below := by rw [hs₁]; exact State.frames_setFrames _ hcur
  have ht1 := State.topJava?_of_frames hf1
  have hAt : At s₁ m c below := by
    refine ⟨by rw [ht1]; rfl, ⟨[], by rw [hf1]; rfl⟩, by rw [hs₁]; exact hrun, by rw [hs₁]; simpa using hable, by rw [hs₁]; simpa using halone, ?_, ?_⟩
    · rw [State.code?_eq, hs₁]; simp [State.setFrames, hmeth, hcode]
    · rw [hs₁]; exact State.plainMethod.of_named (s := s) (plainFor_of_name hy) hname hmeth
  have hB : BodyLoose p l y (headSpec ws (Rm d)) cc maxL ret e s m args below meth c s₁ :=
    ⟨ha, hc, hk, by cases p <;> rfl, hf, hname, hhears, hinit, hroom, hpre, hmeth, hret, hlocks, hbytes, hs₁, hAt⟩
  have hstep : (stepThread p.tables e s).1 = s₁.setTop (entryFrame m args maxL) := by
    have hfull : e.platform.stackFull (s.setFrames below).me (s.setFrames below).frames c.maxLocals = false := by
      obtain ⟨-, h1, -, h2⟩ := State.hasRoom_stack hroom
      rw [hf, List.length_cons] at h1
      rw [State.localsInUse_invoking hf hmeth hcode] at h2
      have hw := stackUse_le_stackWeight below
      rw [State.frames_setFrames _ hcur]
      exact Platform.stackFull_eq_false (by rw [State.stackLimits_setFrames]; omega) (by rw [State.stackLimits_setFrames]; omega)
    rw [stepThread_invoking hf, (doInvoke_java (s := s.setFrames below) (e := e) (meth := meth) (code := c) hmeth hcode hlocks hfull).1, State.setTop_self ht1, hs₁]
    simp only [State.pushFrame, State.frames_setFrames _ hcur, State.setFrames_setFrames, hlocals, entryFrame]
  obtain ⟨t, hst, hd⟩ := body p e s m args below meth c s₁ hB hlocals (by simpa using hempty) hcode htg hP s₁ (by rw [hs₁]; rfl) (Stand.of_body hB)
  exact dm_back (Steps.head (tb := p.tables) (e := e) ⟨hrun, hable, halone⟩ ⟨[.invoking m args], hf, by simp, by simp⟩ (hstep ▸ hst)) hd
theorem dm_fwd {tb : Tables} {e : Env} {below : List Frame} {s : State} (hgo : s.goesOn) (hw : Within s below) (d : Dm tb e below s) : Dm tb e below (stepThread tb e s).1 := by
  intro n h
  have h9 := d (n + 1) fun k hk => by
    cases k with
    | zero => exact hw
    | succ k => rw [stepsAlone_succ _ hgo]; exact h k (by omega)
  rwa [stepsAlone_succ _ hgo] at h9
section Die
variable {p : Program} {l : Launch} {e : Env} {R : Room} {s : State} {m : MethodId} {args : Array Value} {below : List Frame} {meth : Method} {c : Code} {H : Heap} {locs : List Loc} {cells slots : Nat}
variable {y : MethodName} {bytes cc : ByteArray} {maxL nL n index d : Nat} {ret : Option FieldType} {ws : List Cond} {Pc : Array Value → State → Prop} {Ts : List Cond} {own C : String} {b : Addr} {As rest : List Value} {g : JFrame}
theorem va_dieV (S : CallFix p m c cc nL s args Ts own) (hD : ∀ k, d = k + 1 → Dies l y ws k Pc) (cw : CallW (Rm 1) s args own C index y bytes maxL ret ws (Rm 0) 0 0 n) (hp : PreV s H C b Pc As)
    (hex : c.exceptionTable = #[]) (hmc : meth.code = some c) (hlk : meth.locks = false) (htg : Tg e d s)
    (hg : g.method = m) (hn : As.length = n) (hsize : g.locals.size = nL) (hstack : g.stack = As.reverse ++ .ref b :: rest) (hW : 2 * g.monitorRoom + (rest.map fun v => v.category).sum ≤ 8) (hdg : decode cc g.pc = .ok (.invokevirtual index, 3))
    (hgl : g.locked = none) (hge : g.entered = []) (hc0 : cells ≤ 0) (hs0 : slots ≤ 0) : W p l e (Rm d) s m args below meth c H locs cells slots (Dm p.tables e below) g := by
  obtain ⟨⟨-, -, -, hlo, hws, hcw, hcode, hini, hy, hlen, hlink⟩, hinst, hsel⟩ := cw
  obtain ⟨hexec, hb, hml, hown, -⟩ := S
  obtain ⟨hbl, ⟨cellB, hcell, hobj, hcls⟩, hPc⟩ := hp
  intro T hT X
  obtain ⟨mk, methM, hnamed, hmethM, hstM, habM⟩ := Cond.instanceMethod_spec hinst
  obtain ⟨methM', cM, hmethM', hcM, -, hlM, -, -, -, hsigM⟩ := Cond.code_spec hnamed hcode
  cases hmethM.symm.trans hmethM'
  obtain ⟨c2, r2, m2, q1, q2, q3, q4, kP, hkP, hkPi⟩ := Cond.selects_spec hsel
  cases hcls.symm.trans q1
  cases (State.methodFound?_of_named hnamed hy).symm.trans q2
  cases hnamed.symm.trans q3
  have hselP : selectMethod e.platform s.vm cellB.cls mk = .method mk := by rw [Launch.admits_selectMethod X.admits]; exact q4
  obtain ⟨vm₁, X₁, hstep₁⟩ := X.invokevirtual hexec hown hlink hnamed hmethM hstM hkP hkPi hy (a := b) (cell := cellB) (by rw [hT]; exact hcell)
    (fun z h => by rw [h] at hobj; cases hobj) hselP hmethM habM hkP hkPi (g := g) hg (argsL := As) (rest := rest) (hn.trans (hlen _ hsigM)) hstack (by rw [hb]; exact hdg)
  obtain ⟨g', hg'⟩ : ∃ g' : JFrame, g' = { g with stack := rest } := ⟨_, rfl⟩
  rw [← hg'] at hstep₁
  have hgm : g'.method = m := by rw [hg']; exact hg
  have hl' : g'.locked = none := by rw [hg']; exact hgl
  have he' : g'.entered = [] := by rw [hg']; exact hge
  refine ⟨(doInvoke e ((T.setVm vm₁).setTop g') [] mk (Value.ref b :: As).toArray).1, hstep₁ _ (fun acts => by rw [doInvoke_state]; exact Steps.refl _), ?_⟩
  have hfr : ((T.setVm vm₁).setTop g').frames = .java g' :: below := by rw [State.frames_setTop' _ X₁.here.top, X₁.tail]
  have hme : ((T.setVm vm₁).setTop g').vm.method? g'.method = some meth := by rw [hgm]; exact X₁.method'
  have hlim : e.platform.stackLimits ((T.setVm vm₁).setTop g').me = e.platform.stackLimits s.me := by rw [State.stackLimits_setTop _ X₁.here.top, X₁.limits]
  have hsl : s.frames.length = below.length + 1 := by rw [X.frames]; rfl
  have hbn : ∀ f ∈ below, ¬ Jvm.Refuse.Thr f := fun f h => htg.2 f (by rw [X.frames]; exact List.mem_cons_of_mem _ h)
  cases d with
  | zero =>
    refine dm_full hfr ?_ ?_ hme hmc hex hlk hl' he'
    · show (e.platform.stackLimits ((T.setVm vm₁).setTop g').me).1 ≤ _
      rw [hlim, htg.1, hsl, hfr]; simp
    · rw [hfr]
      intro f hf
      rcases List.mem_cons.mp hf with rfl | hf
      · exact fun h => h
      · exact hbn f hf
  | succ k =>
    have hf2 : ((T.setVm vm₁).calling g' mk (Value.ref b :: As).toArray).frames = .invoking mk (Value.ref b :: As).toArray :: .java g' :: below := by
      rw [State.frames_calling X₁.here.top, X₁.tail]
    have hsz : g'.locals.size = c.maxLocals := by rw [hg', hml]; exact hsize
    have hg2 : 2 * g'.monitorRoom + (g'.stack.map fun v => v.category).sum ≤ 8 := by rw [hg']; exact hW
    have hrm : ((T.setVm vm₁).calling g' mk (Value.ref b :: As).toArray).hasRoom e.platform (Rm k) = true :=
      X₁.room_calling (g := g') (R' := Rm k) hsz (by rw [X₁.warmed.alike.method?]; exact hmethM) hcM (Nat.le_refl _)
        (by show _ + (cM.maxLocals + 11) + 40 * k ≤ 40 * (k + 1); have h9 : 8 + (maxL + 11) + 40 * 0 ≤ 40 * 1 := hlo; rw [hlM]; omega) (by show cells + 0 ≤ 0; omega) (by show slots + 0 ≤ 0; omega)
    have hnU : (T.setVm vm₁).methodNamed? y = some mk := X₁.named hnamed
    obtain ⟨kY, hkY, -⟩ := className_of_methodNamed hnU
    have h3 : (Cond.initialized y.cls).before (Value.ref b :: As).toArray (T.setVm vm₁) = true := word_at X₁.warmed (Or.inl (by first | rfl | simp [Cond.onTables, Cond.keeps, Cond.steady])) hini
    have hinitY : kY.init = .initialized := Cond.initialized_spec (findClass_of_methodNamed hnU) hkY h3
    have happ : (headSpec ws (Rm k)).appliesLoose y e.platform ((T.setVm vm₁).calling g' mk (Value.ref b :: As).toArray) = true :=
      Spec.appliesLoose_calling (g := g') (c := c) (below := below) (by rw [hgm]; exact X₁.here) (ig := .invokevirtual index) (len := 3) (by rw [hg', hb]; exact hdg) hnU
        hkY hinitY hrm (atoms_intro fun w hw => hws w hw _ _ X₁.warmed)
    have htg2 : Tg e k ((T.setVm vm₁).calling g' mk (Value.ref b :: As).toArray) := by
      refine ⟨?_, ?_⟩
      · rw [State.calling_eq X₁.here.top, State.stackLimits_setFrames, ← State.calling_eq X₁.here.top, hf2, X₁.limits, htg.1, hsl]
        simp only [List.length_cons]; omega
      · rw [hf2]
        intro f hf
        rcases List.mem_cons.mp hf with rfl | hf
        · exact fun h => h
        · rcases List.mem_cons.mp hf with rfl | hf
          · exact fun h => h
          · exact hbn f hf
    have hdie := hD k rfl p e X.admits X.cas X.clock _ mk (Value.ref b :: As).toArray (.java g' :: below) hf2 happ htg2 (hbl _ _ _ _ (hPc (T.setVm vm₁) hT X₁.warmed))
    have hov := dm_over (g := g') (by rw [hgm]; exact X₁.method') hmc hex hlk hl' he' hdie
    have hgo : ((T.setVm vm₁).calling g' mk (Value.ref b :: As).toArray).goesOn := by
      obtain ⟨h1, h2, h3, -⟩ := (Spec.appliesLoose_iff hf2).mp happ
      exact ⟨h1, h2, h3⟩
    have h8 := dm_fwd hgo (Jvm.Refuse.within_two (above := []) hf2) hov
    rw [stepThread_invoking hf2] at h8
    have h7 : ((T.setVm vm₁).calling g' mk (Value.ref b :: As).toArray).setFrames (.java g' :: below) = (T.setVm vm₁).setTop g' := by
      obtain ⟨g₀, hg0⟩ := Option.isSome_iff_exists.mp X₁.here.top
      obtain ⟨r, hr⟩ := State.topJava?_eq_some.mp hg0
      have hrb : r = below := by have h9 := X₁.tail; rw [hr] at h9; exact h9
      rw [State.calling_eq X₁.here.top, State.setFrames_setFrames, State.setTop_of_frames _ hr, hrb]
    rw [h7] at h8
    exact h8
end Die
/-- a loop: what holds at its head with n turns left -/
theorem loopD {p : Program} {l : Launch} {e : Env} {R : Room} {s : State} {m : MethodId} {args : Array Value} {below : List Frame} {meth : Method} {c : Code} {cells slots : Nat} {Q : State → Prop} {St : Type} (I : Nat → St → Heap → List Loc → Array Slot → Prop) (hd : Nat)
    (ex : ∀ (st : St) (H : Heap) (locs : List Loc) (ls : Array Slot), I 0 st H locs ls → W p l e R s m args below meth c H locs cells slots Q (F0 m hd ls []))
    (go : ∀ (n : Nat) (st : St) (H : Heap) (locs : List Loc) (ls : Array Slot), I (n + 1) st H locs ls → (∀ (st2 : St) (H2 : Heap) (locs2 : List Loc) (ls2 : Array Slot), I n st2 H2 locs2 ls2 → W p l e R s m args below meth c H2 locs2 cells slots Q (F0 m hd ls2 [])) → W p l e R s m args below meth c H locs cells slots Q (F0 m hd ls [])) :
    ∀ (n : Nat) (st : St) (H : Heap) (locs : List Loc) (ls : Array Slot), I n st H locs ls → W p l e R s m args below meth c H locs cells slots Q (F0 m hd ls []) := by
  intro n
  induction n with
  | zero => exact ex
  | succ n ih => exact fun st H locs ls h => go n st H locs ls h ih
