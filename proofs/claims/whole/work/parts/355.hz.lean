/-! how a thrown cell finds its row in the method's own table (my own road: the printed vx_catch calls a law that no round has) -/
theorem hz_row {Q : Handler → Pre} {E : CtlPost} {e : Env} {d : Bool} {acts : List Action} {s : State} {f : JFrame} {a : Addr} {x : ExceptionTableEntry} {t : List ExceptionTableEntry} {c : ClassId} {cell : Cell} (hx : covers x f.pc = true) (h0 : x.catchType ≠ 0)
    (hl : s.vm.ClassLinks e.platform f.method.cls x.catchType c) (hcell : s.heap[a]? = some cell) (hobj : ∀ k, cell.vm ≠ .statics k) (hk : ∃ k, s.vm.classes[cell.cls]? = some k) (hc : ∃ k, s.vm.classes[c]? = some k) :
    wp (findHandler.go f a (x :: t)) Q E e d acts s ↔ if s.vm.assignable cell.cls c = true then Q (.found x.handlerPc) d acts (s.setVm (s.vm.noted f.method.cls x.catchType (.cls c))) else wp (findHandler.go f a t) Q E e d acts (s.setVm (s.vm.noted f.method.cls x.catchType (.cls c))) := by
  have q1 := (resolveClass_links e.toSetting hl).op (op := VmOp.resolveClass f.method.cls x.catchType) rfl
  have q2 : s.vm.Alike (s.vm.noted f.method.cls x.catchType (.cls c)) := (Vm.Alike.refl s.vm).noted _ _ _
  obtain ⟨k1, h1⟩ := hk
  obtain ⟨k2, h2⟩ := hc
  obtain ⟨k3, h3, -⟩ := q2.2.2 _ _ h1
  obtain ⟨k4, h4, -⟩ := q2.2.2 _ _ h2
  have q3 : (s.vm.noted f.method.cls x.catchType (.cls c)).assignable cell.cls c = s.vm.assignable cell.cls c := by rw [q2.assignable]
  simp only [covers] at hx
  cases h5 : s.vm.assignable cell.cls c with
  | true =>
    rw [h5] at q3
    simp [findHandler.go, hx, h0, q1.1, q1.2, hcell, hobj, h3, h4, q3, VmOp.dirties, VmOp.acts]
  | false =>
    rw [h5] at q3
    simp [findHandler.go, hx, h0, q1.1, q1.2, hcell, hobj, h3, h4, q3, VmOp.dirties, VmOp.acts]
/-- a row that covers, from a state that has warmed since -/
theorem hz_at {e : Env} {s₀ S : State} {f : JFrame} {a : Addr} {x : ExceptionTableEntry} {t : List ExceptionTableEntry} {c : ClassId} {cell : Cell} (hx : covers x f.pc = true) (h0 : x.catchType ≠ 0)
    (hl : s₀.vm.ClassLinks e.platform f.method.cls x.catchType c) (hW : s₀.WarmedH S.vm) (hcell : S.heap[a]? = some cell) (hobj : ∀ k, cell.vm ≠ .statics k) (hk0 : ∃ k, s₀.vm.classes[cell.cls]? = some k) :
    ∃ vm1, s₀.WarmedH vm1 ∧ ∀ (Q : Handler → Pre) (E : CtlPost) (d : Bool) (acts : List Action), wp (findHandler.go f a (x :: t)) Q E e d acts S ↔ if s₀.vm.assignable cell.cls c = true then Q (.found x.handlerPc) d acts (S.setVm vm1) else wp (findHandler.go f a t) Q E e d acts (S.setVm vm1) := by
  obtain ⟨k0, hk0⟩ := hk0
  obtain ⟨k1, h1, -⟩ := hW.alike.2.2 _ _ hk0
  obtain ⟨dk, _, _, kt, hd, _, _, _, _, hkt, _, hopen⟩ := hl.here
  obtain ⟨k2, h2, -⟩ := hW.alike.2.2 _ _ hkt
  refine ⟨S.vm.noted f.method.cls x.catchType (.cls c), hW.noted hd hopen (State.rightAt_cls hl), fun Q E d acts => ?_⟩
  have q := hz_row (Q := Q) (E := E) (d := d) (acts := acts) (t := t) hx h0 (hW.classLinks hl) hcell hobj ⟨k1, h1⟩ ⟨k2, h2⟩
  rw [hW.alike.assignable] at q
  exact q
theorem hz_find {e : Env} {s₀ : State} {f : JFrame} {a : Addr} {cell : Cell} {x : ExceptionTableEntry} {suf : List ExceptionTableEntry} {cx : ClassId} (hobj : ∀ k, cell.vm ≠ .statics k) (hk0 : ∃ k, s₀.vm.classes[cell.cls]? = some k)
    (hx : covers x f.pc = true) (h0 : x.catchType ≠ 0) (hlx : s₀.vm.ClassLinks e.platform f.method.cls x.catchType cx) (hfit : s₀.vm.assignable cell.cls cx = true) (pre : List ExceptionTableEntry) :
    ∀ S : State, s₀.WarmedH S.vm → S.heap[a]? = some cell → (∀ z ∈ pre, covers z f.pc = false ∨ (z.catchType ≠ 0 ∧ ∃ c, s₀.vm.ClassLinks e.platform f.method.cls z.catchType c ∧ s₀.vm.assignable cell.cls c = false)) →
      ∃ vm', s₀.WarmedH vm' ∧ ∀ (Q : Handler → Pre) (E : CtlPost) (d : Bool) (acts : List Action), wp (findHandler.go f a (pre ++ x :: suf)) Q E e d acts S ↔ Q (.found x.handlerPc) d acts (S.setVm vm') := by
  induction pre with
  | nil =>
    intro S hW hcell _
    obtain ⟨vm1, w1, q⟩ := hz_at (t := suf) hx h0 hlx hW hcell hobj hk0
    refine ⟨vm1, w1, fun Q E d acts => ?_⟩
    have q9 := q Q E d acts
    rw [if_pos hfit] at q9
    exact q9
  | cons z zs ih =>
    intro S hW hcell hp
    have hp2 := fun y hy => hp y (List.mem_cons_of_mem _ hy)
    rcases hp z List.mem_cons_self with hz | ⟨hz0, c, hl, hno⟩
    · obtain ⟨vm1, w1, q⟩ := ih S hW hcell hp2
      exact ⟨vm1, w1, fun Q E d acts => (Jvm.W.findHandler_go_skip hz).trans (q Q E d acts)⟩
    · cases hz : covers z f.pc with
      | false =>
        obtain ⟨vm1, w1, q⟩ := ih S hW hcell hp2
        exact ⟨vm1, w1, fun Q E d acts => (Jvm.W.findHandler_go_skip hz).trans (q Q E d acts)⟩
      | true =>
        obtain ⟨vm1, w1, q1⟩ := hz_at (t := zs ++ x :: suf) hz hz0 hl hW hcell hobj hk0
        obtain ⟨vm2, w2, q2⟩ := ih (S.setVm vm1) w1 hcell hp2
        refine ⟨vm2, w2, fun Q E d acts => ?_⟩
        have q9 := q1 Q E d acts
        rw [if_neg (by rw [hno]; decide)] at q9
        exact q9.trans (q2 Q E d acts)
