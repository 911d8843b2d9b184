/-! methods that throw -/
def wx_at (own : String) (ic : Nat) (X : String) (ix : Nat) (rx : ByteArray) : List Cond := (wx_own own ic X "java/lang/RuntimeException" ix rx ["java/lang/Exception"]).filter vx_no
def xwL : List Cond := [.castable nIA nIA, .castable nIS nIS, .castable nNS nNS, .declares (Bundle.initS "java/lang/RuntimeException"), .declares (Bundle.initS "java/lang/Exception"), .declares (Bundle.initS Bundle.tN)]
def atIA : List Cond := wx_at RX3 42 nIA 7 Bundle.six
def atIS : List Cond := wx_at RX3 53 nIS 7 Bundle.six
def atNS : List Cond := wx_at RX3 99 nNS 13 wx_s13
theorem atIA_t : ∀ w ∈ atIA.filter goodWord, w ∈ lw_tbl := by decide +kernel
theorem atIS_t : ∀ w ∈ atIS.filter goodWord, w ∈ lw_tbl := by decide +kernel
theorem atNS_t : ∀ w ∈ atNS.filter goodWord, w ∈ lw_tbl := by decide +kernel
theorem atIA_b : ∀ w ∈ atIA.filter (fun w => !goodWord w), w ∈ xwL := by decide +kernel
theorem atIS_b : ∀ w ∈ atIS.filter (fun w => !goodWord w), w ∈ xwL := by decide +kernel
theorem atNS_b : ∀ w ∈ atNS.filter (fun w => !goodWord w), w ∈ xwL := by decide +kernel
theorem atIA_o : ∀ w ∈ Cond.classLink RX3 38 nIA :: Cond.initialized nIA :: atIA, vx_ot w = true := by decide +kernel
theorem atIS_o : ∀ w ∈ Cond.classLink RX3 49 nIS :: Cond.initialized nIS :: atIS, vx_ot w = true := by decide +kernel
theorem atNS_o : ∀ w ∈ Cond.classLink RX3 97 nNS :: Cond.initialized nNS :: atNS, vx_ot w = true := by decide +kernel
theorem iniIA : Cond.initialized nIA ∈ G := mG (by decide +kernel) rfl
theorem iniIS : Cond.initialized nIS ∈ G := mG (by decide +kernel) rfl
theorem iniNS : Cond.initialized nNS ∈ G := mG (by decide +kernel) rfl
def XW (U : State) : Prop := ∀ w ∈ xwL, w.before #[] U = true
theorem XW.warm {s U : State} (hW : s.WarmedH U.vm) (h : XW s) : XW U := by
  have cs : ∀ a b : String, (Cond.castable a b).before #[] s = true → (Cond.castable a b).before #[] U = true := fun a b h1 => va_tabs rfl (rfl : (s.setVm U.vm).vm = U.vm) (by rw [Cond.castable_setVm hW.alike]; exact h1)
  have ds : ∀ x : MethodName, (Cond.declares x).before #[] s = true → (Cond.declares x).before #[] U = true := fun x h1 => va_Nw.warmD hW h1
  intro w hw
  have h1 := h w hw
  simp only [xwL, List.mem_cons, List.not_mem_nil, or_false] at hw
  rcases hw with rfl | rfl | rfl | rfl | rfl | rfl
  · exact cs _ _ h1
  · exact cs _ _ h1
  · exact cs _ _ h1
  · exact ds _ h1
  · exact ds _ h1
  · exact ds _ h1
theorem XW.use {s : State} {args : Array Value} (h : XW s) : ∀ w ∈ xwL, w.before args s = true := by
  intro w hw
  have h1 := h w hw
  simp only [xwL, List.mem_cons, List.not_mem_nil, or_false] at hw
  rcases hw with rfl | rfl | rfl | rfl | rfl | rfl <;> exact va_any rfl h1
def strs : List (Nat × String) := [(40, "the parent is not a class"), (51, "there are as many classes as there can be"), (62, "no such class or selector"), (68, "no such kind, or a number that the kind does not take"), (77, "the body has as many operations as it can have"), (103, "no such operation"), (111, "no such heap"), (117, "no such count"), (122, "no such value was put out")]
/-- what a throw stands on: its texts, two statics of Throwable, words of the tables -/
def XK (A : Nat → Prop) (U : State) (H : Heap) : Prop := (∀ q ∈ strs, ∃ sa, vk_R RX3 q.1 q.2 sa U) ∧ vx_Zq Bundle.tN "UNASSIGNED_STACK" Bundle.steD A U H ∧ vx_Zq Bundle.tN "SUPPRESSED_SENTINEL" Bundle.listD A U H ∧ XW U ∧ va_Nc nIS nIA U
theorem XK.warm {A : Nat → Prop} {s U : State} {H : Heap} (hW : s.WarmedH U.vm) (h : XK A s H) : XK A U H := ⟨fun q hq => by obtain ⟨sa, h1⟩ := h.1 q hq; exact ⟨sa, vk_R.warm hW h1⟩, vx_Zq.moved hW.alike h.2.1, vx_Zq.moved hW.alike h.2.2.1, XW.warm hW h.2.2.2.1, va_Nc.moved hW.alike h.2.2.2.2⟩
theorem XK.kept {A : Nat → Prop} {U : State} {H H1 : Heap} (h : XK A U H) (hq : ∀ a : Nat, a < H.size → ¬ A a → H1[a]? = H[a]?) : XK A U H1 := ⟨h.1, vx_Zq.kept h.2.1 hq, vx_Zq.kept h.2.2.1 hq, h.2.2.2⟩
theorem XK.narrow {A B : Nat → Prop} {U : State} {H : Heap} (h : XK A U H) (hAB : ∀ q, B q → A q) : XK B U H := ⟨h.1, vx_Zq.narrow h.2.1 hAB, vx_Zq.narrow h.2.2.1 hAB, h.2.2.2⟩
section CXA
variable {p : Program} {l : Launch} {e : Env} {R : Room} {s : State} {m : MethodId} {args : Array Value} {below : List Frame} {meth : Method} {c : Code} {H : Heap} {locs : List Loc} {cells slots : Nat} {Q : State → Prop}
variable {Qc : Array Value → State → Outcome → State → Prop} {XC : String → State → State → Prop} {free : Addr → Prop} {ls : Array Slot} {rest : List Value}
set_option maxHeartbeats 1000000 in
theorem wx_throw {cc : ByteArray} {pc : Nat} (hexec : p.tables.exec = Jvm.exec) (hb : c.code = cc) (hl : l.stackTraces = false) {own cls text up : String} {r : List String} {ik is ic mc ms sa ix : Nat} {rx : ByteArray} {A : Nat → Prop}
    (x0 : decode rx 0 = .ok (.aload_n 0, 1)) (x1 : decode rx 1 = .ok (.aload_n 1, 1)) (x2 : decode rx 2 = .ok (.invokespecial ix, 3)) (x5 : decode rx 5 = .ok (.return_, 1))
    (hown : s.vm.findClass own = some m.cls) (hcls : Bundle.fit cls = true) (hup : Bundle.fit up = true) (hnames : ∀ n ∈ r, Bundle.fit n = true)
    (hk : (Cond.classLink own ik cls).before args s = true) (hini : (Cond.initialized cls).before args s = true) (hstr : vk_R own is text sa s) (hat : ∀ w ∈ (wx_own own ic cls up ix rx r).filter vx_no, w.before args s = true)
    (hgood : ∀ w ∈ Cond.classLink own ik cls :: Cond.initialized cls :: (wx_own own ic cls up ix rx r).filter vx_no, vx_ot w = true)
    (hU : vx_Zq Bundle.tN "UNASSIGNED_STACK" Bundle.steD A s s.heap) (hN : vx_Zq Bundle.tN "SUPPRESSED_SENTINEL" Bundle.listD A s s.heap) (hS : va_S A s.heap H locs) (hsize : ls.size = c.maxLocals)
    (d0 : decode cc pc = .ok (.new ik, 3)) (d3 : decode cc (pc + 3) = .ok (.dup, 1)) (d4 : decode cc (pc + 4) = .ok (.ldc is, 2)) (d6 : decode cc (pc + 6) = .ok (.invokespecial ic, 3)) (d9 : decode cc (pc + 9) = .ok (.athrow, 1))
    (hout : ∀ x ∈ c.exceptionTable.toList, covers x (pc + 9) = false)
    (hRframes : r.length + 4 < R.frames) (hRlocals : (rest.map fun v => v.category).sum + (13 * (r.length + 2) + 43) ≤ R.locals) (hRcells : cells + 1 ≤ R.cells) (hRslots : slots + 6 ≤ R.slots) (hlocks : meth.locks = false)
    (hx : ∀ t : State, s.vm.Alike t.vm → H.size ≤ t.heap.size → (∀ q : Nat, q < H.size → t.heap[q]? = H[q]?) → XC cls s t)
    (hf : ∀ z ∈ locs, free z.base) (hc : cells + 1 ≤ mc) (hs : slots + 6 ≤ ms) :
    W p l e R s m args below meth c H locs cells slots (vx_MQ below Qc XC args s mc ms free) (F0 m pc ls rest) := by
  intro T hT X
  have htr : e.platform.stackTraces = false := (show e.platform.stackTraces = l.stackTraces by rw [X.admits.platform]).trans hl
  have Y := vx_rebase X (R' := { frames := R.frames, locals := R.locals, cells := 1, slots := 6 }) (Nat.le_refl _) (Nat.le_refl _) hRcells hRslots
  obtain ⟨s', hA⟩ : ∃ z, z = (T.setVm s.vm).setFrames (.invoking m args :: below) := ⟨_, rfl⟩
  rw [← hA] at Y
  have hvm : s'.vm = s.vm := by rw [hA]; rfl
  have hhp : s'.heap = H := by rw [hA]; exact hT
  have hW0 : s.WarmedH s'.vm := by rw [hvm]; exact State.WarmedH.refl s
  have hat' : ∀ w ∈ (wx_own own ic cls up ix rx r).filter vx_no, w.before args s' = true := fun w hw => vx_ot_at hW0 hvm.symm (hgood w (List.mem_cons_of_mem _ (List.mem_cons_of_mem _ hw))) (hat w hw)
  have hk' : (Cond.classLink own ik cls).before args s' = true := vx_ot_at hW0 hvm.symm (hgood _ List.mem_cons_self) hk
  have hini' : (Cond.initialized cls).before args s' = true := vx_ot_at hW0 hvm.symm (hgood _ (List.mem_cons_of_mem _ List.mem_cons_self)) hini
  have hU' : vx_Zq Bundle.tN "UNASSIGNED_STACK" Bundle.steD A s' s'.heap := by rw [hhp]; exact vx_Zq.moved hW0.alike (hU.kept hS.2.1)
  have hN' : vx_Zq Bundle.tN "SUPPRESSED_SENTINEL" Bundle.listD A s' s'.heap := by rw [hhp]; exact vx_Zq.moved hW0.alike (hN.kept hS.2.1)
  have h : ∀ w ∈ wx_own own ic cls up ix rx r, w.before args s' = true := vx_own hat' (vx_isRefq hU'.1) (vx_isRefq hN'.1) hU'.2.word hN'.2.word
  have hown' : s'.vm.findClass own = some m.cls := by rw [hvm]; exact hown
  have hins : (Cond.instantiable cls 6).before args s' = true := h _ (List.mem_append_right _ (List.mem_append_right _ (List.mem_append_right _ (List.mem_append_right _ (by simp [wx_end])))))
  obtain ⟨vm₁, cX, kX, hfX, hkX, -, -, X₁, st1⟩ := Y.newCold hexec (own := own) (C := cls) (index := ik) (n := 6) hown' hk' hins hini'
    (g := F0 m pc ls rest) rfl (by rw [hb]; exact d0) (Nat.le_refl _) (Nat.le_refl _)
  generalize hT1 : (T.setVm vm₁).pushCell { cls := cX, slots := kX.instanceTypes.map defaultValue, vm := .none } = T1 at X₁ st1
  have hcat : (Value.ref T.heap.size).category = 1 := rfl
  have hcellA : T1.heap[T.heap.size]? = some (freshCell cX kX) := by rw [← hT1]; exact State.heap_pushCell_size _ _
  have d3' : decode c.code (pc + 3) = .ok (.dup, 1) := by rw [hb]; exact d3
  have d4' : decode c.code (pc + 4) = .ok (.ldc is, 2) := by rw [hb]; exact d4
  have hstr' : vk_R own is text sa s' := vk_R.warm hW0 hstr
  obtain ⟨U, hsteps, hrun, hend, hW, hsame, ce, hce, hO1, hO2⟩ := wx_ctor X₁ hexec htr (own := own) (cls := cls) (up := up) (r := r) (ic := ic) x0 x1 x2 x5 hown' hcls hup hnames h (fun x hx => nomatch hx) hfX hkX hcellA (by rw [hhp, hT]; exact Nat.le_refl _) (msg := .ref sa) rfl
    (g := { method := m, pc := pc + 6, locals := ls, stack := .ref sa :: .ref T.heap.size :: .ref T.heap.size :: rest, locked := none }) rfl hsize rfl rfl (rest := rest) rfl
    (by rw [hb]; exact d6) (by rw [hb]; exact d9) hout hRframes (by simp only [List.map_cons, List.sum_cons, hcat]; omega) hlocks
  obtain ⟨f1, f2⟩ := vx_frame hsame
  rw [hhp] at f1 f2
  have hWs : s.WarmedH U.vm := State.WarmedH.trans hW0 hW
  have hcl : s.vm.findClass cls = some ce.cls := by
    rw [hO1, ← hvm]
    exact hfX
  have hall : s.sameButNew ({ U with vm := s.vm } : State) locs mc ms := by
    subst hA
    obtain ⟨e1, e2⟩ := hsame
    rw [State.setFrames_setFrames] at e1
    have h2 : (T.setVm s.vm).sameButNew ({ U with vm := s.vm } : State) [] (0 + 1) (0 + 6) := ⟨e1, e2⟩
    have h3 := X.same.trans h2
    rw [List.append_nil] at h3
    exact h3.mono hc hs
  refine ⟨U, ?_, .threw T.heap.size, hrun, hend, Or.inr ⟨T.heap.size, rfl, cls, ce, locs, hx U hWs.alike f1 (fun q hq => f2 q hq (fun z hz => nomatch hz)), hce, hO2, hcl, hWs, hall, hf⟩⟩
  refine st1 _ ?_
  show Steps p.tables e below (T1.setTop { method := m, pc := pc + 3, locals := ls, stack := .ref T.heap.size :: rest, locked := none }) _
  jvm_step X₁.here [X₁.here.top, hexec, d3', Value.category]
  exact X₁.ldcString hexec (own := own) (text := text) (index := is) (a := sa) hown' hstr'.1 hstr'.2
    (g := { method := m, pc := pc + 4, locals := ls, stack := .ref T.heap.size :: .ref T.heap.size :: rest, locked := none }) rfl d4' _ hsteps
end CXA
def Qno : Array Value → State → Outcome → State → Prop := fun _ _ _ _ => False
def Xcx (D : va_G) (w0 : va_W) (sz : Nat) (E : String) : String → State → State → Prop := fun E' st t => E' = E ∧ va_P D vwCl w0 t.heap ∧ va_F (va_A w0 sz) st t
/-- a method that, from the world w0, throws an E, and the world is the same -/
def CX (l : Launch) (D : va_G) (tys : List (ClassId × FieldType)) (y : MethodName) (cd : ByteArray) (nL : Nat) (ret : Option FieldType) (lev : Nat) (av : List Value) (w0 : va_W) (E : String) : Prop :=
  ∀ sz : Nat, vx_Met l y (.code y cd nL ret :: G) { frames := lev, cells := 1, slots := 6, locals := 40 * lev }
    (va_Pc av (fun U => U.heap.size = sz ∧ va_P D vwCl w0 U.heap ∧ va_K D vwCl tys U ∧ va_D (fun _ => True) w0 ∧ XK (va_A w0 sz) U U.heap)) Qno (Xcx D w0 sz E) 1 6 (va_A w0 sz)
theorem CX.of {l : Launch} {D : va_G} {tys : List (ClassId × FieldType)} {y : MethodName} {cd : ByteArray} {nL : Nat} {ret : Option FieldType} {lev : Nat} {av : List Value} {w0 : va_W} {E : String} (hy : plainName y.cls = true) (hn : (lg_sl av).length ≤ nL)
    (body : ∀ (p : Program) (e : Env) (s : State) (m : MethodId) (below : List Frame) (meth : Method) (c : Code) (A : Nat → Prop) (ls : Array Slot), Cx p s m av.toArray c cd nL y.cls (.code y cd nL ret) D tys → meth.sig.returnType = ret → meth.locks = false → va_P D vwCl w0 s.heap → va_D A w0 → A = va_A w0 s.heap.size → (∀ q : Nat, s.heap.size ≤ q → A q) → va_S A s.heap s.heap [] → lv_has ls nL (lv_args 0 av) → c.maxLocals = nL → (∀ x ∈ c.exceptionTable.toList, False) → XK A s s.heap →
      W p l e { frames := lev, cells := 1, slots := 6, locals := 40 * lev } s m av.toArray below meth c s.heap [] 0 0 (vx_MQ below Qno (Xcx D w0 s.heap.size E) av.toArray s 1 6 A) (F0 m 0 ls [])) : CX l D tys y cd nL ret lev av w0 E := by
  intro sz
  refine vx_ofW (cc := cd) (maxL := nL) (ret := ret) hy rfl ?_
  intro p e s m args below meth c s₁ B hml hno hv
  obtain ⟨rfl, hsz, hP, hK, hD0, hX⟩ := hv
  subst hsz
  have hl := lv_entry av (n := nL) hn
  rw [lg_entry_eq]
  exact body p e s m below meth c _ _ ⟨⟨B.exec, B.bytes, hml, findClass_of_methodNamed B.named, atoms_spec (ws := .code y cd nL ret :: G) B.pre⟩, hK⟩ B.returns B.notSynchronized hP hD0.self rfl (fun q h => Or.inr h) va_S.rf hl hml hno hX
section CXB
variable {p : Program} {l : Launch} {e : Env} {R : Room} {s : State} {m : MethodId} {args : Array Value} {below : List Frame} {meth : Method} {c : Code} {H : Heap} {locs : List Loc}
variable {cc : ByteArray} {nL pc : Nat} {own : String} {x0 : Cond} {D : va_G} {tys : List (ClassId × FieldType)} {w0 : va_W} {A : Nat → Prop} {ls : Array Slot} {rest : List Value}
theorem CX.thr {cls text : String} {ik is ic ix : Nat} {rx : ByteArray} (E : Cx p s m args c cc nL RX3 x0 D tys) (hl : l.stackTraces = false) (hX : XK A s s.heap) (hA : A = va_A w0 s.heap.size) (hno : ∀ x ∈ c.exceptionTable.toList, False) (hlk : meth.locks = false) (hml : c.maxLocals = nL) (hsz : ls.size = nL) (hP : va_P D vwCl w0 H) (hS : va_S A s.heap H locs)
    (r0 : decode rx 0 = .ok (.aload_n 0, 1)) (r1 : decode rx 1 = .ok (.aload_n 1, 1)) (r2 : decode rx 2 = .ok (.invokespecial ix, 3)) (r5 : decode rx 5 = .ok (.return_, 1)) (hfit : Bundle.fit cls = true)
    (hcl : Cond.classLink RX3 ik cls ∈ G) (hini : Cond.initialized cls ∈ G) (hst : (is, text) ∈ strs) (ht : ∀ w ∈ (wx_at RX3 ic cls ix rx).filter goodWord, w ∈ lw_tbl) (hb : ∀ w ∈ (wx_at RX3 ic cls ix rx).filter (fun w => !goodWord w), w ∈ xwL) (ho : ∀ w ∈ Cond.classLink RX3 ik cls :: Cond.initialized cls :: wx_at RX3 ic cls ix rx, vx_ot w = true)
    (hR : 5 < R.frames ∧ (rest.map fun v => v.category).sum + 82 ≤ R.locals ∧ 1 ≤ R.cells ∧ 6 ≤ R.slots)
    (d0 : decode cc pc = .ok (.new ik, 3)) (d3 : decode cc (pc + 3) = .ok (.dup, 1)) (d4 : decode cc (pc + 4) = .ok (.ldc is, 2)) (d6 : decode cc (pc + 6) = .ok (.invokespecial ic, 3)) (d9 : decode cc (pc + 9) = .ok (.athrow, 1)) :
    W p l e R s m args below meth c H locs 0 0 (vx_MQ below Qno (Xcx D w0 s.heap.size cls) args s 1 6 A) (F0 m pc ls rest) := by
  obtain ⟨sa, hsa⟩ := hX.1 _ hst
  have hg : ∀ w ∈ G, w.before args s = true := fun w h => E.1.2.2.2.2 w (List.mem_cons_of_mem _ h)
  have hat : ∀ w ∈ wx_at RX3 ic cls ix rx, w.before args s = true := vx_hat (B := xwL) (fun w hw => hg w (mG (ht w hw) (List.mem_filter.mp hw).2)) hb hX.2.2.2.1.use
  refine wx_throw (A := A) (up := "java/lang/RuntimeException") (r := ["java/lang/Exception"]) E.1.1 E.1.2.1 hl r0 r1 r2 r5 E.1.2.2.2.1 hfit (by decide) (by decide) (hg _ hcl) (hg _ hini) hsa hat ho hX.2.1 hX.2.2.1 hS (hsz.trans hml.symm) d0 d3 d4 d6 d9 (fun x hx => (hno x hx).elim) hR.1 hR.2.1 hR.2.2.1 hR.2.2.2 hlk (fun t hW h1 h2 => ?_) hS.2.2 (Nat.le_refl _) (Nat.le_refl _)
  refine ⟨rfl, hP.kept (fun k x hx => h2 x.1 (hP k x hx).lt), Nat.le_trans hS.1 h1, fun q hq hn => ?_⟩
  rw [h2 q (Nat.lt_of_lt_of_le hq hS.1)]
  exact hS.2.1 q hq (by rw [hA]; exact hn)
end CXB
