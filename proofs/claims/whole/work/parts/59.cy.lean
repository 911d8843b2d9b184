/-! worlds side by side -/
theorem blk_l {D : va_G} {cl : List vw_C} {U V : va_W} {H : Heap} (h : va_P D cl (U ++ V) H) : va_P D cl U H := fun k q hk => h k q (by rw [List.getElem?_append_left (List.getElem?_eq_some_iff.mp hk).1]; exact hk)
theorem blk_r {D : va_G} {cl : List vw_C} {U V : va_W} {H : Heap} (h : va_P D cl (U ++ V) H) : va_P D cl V H := fun k q hk => h (U.length + k) q (by rw [List.getElem?_append_right (Nat.le_add_right _ _), Nat.add_sub_cancel_left]; exact hk)
theorem blD_l {A : Nat → Prop} {U V : va_W} (h : va_D A (U ++ V)) : va_D A U := by
  have e : ∀ (k : Nat) (q : Nat × va_E), U[k]? = some q → (U ++ V)[k]? = some q := fun k q hk => by rw [List.getElem?_append_left (List.getElem?_eq_some_iff.mp hk).1]; exact hk
  exact ⟨fun i j p q hi hj he => h.1 i j p q (e i p hi) (e j q hj) he, fun k q hk => h.2 k q (e k q hk)⟩
theorem blD_r {A : Nat → Prop} {U V : va_W} (h : va_D A (U ++ V)) : va_D A V := by
  have e : ∀ (k : Nat) (q : Nat × va_E), V[k]? = some q → (U ++ V)[U.length + k]? = some q := fun k q hk => by rw [List.getElem?_append_right (Nat.le_add_right _ _), Nat.add_sub_cancel_left]; exact hk
  exact ⟨fun i j p q hi hj he => by have := h.1 _ _ p q (e i p hi) (e j q hj) he; omega, fun k q hk => h.2 _ q (e k q hk)⟩
/-- no cell of one is a cell of the other -/
def AP (U V : va_W) : Prop := ∀ (i j : Nat) (p q : Nat × va_E), U[i]? = some p → V[j]? = some q → p.1 ≠ q.1
theorem AP.of {A : Nat → Prop} {U V : va_W} (h : va_D A (U ++ V)) : AP U V := by
  intro i j p q hi hj he
  have hlt := (List.getElem?_eq_some_iff.mp hi).1
  have := h.1 i (U.length + j) p q (by rw [List.getElem?_append_left hlt]; exact hi) (by rw [List.getElem?_append_right (Nat.le_add_right _ _), Nat.add_sub_cancel_left]; exact hj) he
  omega
theorem AP.sym {U V : va_W} (h : AP U V) : AP V U := fun i j p q hi hj he => h j i q p hj hi he.symm
theorem AP.kept {D : va_G} {cl : List vw_C} {U V : va_W} {H H1 : Heap} (h : AP U V) (hP : va_P D cl V H) (hk : ∀ q : Nat, q < H.size → ¬ va_A U H.size q → H1[q]? = H[q]?) : va_P D cl V H1 := by
  refine hP.kept (fun k x hx => hk x.1 (hP k x hx).lt (fun z => ?_))
  rcases z with ⟨i, e, hi⟩ | z
  · exact h i k (x.1, e) x hi hx rfl
  · exact absurd (hP k x hx).lt (Nat.not_lt.mpr z)
theorem AP.addr {U V U' V' : va_W} (h : AP U V) (hU : U.map Prod.fst = U'.map Prod.fst) (hV : V.map Prod.fst = V'.map Prod.fst) : AP U' V' := by
  have key : ∀ {X X' : va_W}, X.map Prod.fst = X'.map Prod.fst → ∀ (k : Nat) (q : Nat × va_E), X'[k]? = some q → ∃ e, X[k]? = some (q.1, e) := by
    intro X X' hX k q hq
    have h1 : (X'.map Prod.fst)[k]? = some q.1 := by rw [List.getElem?_map, hq]; rfl
    rw [← hX, List.getElem?_map] at h1
    cases hw : X[k]? with
    | none => rw [hw] at h1; cases h1
    | some z =>
      rw [hw] at h1
      obtain ⟨z1, z2⟩ := z
      cases Option.some.inj h1
      exact ⟨z2, rfl⟩
  intro i j p q hi hj he
  obtain ⟨a, ha⟩ := key hU i p hi
  obtain ⟨b, hb⟩ := key hV j q hj
  exact h i j _ _ ha hb he
/-- the law's row of one long -/
def oC (cJ : ClassId) (o : Nat) (v : Int64) : Nat × va_E := (o, .inl (cJ, 1, .inr (.inl (fun _ => v))))
def wO (ad : Nat → Nat) (cI cJ cZ : ClassId) (o : Nat) (c : CS) (v : Int64) : va_W := wC ad cI cJ cZ c ++ [oC cJ o v]
theorem wO_D {A : Nat → Prop} {ad : Nat → Nat} {cI cJ cZ : ClassId} {o : Nat} {c c' : CS} {v v' : Int64} (h : va_D A (wO ad cI cJ cZ o c v)) : va_D A (wO ad cI cJ cZ o c' v') := va_D_addr (ws := wO ad cI cJ cZ o c v) rfl h
def Qcy (D : va_G) (w0 : va_W) (sz : Nat) (r : Int32) (w1 : va_W) : Array Value → State → Outcome → State → Prop := fun _ st o t => o = .returned (some (.int r)) ∧ va_P D vwCl w1 t.heap ∧ va_F (va_A w0 sz) st t
def Xno : String → State → State → Prop := fun _ _ _ => False
/-- the law's own methods, that catch -/
def CY (l : Launch) (D : va_G) (tys : List (ClassId × FieldType)) (y : MethodName) (cd : ByteArray) (nL : Nat) (hh : List (Nat × Nat × Nat × Nat)) (lev : Nat) (av : List Value) (w0 : va_W) (r : Int32) (w1 : va_W) : Prop :=
  ∀ sz : Nat, vx_Met l y (.codeWith y cd nL (some .int) hh :: G) { frames := lev, cells := 1, slots := 6, locals := 40 * lev }
    (va_Pc av (fun U => U.heap.size = sz ∧ va_P D vwCl w0 U.heap ∧ va_K D vwCl tys U ∧ va_D (fun _ => True) w0 ∧ XK (va_A w0 sz) U U.heap)) (Qcy D w0 sz r w1) Xno 1 6 (va_A w0 sz)
theorem CY.of {l : Launch} {D : va_G} {tys : List (ClassId × FieldType)} {y : MethodName} {cd : ByteArray} {nL : Nat} {hh : List (Nat × Nat × Nat × Nat)} {lev : Nat} {av : List Value} {w0 : va_W} {r : Int32} {w1 : va_W} (hy : plainName y.cls = true) (hn : (lg_sl av).length ≤ nL)
    (body : ∀ (p : Program) (e : Env) (s : State) (m : MethodId) (below : List Frame) (meth : Method) (c : Code) (A : Nat → Prop) (ls : Array Slot), Cx p s m av.toArray c cd nL y.cls (.codeWith y cd nL (some .int) hh) D tys → meth.sig.returnType = some .int → meth.locks = false → va_P D vwCl w0 s.heap → va_D A w0 → A = va_A w0 s.heap.size → (∀ q : Nat, s.heap.size ≤ q → A q) → va_S A s.heap s.heap [] → lv_has ls nL (lv_args 0 av) → c.exceptionTable.toList = tableOf hh → XK A s s.heap →
      W p l e { frames := lev, cells := 1, slots := 6, locals := 40 * lev } s m av.toArray below meth c s.heap [] 0 0 (vx_MQ below (Qcy D w0 s.heap.size r w1) Xno av.toArray s 1 6 A) (F0 m 0 ls [])) : CY l D tys y cd nL hh lev av w0 r w1 := by
  intro sz
  refine vx_ofWH (cc := cd) (maxL := nL) (ret := some .int) (hh := hh) hy rfl ?_
  intro p e s m args below meth c s₁ B hml hv
  obtain ⟨rfl, hsz, hP, hK, hD0, hX⟩ := hv
  subst hsz
  have hl := lv_entry av (n := nL) hn
  have hts := atoms_spec (ws := .codeWith y cd nL (some .int) hh :: G) B.pre
  have hT : c.exceptionTable.toList = tableOf hh := vx_table (x := y) B (hts _ List.mem_cons_self)
  rw [lg_entry_eq]
  exact body p e s m below meth c _ _ ⟨⟨B.exec, B.bytes, hml, findClass_of_methodNamed B.named, hts⟩, hK⟩ B.returns B.notSynchronized hP hD0.self rfl (fun q h => Or.inr h) va_S.rf hl hT hX
theorem CX.pre {D : va_G} {tys : List (ClassId × FieldType)} {w0 : va_W} {B : Nat → Prop} {av : List Value} (sz : Nat) : FrameBlind (va_Pc av (fun U => U.heap.size = sz ∧ va_P D vwCl w0 U.heap ∧ va_K D vwCl tys U ∧ va_D (fun _ => True) w0 ∧ XK B U U.heap)) := fun a U g mk q => by
  obtain ⟨q0, q1, qP, qK, qD, qX⟩ := q
  exact ⟨q0, q1, qP, va_K.moved (u := U) (U := U.calling g mk a) (Vm.Alike.refl U.vm) qK, qD, XK.warm (s := U) (U := U.calling g mk a) (State.WarmedH.refl U) qX⟩
section CYR
variable {p : Program} {l : Launch} {e : Env} {R : Room} {s : State} {m : MethodId} {args : Array Value} {below : List Frame} {meth : Method} {c : Code} {H : Heap} {locs : List Loc} {cells slots : Nat} {Q : State → Prop}
variable {cc cd : ByteArray} {nL nLy n idx pc : Nat} {own C : String} {x0 : Cond} {D : va_G} {tys : List (ClassId × FieldType)} {w0 w1 : va_W} {A : Nat → Prop} {ls : Array Slot} {rest : List Value} {y : MethodName} {ret : Option FieldType} {lev : Nat} {H0 : Heap} {st0 : List Value}
variable {ad : Nat → Nat} {cI cJ cZ : ClassId} {o : Nat} {σ σ1 : CS} {u v : Int64}
theorem CY.rti {r : Int32} (E : Cx p s m args c cc nL own x0 D tys) (hr : meth.sig.returnType = some .int) (hlocks : meth.locks = false) (hA : A = va_A w0 s.heap.size) (hP : va_P D vwCl w1 H) (hS : va_S A s.heap H locs) (hc : cells ≤ 1) (hs : slots ≤ 6) (hd : decode cc pc = .ok (.ireturn, 1)) : W p l e R s m args below meth c H locs cells slots (vx_MQ below (Qcy D w0 s.heap.size r w1) Xno args s 1 6 A) (F0 m pc ls [.int r]) := by
  refine W.widen (k := 1) (n := 6) hc hs (vx_ret ?_)
  subst hA
  exact W.iret E.1.1 E.1.2.1 hr (fun t ht hW => ⟨rfl, by rw [ht]; exact hP, hS.F ht⟩) hS.2.2 hd hlocks
theorem CY.last (E : Cx p s m args c cc nL own x0 D (t3 cI cJ cZ)) (hP : va_P D vwCl (wO ad cI cJ cZ o σ u) H) (hD : va_D A (wO ad cI cJ cZ o σ u)) (hS : va_S A H0 H locs) (hd : decode cc pc = .ok (.lastore, 1))
    (kk : ∀ (H1 : Heap) (locs1 : List Loc), va_P D vwCl (wO ad cI cJ cZ o σ v) H1 → va_S A H0 H1 locs1 → W p l e R s m args below meth c H1 locs1 cells slots Q (F0 m (pc + 1) ls rest)) : W p l e R s m args below meth c H locs cells slots Q (F0 m pc ls (.long v :: .int (nI 0) :: .ref o :: rest)) := by
  refine va_last E.1.1 E.1.2.1 E.2 hP hD hS 20 1 rfl rfl (vp_in_nI (by decide) (by decide)) hd (fun H1 l1 h1 _ h3 => kk H1 l1 ?_ h3)
  have h1 : va_P D vwCl (wC ad cI cJ cZ σ ++ [(o, .inl (cJ, 1, .inr (.inl (vp_updL (fun _ => u) (nI 0).toNatClampNeg v))))]) H1 := h1
  refine (blk_l h1).app ?_
  have h2 := blk_r h1 0 _ rfl
  intro k q hq
  have hz : k < 1 := (List.getElem?_eq_some_iff.mp hq).1
  rw [show k = 0 by omega] at hq
  cases hq
  show H1[o]? = some (vp_cell cJ (1, .inr (.inl (fun _ => v))))
  have h2 : H1[o]? = some (vp_cell cJ (1, .inr (.inl (vp_updL (fun _ => u) (nI 0).toNatClampNeg v)))) := h2
  rw [h2, vp_cell_l, vp_cell_l]
  refine congrArg some (arrV_ext cJ 1 (fun i hi => ?_))
  rw [nI_clamp (by decide), show i = 0 by omega]
  rfl
/-- a method of the class that answers, the law's row beside it -/
theorem CC.callV {b : Nat} {As : List Value} {T : u_T} {N ci : Nat} {fs : List Value} {r : Option Value} (E : Cx p s m args c cc nL own x0 D tys) (hM : CM l D tys y cd nLy ret lev (.ref b :: As) (wC ad cI cJ cZ σ) r (wC ad cI cJ cZ σ1))
    (hl : Cond.methodLink own idx y ∈ G) (hi : Cond.instanceMethod y ∈ G) (hse : Cond.selects C y y ∈ G) (hin : Cond.initialized C ∈ G) (hco : Cond.code y cd nLy ret ∈ G)
    (hd0 : y.cls = C ∧ y.cls ≠ "java/lang/invoke/MethodHandle" ∧ y.cls ≠ "java/lang/invoke/VarHandle" ∧ (parseMethodDescriptor y.desc).map (fun d => d.parameters.length) = some n)
    (hR : lev + 1 ≤ R.frames ∧ 8 + (nLy + 11) + 40 * lev ≤ R.locals) (hcs : cells ≤ R.cells ∧ slots ≤ R.slots) (q0 : Nat) (he : (wC ad cI cJ cZ σ)[q0]? = some (b, .inr (ci, fs))) (hc : vwCl[ci]? = some (C, T, N))
    (hP : va_P D vwCl (wO ad cI cJ cZ o σ u) H) (hD : va_D A (wO ad cI cJ cZ o σ u)) (hS : va_S A H0 H locs) (hA : ∀ q : Nat, H0.size ≤ q → A q) (hn : As.length = n) (hsz : ls.size = nL) (hw : (rest.map fun v => v.category).sum ≤ 8) (hdg : decode cc pc = .ok (.invokevirtual idx, 3)) (hst : st0 = As.reverse ++ .ref b :: rest)
    (kk : ∀ (H1 : Heap) (locs1 : List Loc), va_P D vwCl (wO ad cI cJ cZ o σ1 u) H1 → va_S A H0 H1 locs1 → W p l e R s m args below meth c H1 locs1 cells slots Q (F0 m (pc + 3) ls (r.toList ++ rest))) : W p l e R s m args below meth c H locs cells slots Q (F0 m pc ls st0) :=
  CF.callV E hM hl hi hse hin hco hd0 hR hcs q0 he hc (blk_l hP) (blD_l hD) hS hA hn hsz hw hdg hst (fun H1 l1 h1 h2 hk => kk H1 l1 (h1.app ((AP.of hD).kept (blk_r hP) hk)) h2)
/-- one that throws -/
theorem CX.call {b : Nat} {As : List Value} {T : u_T} {N ci : Nat} {fs : List Value} {Ex : String} (E : Cx p s m args c cc nL own x0 D tys) (hM : CX l D tys y cd nLy ret lev (.ref b :: As) (wC ad cI cJ cZ σ) Ex)
    (hl : Cond.methodLink own idx y ∈ G) (hi : Cond.instanceMethod y ∈ G) (hse : Cond.selects C y y ∈ G) (hin : Cond.initialized C ∈ G) (hco : Cond.code y cd nLy ret ∈ G)
    (hd0 : y.cls = C ∧ y.cls ≠ "java/lang/invoke/MethodHandle" ∧ y.cls ≠ "java/lang/invoke/VarHandle" ∧ (parseMethodDescriptor y.desc).map (fun d => d.parameters.length) = some n)
    (hR : lev + 1 ≤ R.frames ∧ 8 + (nLy + 11) + 40 * lev ≤ R.locals) (hcs : cells + 1 ≤ R.cells ∧ slots + 6 ≤ R.slots) (q0 : Nat) (he : (wC ad cI cJ cZ σ)[q0]? = some (b, .inr (ci, fs))) (hc : vwCl[ci]? = some (C, T, N))
    (hP : va_P D vwCl (wO ad cI cJ cZ o σ u) H) (hD : va_D A (wO ad cI cJ cZ o σ u)) (hS : va_S A s.heap H locs) (hA : ∀ q : Nat, s.heap.size ≤ q → A q) (hX : XK A s s.heap) (hn : As.length = n) (hsz : ls.size = nL) (hw : (rest.map fun v => v.category).sum ≤ 8) (hdg : decode cc pc = .ok (.invokevirtual idx, 3)) (hst : st0 = As.reverse ++ .ref b :: rest)
    (kx : ∀ (ce : Cell) (q9 : Addr) (H1 : Heap) (locs1 : List Loc), va_P D vwCl (wO ad cI cJ cZ o σ u) H1 → va_S A s.heap H1 locs1 → H1[q9]? = some ce → ce.vm = .none → s.vm.findClass Ex = some ce.cls → vx_W p l e R s m args below meth c H1 locs1 (cells + 1) (slots + 6) Q (F0 m pc ls rest) q9) : W p l e R s m args below meth c H locs cells slots Q (F0 m pc ls st0) := by
  have hF : ∀ q, va_A (wC ad cI cJ cZ σ) H.size q → A q := CM.fr (blD_l hD) hS hA
  have hX1 : XK (va_A (wC ad cI cJ cZ σ) H.size) s H := (hX.kept hS.2.1).narrow hF
  have hr : vx_Run p l e R s m args below meth c H locs cells slots 1 6 (F0 m pc ls st0) rest (Qno (Value.ref b :: As).toArray) (Xcx D (wC ad cI cJ cZ σ) H.size Ex) (va_A (wC ad cI cJ cZ σ) H.size) := by
    refine vx_runV (As := As) (rest := rest) E.1 (hM H.size) (cwV n E.1.2.2.2.2 (gdIn ?_) rfl rfl rfl hd0 hR) ⟨CX.pre _, va_recv E.2 (blk_l hP) hc he, fun U hU hW => ⟨rfl, by rw [hU], by rw [hU]; exact blk_l hP, va_K.moved hW.alike E.2, (blD_l hD).weaken (fun _ _ _ _ => trivial), by rw [hU]; exact hX1.warm hW⟩⟩ rfl hn hsz hst (lv_room hw) hdg hcs
    intro w hw
    simp only [wsV, List.mem_append, List.mem_cons, List.not_mem_nil, or_false] at hw
    rcases hw with (rfl | rfl | rfl | rfl) | rfl | hw
    · exact hl
    · exact hi
    · exact hse
    · exact hin
    · exact hco
    · exact hw
  intro T hT X
  rcases hr T hT X with ⟨v, st₀, t, T', L, h0, X', hL, e1, e2, hq, st⟩ | ⟨q, st₀, t, T', L, E9, ce, h0, X', hL, e1, e2, ⟨hE, hp, hz, hk⟩, hce, hcv, hcl, st⟩
  · exact hq.elim
  · subst hE
    rw [h0] at hz hk
    have hk2 : ∀ q : Nat, q < H.size → ¬ va_A (wC ad cI cJ cZ σ) H.size q → T'.heap[q]? = H[q]? := fun q h1 h2 => by rw [e1]; exact hk q h1 h2
    have hp2 : va_P D vwCl (wC ad cI cJ cZ σ) T'.heap := by rw [e1]; exact hp
    obtain ⟨t2, a1, b1⟩ := kx ce q T'.heap (locs ++ L) (hp2.app ((AP.of hD).kept (blk_r hP) hk2))
      ⟨Nat.le_trans hS.1 (by rw [e1]; exact hz), fun q h1 h2 => by rw [e1, hk q (Nat.lt_of_lt_of_le h1 hS.1) (fun z => h2 (hF q z))]; exact hS.2.1 q h1 h2, fun q hq => by
        rcases List.mem_append.mp hq with h | h
        · exact hS.2.2 q h
        · exact hF _ (hL q h)⟩ (by rw [e1]; exact hce) hcv hcl T' rfl X'
    exact ⟨t2, st.trans a1, b1⟩
end CYR
