/-! the words that every method takes: the tables' good ones -/
def G : List Cond := lw_tbl.filter goodWord
theorem mG {w : Cond} (h : w ∈ lw_tbl) (g : goodWord w = true) : w ∈ G := List.mem_filter.mpr ⟨h, g⟩
theorem G_good {w : Cond} (h : w ∈ G) : goodWord w = true := (List.mem_filter.mp h).2
theorem gdIn {x0 : Cond} {ws : List Cond} (h : ∀ w ∈ ws, w ∈ G) : GoodIn (x0 :: G) ws := fun w hw => ⟨List.mem_cons_of_mem _ (h w hw), good_of_word (G_good (h w hw))⟩
/-- what a walk stands on: the machine, the code, its class, the words, the classes' tables -/
abbrev Cx (p : Program) (s : State) (m : MethodId) (args : Array Value) (c : Code) (cc : ByteArray) (nL : Nat) (own : String) (x0 : Cond) (D : va_G) (tys : List (ClassId × FieldType)) : Prop :=
  CallFix p m c cc nL s args (x0 :: G) own ∧ va_K D vwCl tys s
/-- how a method ends: its answer, its world, nothing else changed -/
def Qcm (D : va_G) (w0 : va_W) (sz : Nat) (r : Option Value) (w1 : va_W) : Array Value → State → Outcome → State → Prop := fun _ st o t => o = .returned r ∧ va_P D vwCl w1 t.heap ∧ va_F (va_A w0 sz) st t
/-- a method that makes no cell: from the world w0 with the arguments av it answers r, and the world is w1 -/
def CM (l : Launch) (D : va_G) (tys : List (ClassId × FieldType)) (y : MethodName) (cd : ByteArray) (nL : Nat) (ret : Option FieldType) (lev : Nat) (av : List Value) (w0 : va_W) (r : Option Value) (w1 : va_W) : Prop :=
  ∀ sz : Nat, Met l y (.code y cd nL ret :: G) { frames := lev, cells := 0, slots := 0, locals := 40 * lev }
    (va_Pc av (fun U => U.heap.size = sz ∧ va_P D vwCl w0 U.heap ∧ va_K D vwCl tys U ∧ va_D (fun _ => True) w0)) (Qcm D w0 sz r w1) 0 0 (va_A w0 sz)
theorem CM.of {l : Launch} {D : va_G} {tys : List (ClassId × FieldType)} {y : MethodName} {cd : ByteArray} {nL : Nat} {ret : Option FieldType} {lev : Nat} {av : List Value} {w0 : va_W} {r : Option Value} {w1 : va_W} (hy : plainName y.cls = true) (hn : (lg_sl av).length ≤ nL)
    (body : ∀ (p : Program) (e : Env) (s : State) (m : MethodId) (below : List Frame) (meth : Method) (c : Code) (A : Nat → Prop) (ls : Array Slot), Cx p s m av.toArray c cd nL y.cls (.code y cd nL ret) D tys → meth.sig.returnType = ret → meth.locks = false → va_P D vwCl w0 s.heap → va_D A w0 → A = va_A w0 s.heap.size → (∀ q : Nat, s.heap.size ≤ q → A q) → va_S A s.heap s.heap [] → lv_has ls nL (lv_args 0 av) →
      W p l e { frames := lev, cells := 0, slots := 0, locals := 40 * lev } s m av.toArray below meth c s.heap [] 0 0 (MQ below (Qcm D w0 s.heap.size r w1) av.toArray s 0 0 A) (F0 m 0 ls [])) : CM l D tys y cd nL ret lev av w0 r w1 := by
  intro sz
  refine Met.ofW (cc := cd) (maxL := nL) (ret := ret) hy rfl ?_
  intro p e s m args below meth c s₁ B hml hv
  obtain ⟨rfl, hsz, hP, hK, hD0⟩ := hv
  subst hsz
  have hl := lv_entry av (n := nL) hn
  rw [lg_entry_eq]
  exact body p e s m below meth c _ _ ⟨⟨B.exec, B.bytes, hml, findClass_of_methodNamed B.named, atoms_spec (ws := .code y cd nL ret :: G) B.pre⟩, hK⟩ B.returns B.notSynchronized hP hD0.self rfl (fun q h => Or.inr h) va_S.rf hl
section CMR
variable {p : Program} {l : Launch} {e : Env} {R : Room} {s : State} {m : MethodId} {args : Array Value} {below : List Frame} {meth : Method} {c : Code} {H : Heap} {locs : List Loc} {cells slots : Nat} {Q : State → Prop}
variable {cc cd : ByteArray} {nL nLy n idx pc : Nat} {own C : String} {x0 : Cond} {D : va_G} {tys : List (ClassId × FieldType)} {w0 w1 : va_W} {r : Option Value} {A : Nat → Prop} {ls : Array Slot} {rest : List Value} {y : MethodName} {ret : Option FieldType} {lev : Nat} {H0 : Heap} {st0 : List Value}
theorem CM.reti {v : Int32} (E : Cx p s m args c cc nL own x0 D tys) (hr : meth.sig.returnType = some .int) (hlocks : meth.locks = false) (hA : A = va_A w0 s.heap.size) (hP : va_P D vwCl w1 H) (hS : va_S A s.heap H locs) (er : r = some (.int v)) (hd : decode cc pc = .ok (.ireturn, 1)) : W p l e R s m args below meth c H locs cells slots (MQ below (Qcm D w0 s.heap.size r w1) args s cells slots A) (F0 m pc ls [.int v]) := by
  subst hA; subst er
  exact W.iret E.1.1 E.1.2.1 hr (fun t ht hW => ⟨rfl, by rw [ht]; exact hP, hS.F ht⟩) hS.2.2 hd hlocks
theorem CM.retz {v : Int32} (E : Cx p s m args c cc nL own x0 D tys) (hr : meth.sig.returnType = some .boolean) (hlocks : meth.locks = false) (hA : A = va_A w0 s.heap.size) (hP : va_P D vwCl w1 H) (hS : va_S A s.heap H locs) (er : r = some (.int v)) (hn : narrow .boolean (.int v) = .int v) (hd : decode cc pc = .ok (.ireturn, 1)) : W p l e R s m args below meth c H locs cells slots (MQ below (Qcm D w0 s.heap.size r w1) args s cells slots A) (F0 m pc ls [.int v]) := by
  subst hA; subst er
  exact W.zret E.1.1 E.1.2.1 hr hn (fun t ht hW => ⟨rfl, by rw [ht]; exact hP, hS.F ht⟩) hS.2.2 hd hlocks
theorem CM.retl {v : Int64} (E : Cx p s m args c cc nL own x0 D tys) (hr : meth.sig.returnType = some .long) (hlocks : meth.locks = false) (hA : A = va_A w0 s.heap.size) (hP : va_P D vwCl w1 H) (hS : va_S A s.heap H locs) (er : r = some (.long v)) (hd : decode cc pc = .ok (.lreturn, 1)) : W p l e R s m args below meth c H locs cells slots (MQ below (Qcm D w0 s.heap.size r w1) args s cells slots A) (F0 m pc ls [.long v]) := by
  subst hA; subst er
  exact W.lret E.1.1 E.1.2.1 hr (fun t ht hW => ⟨rfl, by rw [ht]; exact hP, hS.F ht⟩) hS.2.2 hd hlocks
theorem CM.retv (E : Cx p s m args c cc nL own x0 D tys) (hr : meth.sig.returnType = none) (hlocks : meth.locks = false) (hA : A = va_A w0 s.heap.size) (hP : va_P D vwCl w1 H) (hS : va_S A s.heap H locs) (er : r = none) (hd : decode cc pc = .ok (.return_, 1)) : W p l e R s m args below meth c H locs cells slots (MQ below (Qcm D w0 s.heap.size r w1) args s cells slots A) (F0 m pc ls []) := by
  subst hA; subst er
  exact W.vret E.1.1 E.1.2.1 hr (fun t ht hW => ⟨rfl, by rw [ht]; exact hP, hS.F ht⟩) hS.2.2 hd hlocks
theorem CM.go {a : Array Value} (hr : va_Run p l e R s m args below meth c H locs cells slots 0 0 (F0 m pc ls st0) rest (Qcm D w0 H.size r w1 a) (va_A w0 H.size)) (hS : va_S A H0 H locs) (hF : ∀ q, va_A w0 H.size q → A q)
    (kk : ∀ (H1 : Heap) (locs1 : List Loc), va_P D vwCl w1 H1 → va_S A H0 H1 locs1 → W p l e R s m args below meth c H1 locs1 cells slots Q (F0 m (pc + 3) ls (r.toList ++ rest))) : W p l e R s m args below meth c H locs cells slots Q (F0 m pc ls st0) := by
  intro T hT X
  obtain ⟨v, st₀, t, T', L, h0, X', hL, e1, e2, ⟨hv, hp, hz, hk⟩, st⟩ := hr T hT X
  cases hv
  rw [h0] at hz hk
  obtain ⟨t2, a1, b1⟩ := kk T'.heap (locs ++ L) (by rw [e1]; exact hp)
    ⟨Nat.le_trans hS.1 (by rw [e1]; exact hz), fun q h1 h2 => by rw [e1, hk q (Nat.lt_of_lt_of_le h1 hS.1) (fun z => h2 (hF q z))]; exact hS.2.1 q h1 h2, fun q hq => by
      rcases List.mem_append.mp hq with h | h
      · exact hS.2.2 q h
      · exact hF _ (hL q h)⟩ T' rfl X'
  exact ⟨t2, st t2 a1, b1⟩
theorem CM.pre {av : List Value} (sz : Nat) : FrameBlind (va_Pc av (fun U => U.heap.size = sz ∧ va_P D vwCl w0 U.heap ∧ va_K D vwCl tys U ∧ va_D (fun _ => True) w0)) := fun a U g mk q => by
  obtain ⟨q0, q1, qP, qK, qD⟩ := q
  exact ⟨q0, q1, qP, va_K.moved (u := U) (U := U.calling g mk a) (Vm.Alike.refl U.vm) qK, qD⟩
theorem CM.fr (hD : va_D A w0) (hS : va_S A H0 H locs) (hA : ∀ q : Nat, H0.size ≤ q → A q) : ∀ q, va_A w0 H.size q → A q := fun q h => by
  rcases h with ⟨k, e, h⟩ | h
  · exact hD.2 k (q, e) h
  · exact hA q (Nat.le_trans hS.1 h)
theorem CM.callV {b : Nat} {As : List Value} {T : u_T} {N ci : Nat} {fs : List Value} (E : Cx p s m args c cc nL own x0 D tys) (hM : CM l D tys y cd nLy ret lev (.ref b :: As) w0 r w1)
    (hl : Cond.methodLink own idx y ∈ G) (hi : Cond.instanceMethod y ∈ G) (hse : Cond.selects C y y ∈ G) (hin : Cond.initialized C ∈ G) (hco : Cond.code y cd nLy ret ∈ G)
    (hd0 : y.cls = C ∧ y.cls ≠ "java/lang/invoke/MethodHandle" ∧ y.cls ≠ "java/lang/invoke/VarHandle" ∧ (parseMethodDescriptor y.desc).map (fun d => d.parameters.length) = some n)
    (hR : lev + 1 ≤ R.frames ∧ 8 + (nLy + 11) + 40 * lev ≤ R.locals) (hcs : cells ≤ R.cells ∧ slots ≤ R.slots) (q0 : Nat) (he : w0[q0]? = some (b, .inr (ci, fs))) (hc : vwCl[ci]? = some (C, T, N))
    (hP : va_P D vwCl w0 H) (hD : va_D A w0) (hS : va_S A H0 H locs) (hA : ∀ q : Nat, H0.size ≤ q → A q) (hn : As.length = n) (hsz : ls.size = nL) (hw : (rest.map fun v => v.category).sum ≤ 8) (hdg : decode cc pc = .ok (.invokevirtual idx, 3)) (hst : st0 = As.reverse ++ .ref b :: rest)
    (kk : ∀ (H1 : Heap) (locs1 : List Loc), va_P D vwCl w1 H1 → va_S A H0 H1 locs1 → W p l e R s m args below meth c H1 locs1 cells slots Q (F0 m (pc + 3) ls (r.toList ++ rest))) : W p l e R s m args below meth c H locs cells slots Q (F0 m pc ls st0) := by
  refine CM.go (va_runV (As := As) (rest := rest) E.1 (hM H.size) (cwV n E.1.2.2.2.2 (gdIn ?_) rfl rfl rfl hd0 hR) ⟨CM.pre _, va_recv E.2 hP hc he, fun U hU hW => ⟨rfl, by rw [hU], by rw [hU]; exact hP, va_K.moved hW.alike E.2, hD.weaken (fun _ _ _ _ => trivial)⟩⟩ rfl hn hsz hst (lv_room hw) hdg hcs) hS (CM.fr hD hS hA) kk
  intro w hw
  simp only [wsV, List.mem_append, List.mem_cons, List.not_mem_nil, or_false] at hw
  rcases hw with (rfl | rfl | rfl | rfl) | rfl | hw
  · exact hl
  · exact hi
  · exact hse
  · exact hin
  · exact hco
  · exact hw
theorem CM.callS {As : List Value} (E : Cx p s m args c cc nL own x0 D tys) (hM : CM l D tys y cd nLy ret lev As w0 r w1)
    (hl : Cond.methodLink own idx y ∈ G) (hs : Cond.static y ∈ G) (hin : Cond.initialized y.cls ∈ G) (hco : Cond.code y cd nLy ret ∈ G)
    (hd0 : y.cls ≠ "java/lang/invoke/MethodHandle" ∧ y.cls ≠ "java/lang/invoke/VarHandle" ∧ (parseMethodDescriptor y.desc).map (fun d => d.parameters.length) = some n)
    (hR : lev + 1 ≤ R.frames ∧ 8 + (nLy + 11) + 40 * lev ≤ R.locals) (hcs : cells ≤ R.cells ∧ slots ≤ R.slots)
    (hP : va_P D vwCl w0 H) (hD : va_D A w0) (hS : va_S A H0 H locs) (hA : ∀ q : Nat, H0.size ≤ q → A q) (hn : As.length = n) (hsz : ls.size = nL) (hw : (rest.map fun v => v.category).sum ≤ 8) (hdg : decode cc pc = .ok (.invokestatic idx, 3)) (hst : st0 = As.reverse ++ rest)
    (kk : ∀ (H1 : Heap) (locs1 : List Loc), va_P D vwCl w1 H1 → va_S A H0 H1 locs1 → W p l e R s m args below meth c H1 locs1 cells slots Q (F0 m (pc + 3) ls (r.toList ++ rest))) : W p l e R s m args below meth c H locs cells slots Q (F0 m pc ls st0) := by
  refine CM.go (va_runS (As := As) (rest := rest) E.1 (hM H.size) (va_cwS n E.1.2.2.2.2 (gdIn ?_) rfl rfl rfl hd0 hR) ⟨CM.pre _, fun U hU hW => ⟨rfl, by rw [hU], by rw [hU]; exact hP, va_K.moved hW.alike E.2, hD.weaken (fun _ _ _ _ => trivial)⟩⟩ rfl hn hsz hst (lv_room hw) hdg hcs) hS (CM.fr hD hS hA) kk
  intro w hw
  simp only [va_wsS, List.mem_append, List.mem_cons, List.not_mem_nil, or_false] at hw
  rcases hw with (rfl | rfl | rfl) | rfl | hw
  · exact hl
  · exact hs
  · exact hin
  · exact hco
  · exact hw
theorem CM.get {a ci N : Nat} {ref : String} {T : u_T} {fs : List Value} {v : Value} (E : Cx p s m args c cc nL own x0 D tys) (hP : va_P D vwCl w0 H) (q0 : Nat) (he : w0[q0]? = some (a, .inr (ci, fs))) (hc : vwCl[ci]? = some (C, T, N)) (hin : ∀ w ∈ u_ws C T N, w ∈ G) (k : Nat) (hk : k < N) (hl : Cond.fieldLink own idx (T k).1 (T k).2.1 (T k).2.2.1 ∈ G) (hv : fs[k]? = some v) (hd : decode cc pc = .ok (.getfield idx, 3))
    (kk : W p l e R s m args below meth c H locs cells slots Q (F0 m (pc + 3) ls (v :: rest))) : W p l e R s m args below meth c H locs cells slots Q (F0 m pc ls (.ref a :: rest)) :=
  va_get (T := T) (N := N) E.1.1 E.1.2.1 E.1.2.2.2.2 (fun w h => List.mem_cons_of_mem _ (hin w h)) E.1.2.2.2.1 E.2 hP q0 he hc k hk (E.1.2.2.2.2 _ (List.mem_cons_of_mem _ hl)) (fun _ h9 => h9) hv hd kk
theorem CM.put {a ci N : Nat} {T : u_T} {fs : List Value} {v : Value} {ty : FieldType} (E : Cx p s m args c cc nL own x0 D tys) (hP : va_P D vwCl w0 H) (hD : va_D A w0) (hS : va_S A H0 H locs) (q0 : Nat) (he : w0[q0]? = some (a, .inr (ci, fs))) (hc : vwCl[ci]? = some (C, T, N)) (hin : ∀ w ∈ u_ws C T N, w ∈ G) (ty0 : Nat → FieldType) (hty : ∀ k, k < N → parseFieldDescriptor (T k).2.2.1 = some (ty0 k)) (hnm : ∀ a, a < N → ∀ b, b < N → a ≠ b → (T a).2.1 ≠ (T b).2.1) (k : Nat) (hk : k < N) (hl : Cond.fieldLink own idx (T k).1 (T k).2.1 (T k).2.2.1 ∈ G) (hfin : (T k).2.2.2 = false) (hdt : parseFieldDescriptor (T k).2.2.1 = some ty) (hn : narrow ty v = v) (hfit : fits ty v = true) (hl2 : k < fs.length) (he1 : w0.set q0 (a, .inr (ci, fs.set k v)) = w1) (hd : decode cc pc = .ok (.putfield idx, 3))
    (kk : ∀ (H1 : Heap) (locs1 : List Loc), va_P D vwCl w1 H1 → va_D A w1 → va_S A H0 H1 locs1 → W p l e R s m args below meth c H1 locs1 cells slots Q (F0 m (pc + 3) ls rest)) : W p l e R s m args below meth c H locs cells slots Q (F0 m pc ls (v :: .ref a :: rest)) := by
  subst he1
  exact va_put (T := T) (N := N) E.1.1 E.1.2.1 E.1.2.2.2.2 (fun w h => List.mem_cons_of_mem _ (hin w h)) ty0 hty hnm E.1.2.2.2.1 E.2 hP hD hS q0 he hc k hk (E.1.2.2.2.2 _ (List.mem_cons_of_mem _ hl)) (fun _ h9 => h9) hfin hdt hn hfit hl2 hd kk
end CMR
