/-! constructors: methods that make cells -/
def Qcn (D : va_G) (w0 : va_W) (sz : Nat) (B : va_W → Prop) : Array Value → State → Outcome → State → Prop := fun _ st o t => o = .returned none ∧ (∃ w1, B w1 ∧ va_P D vwCl w1 t.heap ∧ va_D (va_A w0 sz) w1) ∧ va_F (va_A w0 sz) st t
def CN (l : Launch) (D : va_G) (tys : List (ClassId × FieldType)) (y : MethodName) (cd : ByteArray) (nL lev mc ms : Nat) (av : List Value) (w0 : va_W) (B : va_W → Prop) : Prop :=
  ∀ sz : Nat, Met l y (.code y cd nL none :: G) { frames := lev, cells := mc, slots := ms, locals := 40 * lev }
    (va_Pc av (fun U => U.heap.size = sz ∧ va_P D vwCl w0 U.heap ∧ va_K D vwCl tys U ∧ va_D (fun _ => True) w0)) (Qcn D w0 sz B) mc ms (va_A w0 sz)
theorem CN.of {l : Launch} {D : va_G} {tys : List (ClassId × FieldType)} {y : MethodName} {cd : ByteArray} {nL lev mc ms : Nat} {av : List Value} {w0 : va_W} {B : va_W → Prop} (hy : plainName y.cls = true) (hn : (lg_sl av).length ≤ nL)
    (body : ∀ (p : Program) (e : Env) (s : State) (m : MethodId) (below : List Frame) (meth : Method) (c : Code) (A : Nat → Prop) (ls : Array Slot), Cx p s m av.toArray c cd nL y.cls (.code y cd nL none) D tys → meth.sig.returnType = none → meth.locks = false → meth.name = y.name → c.maxLocals = nL → va_P D vwCl w0 s.heap → va_D A w0 → A = va_A w0 s.heap.size → (∀ q : Nat, s.heap.size ≤ q → A q) → va_S A s.heap s.heap [] → lv_has ls nL (lv_args 0 av) →
      W p l e { frames := lev, cells := mc, slots := ms, locals := 40 * lev } s m av.toArray below meth c s.heap [] 0 0 (MQ below (Qcn D w0 s.heap.size B) av.toArray s mc ms A) (F0 m 0 ls [])) : CN l D tys y cd nL lev mc ms av w0 B := by
  intro sz
  refine Met.ofW (cc := cd) (maxL := nL) (ret := none) hy rfl ?_
  intro p e s m args below meth c s₁ B hml hv
  obtain ⟨rfl, hsz, hP, hK, hD0⟩ := hv
  subst hsz
  have hl := lv_entry av (n := nL) hn
  rw [lg_entry_eq]
  exact body p e s m below meth c _ _ ⟨⟨B.exec, B.bytes, hml, findClass_of_methodNamed B.named, atoms_spec (ws := .code y cd nL none :: G) B.pre⟩, hK⟩ B.returns B.notSynchronized (name_of_methodNamed B.named B.method).1 hml hP hD0.self rfl (fun q h => Or.inr h) va_S.rf hl
section CNR
variable {p : Program} {l : Launch} {e : Env} {R : Room} {s : State} {m : MethodId} {args : Array Value} {below : List Frame} {meth : Method} {c : Code} {H : Heap} {locs : List Loc} {cells slots : Nat} {Q : State → Prop}
variable {cc cd : ByteArray} {nL nLy n idx pc : Nat} {own C : String} {x0 : Cond} {D : va_G} {tys : List (ClassId × FieldType)} {w0 w1 ws wr : va_W} {A : Nat → Prop} {ls : Array Slot} {rest : List Value} {y : MethodName} {lev mc ms : Nat} {H0 : Heap} {st0 : List Value} {B : va_W → Prop} {cI cJ cZ : ClassId}
theorem CN.retv (E : Cx p s m args c cc nL own x0 D tys) (hr : meth.sig.returnType = none) (hlocks : meth.locks = false) (hA : A = va_A w0 s.heap.size) (hB : B w1) (hP : va_P D vwCl w1 H) (hD : va_D A w1) (hS : va_S A s.heap H locs) (hd : decode cc pc = .ok (.return_, 1)) : W p l e R s m args below meth c H locs cells slots (MQ below (Qcn D w0 s.heap.size B) args s cells slots A) (F0 m pc ls []) := by
  subst hA
  exact W.vret E.1.1 E.1.2.1 hr (fun t ht hW => ⟨rfl, ⟨w1, hB, by rw [ht]; exact hP, hD⟩, hS.F ht⟩) hS.2.2 hd hlocks
theorem CF.go {a : Array Value} {r : Option Value} (hr : va_Run p l e R s m args below meth c H locs cells slots 0 0 (F0 m pc ls st0) rest (Qcm D w0 H.size r w1 a) (va_A w0 H.size)) (hS : va_S A H0 H locs) (hF : ∀ q, va_A w0 H.size q → A q)
    (kk : ∀ (H1 : Heap) (locs1 : List Loc), va_P D vwCl w1 H1 → va_S A H0 H1 locs1 → (∀ q : Nat, q < H.size → ¬ va_A w0 H.size q → H1[q]? = H[q]?) → W p l e R s m args below meth c H1 locs1 cells slots Q (F0 m (pc + 3) ls (r.toList ++ rest))) : W p l e R s m args below meth c H locs cells slots Q (F0 m pc ls st0) := by
  intro T hT X
  obtain ⟨v, st₀, t, T', L, h0, X', hL, e1, e2, ⟨hv, hp, hz, hk⟩, st⟩ := hr T hT X
  cases hv
  rw [h0] at hz hk
  obtain ⟨t2, a1, b1⟩ := kk T'.heap (locs ++ L) (by rw [e1]; exact hp)
    ⟨Nat.le_trans hS.1 (by rw [e1]; exact hz), fun q h1 h2 => by rw [e1, hk q (Nat.lt_of_lt_of_le h1 hS.1) (fun z => h2 (hF q z))]; exact hS.2.1 q h1 h2, fun q hq => by
      rcases List.mem_append.mp hq with h | h
      · exact hS.2.2 q h
      · exact hF _ (hL q h)⟩ (fun q h1 h2 => by rw [e1]; exact hk q h1 h2) T' rfl X'
  exact ⟨t2, st t2 a1, b1⟩
theorem CN.callI {b : Nat} {As : List Value} (E : Cx p s m args c cc nL own x0 D tys) (hM : CN l D tys y cd nLy lev mc ms (.ref b :: As) w0 B)
    (hl : Cond.methodLink own idx y ∈ G) (hi : Cond.instanceMethod y ∈ G) (hin : Cond.initialized y.cls ∈ G) (hco : Cond.code y cd nLy none ∈ G) (hy1 : y.name = "<init>")
    (hd0 : y.cls ≠ "java/lang/invoke/MethodHandle" ∧ y.cls ≠ "java/lang/invoke/VarHandle" ∧ (parseMethodDescriptor y.desc).map (fun d => d.parameters.length) = some n)
    (hR : lev + 1 ≤ R.frames ∧ 8 + (nLy + 11) + 40 * lev ≤ R.locals) (hcs : cells + mc ≤ R.cells ∧ slots + ms ≤ R.slots)
    (hP : va_P D vwCl ws H) (hD : va_D A ws) (hS : va_S A H0 H locs) (hA : ∀ q : Nat, H0.size ≤ q → A q) (isC isR : List Nat) (hC : isC.map (fun i => ws[i]?) = w0.map some) (hf : isC.filterMap (fun i => ws[i]?) = w0) (hn1 : va_nd isC = true) (hRr : isR.map (fun i => ws[i]?) = wr.map some) (hn2 : va_nd isR = true) (hdis : ∀ i ∈ isR, i ∉ isC)
    (hn : As.length = n) (hsz : ls.size = nL) (hw : (rest.map fun v => v.category).sum ≤ 8) (hdg : decode cc pc = .ok (.invokespecial idx, 3)) (hst : st0 = As.reverse ++ .ref b :: rest)
    (kk : ∀ (w1 : va_W) (H1 : Heap) (locs1 : List Loc), B w1 → va_P D vwCl (wr ++ w1) H1 → va_D A (wr ++ w1) → va_S A H0 H1 locs1 → W p l e R s m args below meth c H1 locs1 (cells + mc) (slots + ms) Q (F0 m (pc + 3) ls rest)) : W p l e R s m args below meth c H locs cells slots Q (F0 m pc ls st0) := by
  have hPc : va_P D vwCl w0 H := hP.sub isC hf
  have hDc : va_D A w0 := hD.sub isC hn1 hC
  have hF : ∀ q, va_A w0 H.size q → A q := va_free (wc := w0) hD hS hA isC hC
  have hg : ∀ w ∈ G, w.before args s = true := fun w h => E.1.2.2.2.2 w (List.mem_cons_of_mem _ h)
  have hr : va_Run p l e R s m args below meth c H locs cells slots mc ms (F0 m pc ls st0) rest (Qcn D w0 H.size B (Value.ref b :: As).toArray) (va_A w0 H.size) := va_runI (As := As) (rest := rest) E.1 (hM H.size) (cwI n E.1.2.2.2.2 (gdIn (fun w hw => (List.mem_cons.mp hw).elim (fun e => by rw [e]; exact hco) id)) rfl rfl rfl (hg _ hin) (hg _ hl) (hg _ hi) hy1 hd0 hR) ⟨CM.pre _, fun U hU hW => ⟨rfl, by rw [hU], by rw [hU]; exact hPc, va_K.moved hW.alike E.2, hDc.weaken (fun _ _ _ _ => trivial)⟩⟩ rfl hn hsz hst (lv_room hw) hdg hcs
  intro T hT X
  obtain ⟨v, st₀, t, T', L, h0, X', hL, e1, e2, ⟨hv, ⟨w1, hB, hp, hd⟩, hz, hk⟩, st⟩ := hr T hT X
  cases hv
  rw [h0] at hz hk
  have hk2 : ∀ q : Nat, q < H.size → ¬ va_A w0 H.size q → T'.heap[q]? = H[q]? := fun q h1 h2 => by rw [e1]; exact hk q h1 h2
  have hj := va_join hP hD isC isR hC hRr hn2 hdis hk2 hF (by rw [e1]; exact hp) hd
  obtain ⟨t2, a1, b1⟩ := kk w1 T'.heap (locs ++ L) hB hj.1 hj.2
    ⟨Nat.le_trans hS.1 (by rw [e1]; exact hz), fun q h1 h2 => by rw [e1, hk q (Nat.lt_of_lt_of_le h1 hS.1) (fun z => h2 (hF q z))]; exact hS.2.1 q h1 h2, fun q hq => by
      rcases List.mem_append.mp hq with h | h
      · exact hS.2.2 q h
      · exact hF _ (hL q h)⟩ T' rfl X'
  exact ⟨t2, st t2 a1, b1⟩
theorem CN.putF {a ci N : Nat} {T : u_T} {fs : List Value} {v : Value} {ty : FieldType} (E : Cx p s m args c cc nL own x0 D tys) (hin2 : meth.name = "<init>") (hP : va_P D vwCl ws H) (hD : va_D A ws) (hS : va_S A H0 H locs) (q0 : Nat) (he : ws[q0]? = some (a, .inr (ci, fs))) (hc : vwCl[ci]? = some (C, T, N)) (hin : ∀ w ∈ u_ws C T N, w ∈ G) (ty0 : Nat → FieldType) (hty : ∀ k, k < N → parseFieldDescriptor (T k).2.2.1 = some (ty0 k)) (hnm : ∀ a, a < N → ∀ b, b < N → a ≠ b → (T a).2.1 ≠ (T b).2.1) (k : Nat) (hk : k < N) (hl : Cond.fieldLink own idx (T k).1 (T k).2.1 (T k).2.2.1 ∈ G) (hfin : (T k).2.2.2 = true) (hdecl : (T k).1 = own) (hdt : parseFieldDescriptor (T k).2.2.1 = some ty) (hn : narrow ty v = v) (hfit : fits ty v = true) (hl2 : k < fs.length) (he1 : ws.set q0 (a, .inr (ci, fs.set k v)) = w1) (hd : decode cc pc = .ok (.putfield idx, 3))
    (kk : ∀ (H1 : Heap) (locs1 : List Loc), va_P D vwCl w1 H1 → va_D A w1 → va_S A H0 H1 locs1 → W p l e R s m args below meth c H1 locs1 cells slots Q (F0 m (pc + 3) ls rest)) : W p l e R s m args below meth c H locs cells slots Q (F0 m pc ls (v :: .ref a :: rest)) := by
  subst he1
  exact va_putF (T := T) (N := N) E.1.1 E.1.2.1 E.1.2.2.2.2 (fun w h => List.mem_cons_of_mem _ (hin w h)) ty0 hty hnm E.1.2.2.2.1 E.2 hP hD hS q0 he hc k hk (E.1.2.2.2.2 _ (List.mem_cons_of_mem _ hl)) (fun _ h9 => h9) hfin hin2 hdecl hdt hn hfit hl2 hd kk
theorem CN.objInit {a : Nat} (E : Cx p s m args c cc nL own x0 D tys) (hl : Cond.methodLink own idx objectInit ∈ G) (hml : c.maxLocals = nL) (hsz : ls.size = nL) (hd : decode cc pc = .ok (.invokespecial idx, 3)) (hR : 1 ≤ R.frames ∧ 12 ≤ R.locals)
    (kk : W p l e R s m args below meth c H locs cells slots Q (F0 m (pc + 3) ls [])) : W p l e R s m args below meth c H locs cells slots Q (F0 m pc ls [.ref a]) := by
  refine W.objInit E.1.1 E.1.2.1 E.1.2.2.2.1 (E.1.2.2.2.2 _ (List.mem_cons_of_mem _ hl)) (E.1.2.2.2.2 _ (List.mem_cons_of_mem _ im_objInit)) (E.1.2.2.2.2 _ (List.mem_cons_of_mem _ co_objInit)) rfl (by rw [hml]; exact hsz) rfl hd hR.1 ?_ ?_
  · exact hR.2
  · exact W.eq (g2 := F0 m (pc + 3) ls []) rfl kk
theorem CN.newI {N : Nat} (E : Cx p s m args c cc nL own x0 D (t3 cI cJ cZ)) (hP : va_P D vwCl ws H) (hD : va_D A ws) (hS : va_S A H0 H locs) (hA : ∀ q : Nat, H0.size ≤ q → A q) (hN : N < 100000) (hc : cells + 1 ≤ R.cells) (hs : slots + N ≤ R.slots) (hd : decode cc pc = .ok (.newarray .int, 2))
    (kk : ∀ (q : Nat) (H1 : Heap), va_P D vwCl (ws ++ [(q, .inl (cI, N, .inl (fun _ => 0)))]) H1 → va_D A (ws ++ [(q, .inl (cI, N, .inl (fun _ => 0)))]) → va_S A H0 H1 locs → W p l e R s m args below meth c H1 locs (cells + 1) (slots + N) Q (F0 m (pc + 2) ls (.ref q :: rest))) : W p l e R s m args below meth c H locs cells slots Q (F0 m pc ls (.int (nI N) :: rest)) := by
  refine va_newa (atype := .int) (ty := .int) (a0 := (N, .inl (fun _ => 0))) E.1.1 E.1.2.1 (E.1.2.2.2.2 _ (List.mem_cons_of_mem _ ar_int)) rfl E.2 hP hD hS hA (fun cA => rfl) (nI_pos (by omega)) (nI_clamp (by omega)) (by show N * 4 ≤ _; omega) hc hs hd (fun q cA H1 hK1 hP1 hD1 hS1 => ?_)
  have e1 := va_nm_int (hK1.2 3 (cA, .int) rfl).2
  have e2 := va_nm_int (E.2.2 0 (cI, .int) rfl).2
  rw [e2] at e1
  cases e1
  exact kk q H1 hP1 hD1 hS1
theorem vJ0 : vJ (.inl 0) = 0 := by decide
theorem CN.newJ {N : Nat} (E : Cx p s m args c cc nL own x0 D (t3 cI cJ cZ)) (hP : va_P D vwCl ws H) (hD : va_D A ws) (hS : va_S A H0 H locs) (hA : ∀ q : Nat, H0.size ≤ q → A q) (hN : N < 100000) (hc : cells + 1 ≤ R.cells) (hs : slots + N ≤ R.slots) (hd : decode cc pc = .ok (.newarray .long, 2))
    (kk : ∀ (q : Nat) (H1 : Heap), va_P D vwCl (ws ++ [(q, .inl (cJ, N, .inr (.inl (fun _ => vJ (.inl 0)))))]) H1 → va_D A (ws ++ [(q, .inl (cJ, N, .inr (.inl (fun _ => vJ (.inl 0)))))]) → va_S A H0 H1 locs → W p l e R s m args below meth c H1 locs (cells + 1) (slots + N) Q (F0 m (pc + 2) ls (.ref q :: rest))) : W p l e R s m args below meth c H locs cells slots Q (F0 m pc ls (.int (nI N) :: rest)) := by
  refine va_newa (atype := .long) (ty := .long) (a0 := (N, .inr (.inl (fun _ => vJ (.inl 0))))) E.1.1 E.1.2.1 (E.1.2.2.2.2 _ (List.mem_cons_of_mem _ ar_long)) rfl E.2 hP hD hS hA (fun cA => by rw [vJ0]; rfl) (nI_pos (by omega)) (nI_clamp (by omega)) (by show N * 8 ≤ _; omega) hc hs hd (fun q cA H1 hK1 hP1 hD1 hS1 => ?_)
  have e1 := va_nm_long (hK1.2 3 (cA, .long) rfl).2
  have e2 := va_nm_long (E.2.2 1 (cJ, .long) rfl).2
  rw [e2] at e1
  cases e1
  exact kk q H1 hP1 hD1 hS1
theorem CN.newZ {N : Nat} (E : Cx p s m args c cc nL own x0 D (t3 cI cJ cZ)) (hP : va_P D vwCl ws H) (hD : va_D A ws) (hS : va_S A H0 H locs) (hA : ∀ q : Nat, H0.size ≤ q → A q) (hN : N < 100000) (hc : cells + 1 ≤ R.cells) (hs : slots + N ≤ R.slots) (hd : decode cc pc = .ok (.newarray .boolean, 2))
    (kk : ∀ (q : Nat) (H1 : Heap), va_P D vwCl (ws ++ [(q, .inl (cZ, N, .inl (fun _ => 0)))]) H1 → va_D A (ws ++ [(q, .inl (cZ, N, .inl (fun _ => 0)))]) → va_S A H0 H1 locs → W p l e R s m args below meth c H1 locs (cells + 1) (slots + N) Q (F0 m (pc + 2) ls (.ref q :: rest))) : W p l e R s m args below meth c H locs cells slots Q (F0 m pc ls (.int (nI N) :: rest)) := by
  refine va_newa (atype := .boolean) (ty := .boolean) (a0 := (N, .inl (fun _ => 0))) E.1.1 E.1.2.1 (E.1.2.2.2.2 _ (List.mem_cons_of_mem _ ar_boolean)) rfl E.2 hP hD hS hA (fun cA => rfl) (nI_pos (by omega)) (nI_clamp (by omega)) (by show N * 1 ≤ _; omega) hc hs hd (fun q cA H1 hK1 hP1 hD1 hS1 => ?_)
  have e1 := va_nm_boolean (hK1.2 3 (cA, .boolean) rfl).2
  have e2 := va_nm_boolean (E.2.2 2 (cZ, .boolean) rfl).2
  rw [e2] at e1
  cases e1
  exact kk q H1 hP1 hD1 hS1
theorem CN.new {T : u_T} {N ci : Nat} {fs : List Value} (E : Cx p s m args c cc nL own x0 D tys) (hin : ∀ w ∈ u_ws C T N, w ∈ G) (ty : Nat → FieldType) (hty : ∀ k, k < N → parseFieldDescriptor (T k).2.2.1 = some (ty k)) (hcl : Cond.classLink own idx C ∈ G) (hib : Cond.instantiable C N ∈ G) (hini : Cond.initialized C ∈ G) (hP : va_P D vwCl ws H) (hD : va_D A ws) (hS : va_S A H0 H locs) (hA : ∀ q : Nat, H0.size ≤ q → A q) (hc : vwCl[ci]? = some (C, T, N)) (hfs : ∀ j, j < N → defaultValue (ty j) = vp_V fs j) (hcells : cells + 1 ≤ R.cells) (hslots : slots + N ≤ R.slots) (hd : decode cc pc = .ok (.new idx, 3))
    (kk : ∀ (q : Nat) (H1 : Heap), va_P D vwCl (ws ++ [(q, .inr (ci, fs))]) H1 → va_D A (ws ++ [(q, .inr (ci, fs))]) → va_S A H0 H1 locs → W p l e R s m args below meth c H1 locs (cells + 1) (slots + N) Q (F0 m (pc + 3) ls (.ref q :: rest))) : W p l e R s m args below meth c H locs cells slots Q (F0 m pc ls rest) :=
  va_new (C := C) (T := T) (N := N) E.1.1 E.1.2.1 E.1.2.2.2.2 (fun w h => List.mem_cons_of_mem _ (hin w h)) ty hty E.1.2.2.2.1 (E.1.2.2.2.2 _ (List.mem_cons_of_mem _ hcl)) (E.1.2.2.2.2 _ (List.mem_cons_of_mem _ hib)) (E.1.2.2.2.2 _ (List.mem_cons_of_mem _ hini)) E.2 hP hD hS hA hc hfs hcells hslots hd kk
theorem CN.iast {a q0 n i : Nat} {f : Nat → Int32} {x : Int32} (E : Cx p s m args c cc nL own x0 D (t3 cI cJ cZ)) (hP : va_P D vwCl ws H) (hD : va_D A ws) (hS : va_S A H0 H locs) (ha : ws[q0]? = some (a, .inl (cI, n, .inl f))) (hi : i < n) (hn : n < 100000) (hw : ws.set q0 (a, .inl (cI, n, .inl (va_up f i x))) = w1) (hd : decode cc pc = .ok (.iastore, 1))
    (kk : ∀ (H1 : Heap) (locs1 : List Loc), va_P D vwCl w1 H1 → va_D A w1 → va_S A H0 H1 locs1 → W p l e R s m args below meth c H1 locs1 cells slots Q (F0 m (pc + 1) ls rest)) : W p l e R s m args below meth c H locs cells slots Q (F0 m pc ls (.int x :: .int (nI i) :: .ref a :: rest)) := by
  refine va_iast E.1.1 E.1.2.1 E.2 hP hD hS q0 0 ha rfl (vp_in_nI hi (by omega)) hd (fun H1 l1 h1 h2 h3 => ?_)
  have e9 : upd f (nI i).toNatClampNeg x = va_up f i x := by
    funext j
    rw [nI_clamp (by omega)]
    unfold upd va_up
    split <;> rfl
  rw [e9, hw] at h1 h2
  exact kk H1 l1 h1 h2 h3
theorem CF.callS {As : List Value} {ret : Option FieldType} {r : Option Value} (E : Cx p s m args c cc nL own x0 D tys) (hM : CM l D tys y cd nLy ret lev As w0 r w1)
    (hl : Cond.methodLink own idx y ∈ G) (hs : Cond.static y ∈ G) (hin : Cond.initialized y.cls ∈ G) (hco : Cond.code y cd nLy ret ∈ G)
    (hd0 : y.cls ≠ "java/lang/invoke/MethodHandle" ∧ y.cls ≠ "java/lang/invoke/VarHandle" ∧ (parseMethodDescriptor y.desc).map (fun d => d.parameters.length) = some n)
    (hR : lev + 1 ≤ R.frames ∧ 8 + (nLy + 11) + 40 * lev ≤ R.locals) (hcs : cells ≤ R.cells ∧ slots ≤ R.slots)
    (hP : va_P D vwCl w0 H) (hD : va_D A w0) (hS : va_S A H0 H locs) (hA : ∀ q : Nat, H0.size ≤ q → A q) (hn : As.length = n) (hsz : ls.size = nL) (hw : (rest.map fun v => v.category).sum ≤ 8) (hdg : decode cc pc = .ok (.invokestatic idx, 3)) (hst : st0 = As.reverse ++ rest)
    (kk : ∀ (H1 : Heap) (locs1 : List Loc), va_P D vwCl w1 H1 → va_S A H0 H1 locs1 → (∀ q : Nat, q < H.size → ¬ va_A w0 H.size q → H1[q]? = H[q]?) → W p l e R s m args below meth c H1 locs1 cells slots Q (F0 m (pc + 3) ls (r.toList ++ rest))) : W p l e R s m args below meth c H locs cells slots Q (F0 m pc ls st0) := by
  refine CF.go (va_runS (As := As) (rest := rest) E.1 (hM H.size) (va_cwS n E.1.2.2.2.2 (gdIn ?_) rfl rfl rfl hd0 hR) ⟨CM.pre _, fun U hU hW => ⟨rfl, by rw [hU], by rw [hU]; exact hP, va_K.moved hW.alike E.2, hD.weaken (fun _ _ _ _ => trivial)⟩⟩ rfl hn hsz hst (lv_room hw) hdg hcs) hS (CM.fr hD hS hA) kk
  intro w hw
  simp only [va_wsS, List.mem_append, List.mem_cons, List.not_mem_nil, or_false] at hw
  rcases hw with (rfl | rfl | rfl) | rfl | hw
  · exact hl
  · exact hs
  · exact hin
  · exact hco
  · exact hw
theorem CF.callV {b : Nat} {As : List Value} {T : u_T} {N ci : Nat} {fs : List Value} {ret : Option FieldType} {r : Option Value} (E : Cx p s m args c cc nL own x0 D tys) (hM : CM l D tys y cd nLy ret lev (.ref b :: As) w0 r w1)
    (hl : Cond.methodLink own idx y ∈ G) (hi : Cond.instanceMethod y ∈ G) (hse : Cond.selects C y y ∈ G) (hin : Cond.initialized C ∈ G) (hco : Cond.code y cd nLy ret ∈ G)
    (hd0 : y.cls = C ∧ y.cls ≠ "java/lang/invoke/MethodHandle" ∧ y.cls ≠ "java/lang/invoke/VarHandle" ∧ (parseMethodDescriptor y.desc).map (fun d => d.parameters.length) = some n)
    (hR : lev + 1 ≤ R.frames ∧ 8 + (nLy + 11) + 40 * lev ≤ R.locals) (hcs : cells ≤ R.cells ∧ slots ≤ R.slots) (q0 : Nat) (he : w0[q0]? = some (b, .inr (ci, fs))) (hc : vwCl[ci]? = some (C, T, N))
    (hP : va_P D vwCl w0 H) (hD : va_D A w0) (hS : va_S A H0 H locs) (hA : ∀ q : Nat, H0.size ≤ q → A q) (hn : As.length = n) (hsz : ls.size = nL) (hw : (rest.map fun v => v.category).sum ≤ 8) (hdg : decode cc pc = .ok (.invokevirtual idx, 3)) (hst : st0 = As.reverse ++ .ref b :: rest)
    (kk : ∀ (H1 : Heap) (locs1 : List Loc), va_P D vwCl w1 H1 → va_S A H0 H1 locs1 → (∀ q : Nat, q < H.size → ¬ va_A w0 H.size q → H1[q]? = H[q]?) → W p l e R s m args below meth c H1 locs1 cells slots Q (F0 m (pc + 3) ls (r.toList ++ rest))) : W p l e R s m args below meth c H locs cells slots Q (F0 m pc ls st0) := by
  refine CF.go (va_runV (As := As) (rest := rest) E.1 (hM H.size) (cwV n E.1.2.2.2.2 (gdIn ?_) rfl rfl rfl hd0 hR) ⟨CM.pre _, va_recv E.2 hP hc he, fun U hU hW => ⟨rfl, by rw [hU], by rw [hU]; exact hP, va_K.moved hW.alike E.2, hD.weaken (fun _ _ _ _ => trivial)⟩⟩ rfl hn hsz hst (lv_room hw) hdg hcs) hS (CM.fr hD hS hA) kk
  intro w hw
  simp only [wsV, List.mem_append, List.mem_cons, List.not_mem_nil, or_false] at hw
  rcases hw with (rfl | rfl | rfl | rfl) | rfl | hw
  · exact hl
  · exact hi
  · exact hse
  · exact hin
  · exact hco
  · exact hw
end CNR
theorem arrV_ext (cA : ClassId) (n : Nat) {f g : Nat → Value} (h : ∀ i, i < n → f i = g i) : arrV cA n f = arrV cA n g := by
  unfold arrV
  have e : (fun j : Fin n => f j.val) = fun j : Fin n => g j.val := funext fun j => h j.1 j.2
  rw [e]
theorem arr_ext {D : va_G} {cl : List vw_C} {a : Nat} {cA : ClassId} {n : Nat} {f g : Nat → Int32} {H : Heap} (h : ∀ i, i < n → f i = g i) (hP : va_P D cl [(a, .inl (cA, n, .inl f))] H) : va_P D cl [(a, .inl (cA, n, .inl g))] H := by
  intro k q hq
  have hz : k < 1 := (List.getElem?_eq_some_iff.mp hq).1
  rw [show k = 0 by omega] at hq
  cases hq
  have h0 := hP 0 _ rfl
  show H[a]? = some (vp_cell cA (n, .inl g))
  rw [vp_cell_i, ← arrV_ext cA n (f := fun j => .int (f j)) (fun i hi => by rw [h i hi])]
  exact h0
/-! Arrays.fill on a row alone -/
set_option maxRecDepth 100000 in
theorem c_fill1 (l : Launch) (D : va_G) (cI cJ cZ : ClassId) (a : Nat) (f : Nat → Int32) (v : Int32) : CM l D (t3 cI cJ cZ) yJ7_fill_53178 cJ7_fill_53178 4 none 0 [.ref a, .int v] [(a, .inl (cI, 6, .inl f))] none [(a, .inl (cI, 6, .inl (fun _ => v)))] := by
  refine CM.of (by decide) (Nat.le_of_ble_eq_true rfl) ?_
  intro p e s m below meth c A ls E hr hlk hP hD0 hA hA2 hS hl
  have hl : lv_has ls 4 [(0, .ref a), (1, .int v)] := hl
  refine lv_iconst (v := nI 0) E.1.1 E.1.2.1 dJ7_fill_53178_0 rfl ?_
  refine lv_istore_n (lv' := [(2, .int (nI 0)), (0, .ref a), (1, .int v)]) E.1.1 E.1.2.1 dJ7_fill_53178_1 rfl hl (by decide) rfl (fun ls hl => ?_)
  refine lv_aload_n E.1.1 E.1.2.1 dJ7_fill_53178_2 rfl (lv_at hl 1 rfl) ?_
  refine va_alen (v := nI 6) E.1.1 E.1.2.1 E.2 hP 0 0 rfl rfl rfl dJ7_fill_53178_3 ?_
  refine lv_istore_n (lv' := [(3, .int (nI 6)), (2, .int (nI 0)), (0, .ref a), (1, .int v)]) E.1.1 E.1.2.1 dJ7_fill_53178_4 rfl hl (by decide) rfl (fun ls hl => ?_)
  have LP5 : ∀ (n : Nat) (k : Nat) (H : Heap) (locs : List Loc) (ls : Array Slot), (k + n = 6) → va_P D vwCl [(a, .inl (cI, 6, .inl (fillF f 0 k v)))] H → va_D A [(a, .inl (cI, 6, .inl (fillF f 0 k v)))] → va_S A s.heap H locs → lv_has ls 4 [(0, .ref a), (1, .int v), (2, .int (nI k)), (3, .int (nI 6))] → W p l e { frames := 0, cells := 0, slots := 0, locals := 40 * 0 } s m [.ref a, .int v].toArray below meth c H locs 0 0 (MQ below (Qcm D [(a, .inl (cI, 6, .inl f))] s.heap.size none [(a, .inl (cI, 6, .inl (fun _ => v)))]) [.ref a, .int v].toArray s 0 0 A) (F0 m 5 ls []) := by
    intro n
    induction n with
    | zero =>
      intro k H locs ls hkn hP hD hS hl
      refine lv_iload_n E.1.1 E.1.2.1 dJ7_fill_53178_5 rfl (lv_at hl 2 rfl) ?_
      refine lv_iload_n E.1.1 E.1.2.1 dJ7_fill_53178_6 rfl (lv_at hl 3 rfl) ?_
      refine nv_icmp_ge (by omega) (by omega) E dJ7_fill_53178_7 (tgt := 20) (by decide) (fun h7 => ?_) (fun h7 => ?_)
      · exact CM.retv E hr hlk hA (by have e9 : k = 6 := (by omega); rw [e9] at hP; exact arr_ext (fun i hi => by unfold fillF; rw [if_pos ⟨Nat.zero_le _, hi⟩]) hP) hS rfl dJ7_fill_53178_20
      · exact absurd h7 (by omega)
    | succ n ih5 =>
      intro k H locs ls hkn hP hD hS hl
      refine lv_iload_n E.1.1 E.1.2.1 dJ7_fill_53178_5 rfl (lv_at hl 2 rfl) ?_
      refine lv_iload_n E.1.1 E.1.2.1 dJ7_fill_53178_6 rfl (lv_at hl 3 rfl) ?_
      refine nv_icmp_ge (by omega) (by omega) E dJ7_fill_53178_7 (tgt := 20) (by decide) (fun h7 => ?_) (fun h7 => ?_)
      · exact absurd h7 (by omega)
      · refine lv_aload_n E.1.1 E.1.2.1 dJ7_fill_53178_10 rfl (lv_at hl 0 rfl) ?_
        refine lv_iload_n E.1.1 E.1.2.1 dJ7_fill_53178_11 rfl (lv_at hl 2 rfl) ?_
        refine lv_iload_n E.1.1 E.1.2.1 dJ7_fill_53178_12 rfl (lv_at hl 1 rfl) ?_
        refine CN.iast (i := k) (q0 := 0) E hP hD hS rfl (by omega) (by decide) rfl dJ7_fill_53178_13 (fun H locs hP hD hS => ?_)
        have hP : va_P D vwCl [(a, .inl (cI, 6, .inl (va_up (fillF f 0 k v) k v)))] H := hP
        have hD : va_D A [(a, .inl (cI, 6, .inl (va_up (fillF f 0 k v) k v)))] := hD
        rw [fillF_up f v (Nat.zero_le k)] at hP hD
        refine lv_iinc (v := nI (k + 1)) (lv' := [(2, .int (nI (k + 1))), (0, .ref a), (1, .int v), (3, .int (nI 6))]) E.1.1 E.1.2.1 dJ7_fill_53178_14 hl (k := 2) rfl (nI_add k 1) (by decide) rfl (fun ls hl => ?_)
        refine lv_goto (tgt := 5) E.1.1 E.1.2.1 dJ7_fill_53178_17 (by decide) ?_
        exact ih5 (k + 1) _ _ _ (by omega) hP hD hS (lv_sub hl [1, 2, 0, 3] rfl)
  exact LP5 6 0 _ _ _ (by omega) (by rw [fillF_0]; exact hP) (by rw [fillF_0]; exact hD0) hS (lv_sub hl [2, 3, 1, 0] rfl)
