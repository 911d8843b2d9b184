/-! the law's walk: its calls, its script, its start -/
theorem li_0 : LI c00 m00 := by
  refine ⟨⟨?_, ?_, ?_⟩, ?_, ?_⟩
  · exact ⟨fun _ (h : false = true) => (by cases h), fun _ => ⟨rfl, rfl⟩, rfl, rfl, rfl, trivial, fun _ => (by decide : (0 : Nat) < 6), rfl, rfl, trivial, rfl, rfl⟩
  · refine ⟨rfl, rfl, fun i hi => ?_, fun _ _ => rfl, fun _ _ => rfl, fun i k hk => ?_, by decide, fun p => ⟨rfl, rfl, rfl, rfl⟩⟩
    · have hi : i < 1 := hi
      rw [show i = 0 by omega]; rfl
    · have hk : (if i = 0 then none else some 0) = some k := hk
      by_cases h : i = 0
      · rw [if_pos h] at hk; cases hk
      · rw [if_neg h] at hk
        cases hk
        omega
  · exact ⟨fun b k hk => absurd hk (Nat.not_lt_zero _), fun _ => Nat.zero_le _⟩
  · refine ⟨⟨⟨fun i k hk => (by cases hk), fun _ => Nat.zero_le _, fun _ => (by decide : (0 : Nat) < 12), fun _ => (by decide : (0 : Nat) < 6), by decide⟩, fun _ => rfl⟩, fun _ => Nat.zero_le _, ⟨fun _ => (by decide : (0 : Nat) < 24), fun _ => Nat.zero_le _, fun _ => (by decide : (0 : Nat) < 72), fun _ => (by decide : (0 : Nat) < 6)⟩, ⟨fun i k hk => (by cases hk), fun i k hk => (by cases hk)⟩, ⟨by decide, by decide, by decide, by decide⟩, by decide, by decide, by decide, by decide⟩
  · exact ⟨fun i _ => (Nat.zero_testBit i).symm, fun b _ => (Nat.zero_testBit b).symm, by decide, by decide⟩
theorem and15 (x : Int32) : ∃ j, j < 16 ∧ x &&& nI 15 = nI j := by
  have e : x = nI x.toBitVec.toNat := by
    apply Int32.toBitVec_inj.1
    show x.toBitVec = BitVec.ofNat 32 x.toBitVec.toNat
    rw [BitVec.ofNat_toNat, BitVec.setWidth_eq]
  refine ⟨x.toBitVec.toNat &&& 15, Nat.and_lt_two_pow (n := 4) _ (by decide), ?_⟩
  rw [← nI_and, ← e]
theorem loop_gt {L i : Nat} (hL : L ≤ 3584) (hi : i ≤ 4000) : nI L - nI 7 < nI i ↔ L < i + 7 := by
  have e : (nI L - nI 7).toInt = (L : Int) - 7 := by
    by_cases h : 7 ≤ L
    · rw [pk_sub h, nI_toInt (by omega)]; omega
    · have h : L < 7 := by omega
      have h0 : L = 0 ∨ L = 1 ∨ L = 2 ∨ L = 3 ∨ L = 4 ∨ L = 5 ∨ L = 6 := by omega
      rcases h0 with rfl | rfl | rfl | rfl | rfl | rfl | rfl <;> decide
  rw [Int32.lt_iff_toInt_lt, e, nI_toInt (by omega)]
  omega
theorem AP.l {U V X : va_W} (h : AP (U ++ V) X) : AP U X := fun i j p q hi hj => h i j p q (by rw [List.getElem?_append_left (List.getElem?_eq_some_iff.mp hi).1]; exact hi) hj
theorem AP.r {U V X : va_W} (h : AP (U ++ V) X) : AP V X := fun i j p q hi hj => h (U.length + i) j p q (by rw [List.getElem?_append_right (Nat.le_add_right _ _), Nat.add_sub_cancel_left]; exact hi) hj
section LAWB
variable {p : Program} {l : Launch} {e : Env} {R : Room} {s : State} {m : MethodId} {args : Array Value} {below : List Frame} {meth : Method} {c : Code} {H : Heap} {locs : List Loc} {cells slots : Nat} {Q : State → Prop}
variable {cc cd : ByteArray} {nL nLy n idx pc : Nat} {own C : String} {x0 : Cond} {D : va_G} {A : Nat → Prop} {ls : Array Slot} {rest : List Value} {y : MethodName} {lev : Nat} {st0 : List Value}
variable {ad bd : Nat → Nat} {cI cJ cZ : ClassId} {o : Nat} {σ σ1 : CS} {ρ ρ1 : MS} {u u1 : Int64}
theorem LL.callY {As : List Value} {r : Int32} {hh : List (Nat × Nat × Nat × Nat)} (E : Cx p s m args c cc nL own x0 D (t3 cI cJ cZ)) (hM : CY l D (t3 cI cJ cZ) y cd nLy hh 8 As (wO ad cI cJ cZ o σ u) r (wO ad cI cJ cZ o σ1 u1))
    (hl : Cond.methodLink own idx y ∈ G) (hs : Cond.static y ∈ G) (hin : Cond.initialized y.cls ∈ G) (hco : Cond.codeWith y cd nLy (some .int) hh ∈ G)
    (hd0 : y.cls ≠ "java/lang/invoke/MethodHandle" ∧ y.cls ≠ "java/lang/invoke/VarHandle" ∧ (parseMethodDescriptor y.desc).map (fun d => d.parameters.length) = some n)
    (hR : 8 + 1 ≤ R.frames ∧ 8 + (nLy + 11) + 40 * 8 ≤ R.locals) (hcs : cells + 1 ≤ R.cells ∧ slots + 6 ≤ R.slots)
    (hP : va_P D vwCl (wO ad cI cJ cZ o σ u) H) (hP2 : va_P D vwCl (wR bd cI cJ cZ ρ) H) (hD : va_D A (wO ad cI cJ cZ o σ u)) (hAP : AP (wO ad cI cJ cZ o σ u) (wR bd cI cJ cZ ρ)) (hS : va_S A s.heap H locs) (hA : ∀ q : Nat, s.heap.size ≤ q → A q) (hX : XK A s s.heap) (hn : As.length = n) (hsz : ls.size = nL) (hw : (rest.map fun v => v.category).sum ≤ 8) (hdg : decode cc pc = .ok (.invokestatic idx, 3)) (hst : st0 = As.reverse ++ rest)
    (kk : ∀ (H1 : Heap) (locs1 : List Loc), va_P D vwCl (wO ad cI cJ cZ o σ1 u1) H1 → va_P D vwCl (wR bd cI cJ cZ ρ) H1 → va_S A s.heap H1 locs1 → W p l e R s m args below meth c H1 locs1 (cells + 1) (slots + 6) Q (F0 m (pc + 3) ls (.int r :: rest))) : W p l e R s m args below meth c H locs cells slots Q (F0 m pc ls st0) := by
  have hF : ∀ q, va_A (wO ad cI cJ cZ o σ u) H.size q → A q := CM.fr hD hS hA
  have hX1 : XK (va_A (wO ad cI cJ cZ o σ u) H.size) s H := (hX.kept hS.2.1).narrow hF
  have hr : vx_Run p l e R s m args below meth c H locs cells slots 1 6 (F0 m pc ls st0) rest (Qcy D (wO ad cI cJ cZ o σ u) H.size r (wO ad cI cJ cZ o σ1 u1) As.toArray) Xno (va_A (wO ad cI cJ cZ o σ u) H.size) := by
    refine vx_runSX (As := As) (rest := rest) E.1 (hM H.size) (vx_cwSW n E.1.2.2.2.2 (gdIn ?_) rfl rfl rfl hd0 hR) ⟨CX.pre _, fun U hU hW => ⟨rfl, by rw [hU], by rw [hU]; exact hP, va_K.moved hW.alike E.2, hD.weaken (fun _ _ _ _ => trivial), by rw [hU]; exact hX1.warm hW⟩⟩ rfl hn hsz hst (lv_room hw) hdg hcs
    intro w hw
    simp only [va_wsS, List.mem_append, List.mem_cons, List.not_mem_nil, or_false] at hw
    rcases hw with (rfl | rfl | rfl) | rfl | hw
    · exact hl
    · exact hs
    · exact hin
    · exact hco
    · exact hw
  intro T hT X
  rcases hr T hT X with ⟨v, st₀, t, T', L, h0, X', hL, e1, e2, ⟨hv, hp, hz, hk⟩, st⟩ | ⟨q, st₀, t, T', L, E9, ce, h0, X', hL, e1, e2, hx, -⟩
  · cases hv
    rw [h0] at hz hk
    have hk2 : ∀ q : Nat, q < H.size → ¬ va_A (wO ad cI cJ cZ o σ u) H.size q → T'.heap[q]? = H[q]? := fun q h1 h2 => by rw [e1]; exact hk q h1 h2
    obtain ⟨t2, a1, b1⟩ := kk T'.heap (locs ++ L) (by rw [e1]; exact hp) (hAP.kept hP2 hk2)
      ⟨Nat.le_trans hS.1 (by rw [e1]; exact hz), fun q h1 h2 => by rw [e1, hk q (Nat.lt_of_lt_of_le h1 hS.1) (fun z => h2 (hF q z))]; exact hS.2.1 q h1 h2, fun q hq => by
        rcases List.mem_append.mp hq with h | h
        · exact hS.2.2 q h
        · exact hF _ (hL q h)⟩ T' rfl X'
    exact ⟨t2, st t2 a1, b1⟩
  · exact hx.elim
theorem LL.callC {As : List Value} {T : u_T} {N ci : Nat} {fs : List Value} {r : Int32} {b : Nat} (E : Cx p s m args c cc nL own x0 D (t3 cI cJ cZ)) (hM : CM l D (t3 cI cJ cZ) y cd nLy (some .int) lev (.ref b :: As) (wC ad cI cJ cZ σ) (some (.int r)) (wC ad cI cJ cZ σ1))
    (hl : Cond.methodLink own idx y ∈ G) (hi : Cond.instanceMethod y ∈ G) (hse : Cond.selects C y y ∈ G) (hin : Cond.initialized C ∈ G) (hco : Cond.code y cd nLy (some .int) ∈ G)
    (hd0 : y.cls = C ∧ y.cls ≠ "java/lang/invoke/MethodHandle" ∧ y.cls ≠ "java/lang/invoke/VarHandle" ∧ (parseMethodDescriptor y.desc).map (fun d => d.parameters.length) = some n)
    (hR : lev + 1 ≤ R.frames ∧ 8 + (nLy + 11) + 40 * lev ≤ R.locals) (hcs : cells ≤ R.cells ∧ slots ≤ R.slots) (q0 : Nat) (he : (wC ad cI cJ cZ σ)[q0]? = some (b, .inr (ci, fs))) (hc : vwCl[ci]? = some (C, T, N))
    (hP : va_P D vwCl (wO ad cI cJ cZ o σ u) H) (hP2 : va_P D vwCl (wR bd cI cJ cZ ρ) H) (hD : va_D A (wO ad cI cJ cZ o σ u)) (hAP : AP (wO ad cI cJ cZ o σ u) (wR bd cI cJ cZ ρ)) (hS : va_S A s.heap H locs) (hA : ∀ q : Nat, s.heap.size ≤ q → A q) (hn : As.length = n) (hsz : ls.size = nL) (hw : (rest.map fun v => v.category).sum ≤ 8) (hdg : decode cc pc = .ok (.invokevirtual idx, 3)) (hst : st0 = As.reverse ++ .ref b :: rest)
    (kk : ∀ (H1 : Heap) (locs1 : List Loc), va_P D vwCl (wO ad cI cJ cZ o σ1 u) H1 → va_P D vwCl (wR bd cI cJ cZ ρ) H1 → va_S A s.heap H1 locs1 → W p l e R s m args below meth c H1 locs1 cells slots Q (F0 m (pc + 3) ls (.int r :: rest))) : W p l e R s m args below meth c H locs cells slots Q (F0 m pc ls st0) :=
  CF.callV E hM hl hi hse hin hco hd0 hR hcs q0 he hc (blk_l hP) (blD_l hD) hS hA hn hsz hw hdg hst (fun H1 l1 h1 h2 hk => kk H1 l1 (h1.app ((AP.of hD).kept (blk_r hP) hk)) (hAP.l.kept hP2 hk) h2)
theorem LL.callR {As : List Value} {T : u_T} {N ci : Nat} {fs : List Value} {r : Int32} {b : Nat} (E : Cx p s m args c cc nL own x0 D (t3 cI cJ cZ)) (hM : CM l D (t3 cI cJ cZ) y cd nLy (some .int) lev (.ref b :: As) (wR bd cI cJ cZ ρ) (some (.int r)) (wR bd cI cJ cZ ρ1))
    (hl : Cond.methodLink own idx y ∈ G) (hi : Cond.instanceMethod y ∈ G) (hse : Cond.selects C y y ∈ G) (hin : Cond.initialized C ∈ G) (hco : Cond.code y cd nLy (some .int) ∈ G)
    (hd0 : y.cls = C ∧ y.cls ≠ "java/lang/invoke/MethodHandle" ∧ y.cls ≠ "java/lang/invoke/VarHandle" ∧ (parseMethodDescriptor y.desc).map (fun d => d.parameters.length) = some n)
    (hR : lev + 1 ≤ R.frames ∧ 8 + (nLy + 11) + 40 * lev ≤ R.locals) (hcs : cells ≤ R.cells ∧ slots ≤ R.slots) (q0 : Nat) (he : (wR bd cI cJ cZ ρ)[q0]? = some (b, .inr (ci, fs))) (hc : vwCl[ci]? = some (C, T, N))
    (hP : va_P D vwCl (wO ad cI cJ cZ o σ u) H) (hP2 : va_P D vwCl (wR bd cI cJ cZ ρ) H) (hD2 : va_D A (wR bd cI cJ cZ ρ)) (hAP : AP (wO ad cI cJ cZ o σ u) (wR bd cI cJ cZ ρ)) (hS : va_S A s.heap H locs) (hA : ∀ q : Nat, s.heap.size ≤ q → A q) (hn : As.length = n) (hsz : ls.size = nL) (hw : (rest.map fun v => v.category).sum ≤ 8) (hdg : decode cc pc = .ok (.invokevirtual idx, 3)) (hst : st0 = As.reverse ++ .ref b :: rest)
    (kk : ∀ (H1 : Heap) (locs1 : List Loc), va_P D vwCl (wO ad cI cJ cZ o σ u) H1 → va_P D vwCl (wR bd cI cJ cZ ρ1) H1 → va_S A s.heap H1 locs1 → W p l e R s m args below meth c H1 locs1 cells slots Q (F0 m (pc + 3) ls (.int r :: rest))) : W p l e R s m args below meth c H locs cells slots Q (F0 m pc ls st0) :=
  CF.callV E hM hl hi hse hin hco hd0 hR hcs q0 he hc hP2 hD2 hS hA hn hsz hw hdg hst (fun H1 l1 h1 h2 hk => kk H1 l1 (hAP.sym.kept hP hk) h1 h2)
theorem LL.sld {b L i : Nat} {xs : Nat → Int32} (E : Cx p s m args c cc nL own x0 D (t3 cI cJ cZ)) (hX : va_X b L xs s s.heap) (hbl : b < s.heap.size) (hbA : ¬ A b) (hS : va_S A s.heap H locs) (hi : i < L) (hL : L ≤ 3584) (hdg : decode cc pc = .ok (.iaload, 1))
    (kk : W p l e R s m args below meth c H locs cells slots Q (F0 m (pc + 1) ls (.int (xs i) :: rest))) : W p l e R s m args below meth c H locs cells slots Q (F0 m pc ls (.int (nI i) :: .ref b :: rest)) := by
  refine va_sld E.1.1 E.1.2.1 hX hbl hbA hS (vp_in_nI hi (by omega)) hdg ?_
  rw [nI_clamp (by omega)]
  exact kk
theorem LL.lald (E : Cx p s m args c cc nL own x0 D (t3 cI cJ cZ)) (hP : va_P D vwCl (wO ad cI cJ cZ o σ u) H) (hdg : decode cc pc = .ok (.laload, 1))
    (kk : W p l e R s m args below meth c H locs cells slots Q (F0 m (pc + 1) ls (.long u :: rest))) : W p l e R s m args below meth c H locs cells slots Q (F0 m pc ls (.int (nI 0) :: .ref o :: rest)) :=
  va_lald E.1.1 E.1.2.1 E.2 hP 20 1 rfl rfl (vp_in_nI (by decide) (by decide)) hdg kk
theorem wO_AP {c c' : CS} {v v' : Int64} {r r' : MS} (h : AP (wO ad cI cJ cZ o c v) (wR bd cI cJ cZ r)) : AP (wO ad cI cJ cZ o c' v') (wR bd cI cJ cZ r') := AP.addr h rfl rfl
theorem wR_D2 {r r' : MS} (h : va_D A (wR bd cI cJ cZ r)) : va_D A (wR bd cI cJ cZ r') := va_D_addr (ws := wR bd cI cJ cZ r) rfl h
end LAWB
