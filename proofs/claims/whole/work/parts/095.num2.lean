theorem nI_and (a b : Nat) : nI a &&& nI b = nI (a &&& b) := by
  apply Int32.toBitVec_inj.1
  show BitVec.ofNat 32 a &&& BitVec.ofNat 32 b = BitVec.ofNat 32 (a &&& b)
  apply BitVec.eq_of_getLsbD_eq
  intro i hi
  simp [hi]
theorem nI_or (a b : Nat) : nI a ||| nI b = nI (a ||| b) := by
  apply Int32.toBitVec_inj.1
  show BitVec.ofNat 32 a ||| BitVec.ofNat 32 b = BitVec.ofNat 32 (a ||| b)
  apply BitVec.eq_of_getLsbD_eq
  intro i hi
  simp [hi]
theorem s_lq : ∀ n, n < 32 → ((nI n &&& 31).toBitVec.smod 32).toNat = n := by decide +kernel
theorem s_uq : ∀ n, n < 32 → (((nI n).toUInt32 &&& Int32.toUInt32 31).toBitVec % 32).toNat = n := by decide +kernel
theorem nI_shl (a : Nat) {k : Nat} (hk : k < 32) : nI a <<< (nI k &&& 31) = nI (a <<< k) := by
  apply Int32.toBitVec_inj.mp
  apply BitVec.eq_of_toNat_eq
  rw [pk_shl _ _ k (s_lq k hk)]
  show (a % 2 ^ 32) * 2 ^ k % 2 ^ 32 = (a <<< k) % 2 ^ 32
  rw [Nat.shiftLeft_eq, Nat.mod_mul_mod]
theorem nI_ushr {a k : Nat} (ha : a < 4294967296) (hk : k < 32) : ((nI a).toUInt32 >>> ((nI k).toUInt32 &&& Int32.toUInt32 31)).toInt32 = nI (a >>> k) := by
  rw [pk_ushrN ha _ k (s_uq k hk), Nat.shiftRight_eq_div_pow]
theorem testBit_and1 (m n : Nat) : ((m >>> n) &&& 1 = 0) ↔ m.testBit n = false := by
  unfold Nat.testBit
  rw [Nat.and_comm]
  simp
section NV2
variable {p : Program} {l : Launch} {e : Env} {R : Room} {s : State} {m : MethodId} {args : Array Value} {below : List Frame} {meth : Method} {c : Code} {H : Heap} {locs : List Loc} {cells slots : Nat} {Q : State → Prop}
variable {cc : ByteArray} {nL pc : Nat} {own : String} {x0 : Cond} {D : va_G} {tys : List (ClassId × FieldType)} {ls : Array Slot} {rest : List Value} {off : Int} {tgt a b : Nat}
theorem nv_iand (E : Cx p s m args c cc nL own x0 D tys) (hd : decode cc pc = .ok (.iand, 1)) (k : W p l e R s m args below meth c H locs cells slots Q (F0 m (pc + 1) ls (.int (nI (a &&& b)) :: rest))) : W p l e R s m args below meth c H locs cells slots Q (F0 m pc ls (.int (nI b) :: .int (nI a) :: rest)) := by
  refine lv_iand E.1.1 E.1.2.1 hd ?_
  rw [nI_and]
  exact k
theorem nv_ior (E : Cx p s m args c cc nL own x0 D tys) (hd : decode cc pc = .ok (.ior, 1)) (k : W p l e R s m args below meth c H locs cells slots Q (F0 m (pc + 1) ls (.int (nI (a ||| b)) :: rest))) : W p l e R s m args below meth c H locs cells slots Q (F0 m pc ls (.int (nI b) :: .int (nI a) :: rest)) := by
  refine lv_ior E.1.1 E.1.2.1 hd ?_
  rw [nI_or]
  exact k
theorem nv_ishl (hb : b < 32) (E : Cx p s m args c cc nL own x0 D tys) (hd : decode cc pc = .ok (.ishl, 1)) (k : W p l e R s m args below meth c H locs cells slots Q (F0 m (pc + 1) ls (.int (nI (a <<< b)) :: rest))) : W p l e R s m args below meth c H locs cells slots Q (F0 m pc ls (.int (nI b) :: .int (nI a) :: rest)) := by
  refine lv_ishl E.1.1 E.1.2.1 hd ?_
  rw [nI_shl a hb]
  exact k
theorem nv_iushr (ha : a < 4294967296) (hb : b < 32) (E : Cx p s m args c cc nL own x0 D tys) (hd : decode cc pc = .ok (.iushr, 1)) (k : W p l e R s m args below meth c H locs cells slots Q (F0 m (pc + 1) ls (.int (nI (a >>> b)) :: rest))) : W p l e R s m args below meth c H locs cells slots Q (F0 m pc ls (.int (nI b) :: .int (nI a) :: rest)) :=
  lv_iushr E.1.1 E.1.2.1 hd (nI_ushr ha hb) k
end NV2
theorem sw12 (k : Int32) : k = nI 0 ∨ k = nI 1 ∨ k = nI 2 ∨ k = nI 3 ∨ k = nI 4 ∨ k = nI 5 ∨ k = nI 6 ∨ k = nI 7 ∨ k = nI 8 ∨ k = nI 9 ∨ k = nI 10 ∨ k = nI 11 ∨ (k.toInt < 0 ∨ 11 < k.toInt) := by
  by_cases h : k.toInt < 0 ∨ 11 < k.toInt
  · exact Or.inr (Or.inr (Or.inr (Or.inr (Or.inr (Or.inr (Or.inr (Or.inr (Or.inr (Or.inr (Or.inr (Or.inr h)))))))))))
  · obtain ⟨j, hj, rfl⟩ := vp_in_of (x := k) (n := 12) (vp_in_iff.mpr (by omega)) (by decide)
    have h2 : j = 0 ∨ j = 1 ∨ j = 2 ∨ j = 3 ∨ j = 4 ∨ j = 5 ∨ j = 6 ∨ j = 7 ∨ j = 8 ∨ j = 9 ∨ j = 10 ∨ j = 11 := by omega
    rcases h2 with rfl | rfl | rfl | rfl | rfl | rfl | rfl | rfl | rfl | rfl | rfl | rfl <;> simp
theorem sw_out {k : Int32} (h : k.toInt < 0 ∨ 11 < k.toInt) {j : Nat} (hj : j < 12) : ¬ k = nI j := fun e => by
  have h1 : k.toInt = (nI j).toInt := congrArg Int32.toInt e
  rw [nI_toInt (by omega)] at h1
  omega
