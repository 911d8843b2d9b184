theorem oI_m1 {o : Option Nat} (h : ∀ k, o = some k → k < 2147483648) : oI o = -1 ↔ o = none := by
  cases o with
  | none => exact ⟨fun _ => rfl, fun _ => rfl⟩
  | some k =>
    refine ⟨fun e => ?_, fun e => by cases e⟩
    have h1 := h k rfl
    have h2 : (nI k).toInt = (-1 : Int32).toInt := congrArg Int32.toInt e
    rw [nI_toInt (by omega)] at h2
    have h3 : (-1 : Int32).toInt = -1 := by decide
    omega
section NV
variable {p : Program} {l : Launch} {e : Env} {R : Room} {s : State} {m : MethodId} {args : Array Value} {below : List Frame} {meth : Method} {c : Code} {H : Heap} {locs : List Loc} {cells slots : Nat} {Q : State → Prop}
variable {cc : ByteArray} {nL pc : Nat} {own : String} {x0 : Cond} {D : va_G} {tys : List (ClassId × FieldType)} {ls : Array Slot} {rest : List Value} {off : Int} {tgt a b : Nat}
theorem tpi {x y : Int32} (h : x = y) (k : W p l e R s m args below meth c H locs cells slots Q (F0 m pc ls (.int y :: rest))) : W p l e R s m args below meth c H locs cells slots Q (F0 m pc ls (.int x :: rest)) := h ▸ k
theorem tpl {x y : Int64} (h : x = y) (k : W p l e R s m args below meth c H locs cells slots Q (F0 m pc ls (.long y :: rest))) : W p l e R s m args below meth c H locs cells slots Q (F0 m pc ls (.long x :: rest)) := h ▸ k
theorem nv_iadd (E : Cx p s m args c cc nL own x0 D tys) (hd : decode cc pc = .ok (.iadd, 1)) (k : W p l e R s m args below meth c H locs cells slots Q (F0 m (pc + 1) ls (.int (nI (a + b)) :: rest))) : W p l e R s m args below meth c H locs cells slots Q (F0 m pc ls (.int (nI b) :: .int (nI a) :: rest)) := by
  refine lv_iadd E.1.1 E.1.2.1 hd ?_
  rw [nI_add]
  exact k
theorem nv_isub (h : b ≤ a) (E : Cx p s m args c cc nL own x0 D tys) (hd : decode cc pc = .ok (.isub, 1)) (k : W p l e R s m args below meth c H locs cells slots Q (F0 m (pc + 1) ls (.int (nI (a - b)) :: rest))) : W p l e R s m args below meth c H locs cells slots Q (F0 m pc ls (.int (nI b) :: .int (nI a) :: rest)) := by
  refine lv_isub E.1.1 E.1.2.1 hd ?_
  rw [pk_sub h]
  exact k
theorem nv_imul (E : Cx p s m args c cc nL own x0 D tys) (hd : decode cc pc = .ok (.imul, 1)) (k : W p l e R s m args below meth c H locs cells slots Q (F0 m (pc + 1) ls (.int (nI (a * b)) :: rest))) : W p l e R s m args below meth c H locs cells slots Q (F0 m pc ls (.int (nI b) :: .int (nI a) :: rest)) := by
  refine lv_imul E.1.1 E.1.2.1 hd ?_
  rw [pk_mul]
  exact k
theorem nv_icmp_eq (ha : a < 2147483648) (hb : b < 2147483648) (E : Cx p s m args c cc nL own x0 D tys) (hd : decode cc pc = .ok (.if_icmp .eq off, 3)) (ht : (pc : Int) + off = (tgt : Int)) (kt : a = b → W p l e R s m args below meth c H locs cells slots Q (F0 m tgt ls rest)) (kf : a ≠ b → W p l e R s m args below meth c H locs cells slots Q (F0 m (pc + 3) ls rest)) : W p l e R s m args below meth c H locs cells slots Q (F0 m pc ls (.int (nI b) :: .int (nI a) :: rest)) :=
  lv_icmp_eq E.1.1 E.1.2.1 hd ht (fun h => kt ((nI_eq ha hb).mp h)) (fun h => kf (fun z => h ((nI_eq ha hb).mpr z)))
theorem nv_icmp_ne (ha : a < 2147483648) (hb : b < 2147483648) (E : Cx p s m args c cc nL own x0 D tys) (hd : decode cc pc = .ok (.if_icmp .ne off, 3)) (ht : (pc : Int) + off = (tgt : Int)) (kt : a ≠ b → W p l e R s m args below meth c H locs cells slots Q (F0 m tgt ls rest)) (kf : a = b → W p l e R s m args below meth c H locs cells slots Q (F0 m (pc + 3) ls rest)) : W p l e R s m args below meth c H locs cells slots Q (F0 m pc ls (.int (nI b) :: .int (nI a) :: rest)) :=
  lv_icmp_ne E.1.1 E.1.2.1 hd ht (fun h => kt (fun z => h ((nI_eq ha hb).mpr z))) (fun h => kf ((nI_eq ha hb).mp h))
theorem nv_icmp_lt (ha : a < 2147483648) (hb : b < 2147483648) (E : Cx p s m args c cc nL own x0 D tys) (hd : decode cc pc = .ok (.if_icmp .lt off, 3)) (ht : (pc : Int) + off = (tgt : Int)) (kt : a < b → W p l e R s m args below meth c H locs cells slots Q (F0 m tgt ls rest)) (kf : b ≤ a → W p l e R s m args below meth c H locs cells slots Q (F0 m (pc + 3) ls rest)) : W p l e R s m args below meth c H locs cells slots Q (F0 m pc ls (.int (nI b) :: .int (nI a) :: rest)) :=
  lv_icmp_lt E.1.1 E.1.2.1 hd ht (fun h => kt ((nI_ltI ha hb).mp h)) (fun h => kf (Nat.le_of_not_lt fun z => h ((nI_ltI ha hb).mpr z)))
theorem nv_icmp_ge (ha : a < 2147483648) (hb : b < 2147483648) (E : Cx p s m args c cc nL own x0 D tys) (hd : decode cc pc = .ok (.if_icmp .ge off, 3)) (ht : (pc : Int) + off = (tgt : Int)) (kt : b ≤ a → W p l e R s m args below meth c H locs cells slots Q (F0 m tgt ls rest)) (kf : a < b → W p l e R s m args below meth c H locs cells slots Q (F0 m (pc + 3) ls rest)) : W p l e R s m args below meth c H locs cells slots Q (F0 m pc ls (.int (nI b) :: .int (nI a) :: rest)) :=
  lv_icmp_ge E.1.1 E.1.2.1 hd ht (fun h => kt ((nI_leI hb ha).mp h)) (fun h => kf (Nat.lt_of_not_le fun z => h ((nI_leI hb ha).mpr z)))
theorem nv_icmp_gt (ha : a < 2147483648) (hb : b < 2147483648) (E : Cx p s m args c cc nL own x0 D tys) (hd : decode cc pc = .ok (.if_icmp .gt off, 3)) (ht : (pc : Int) + off = (tgt : Int)) (kt : b < a → W p l e R s m args below meth c H locs cells slots Q (F0 m tgt ls rest)) (kf : a ≤ b → W p l e R s m args below meth c H locs cells slots Q (F0 m (pc + 3) ls rest)) : W p l e R s m args below meth c H locs cells slots Q (F0 m pc ls (.int (nI b) :: .int (nI a) :: rest)) :=
  lv_icmp_gt E.1.1 E.1.2.1 hd ht (fun h => kt ((nI_ltI hb ha).mp h)) (fun h => kf (Nat.le_of_not_lt fun z => h ((nI_ltI hb ha).mpr z)))
theorem nv_icmp_le (ha : a < 2147483648) (hb : b < 2147483648) (E : Cx p s m args c cc nL own x0 D tys) (hd : decode cc pc = .ok (.if_icmp .le off, 3)) (ht : (pc : Int) + off = (tgt : Int)) (kt : a ≤ b → W p l e R s m args below meth c H locs cells slots Q (F0 m tgt ls rest)) (kf : b < a → W p l e R s m args below meth c H locs cells slots Q (F0 m (pc + 3) ls rest)) : W p l e R s m args below meth c H locs cells slots Q (F0 m pc ls (.int (nI b) :: .int (nI a) :: rest)) :=
  lv_icmp_le E.1.1 E.1.2.1 hd ht (fun h => kt ((nI_leI ha hb).mp h)) (fun h => kf (Nat.lt_of_not_le fun z => h ((nI_leI ha hb).mpr z)))
theorem nI_z {n : Nat} (h : n < 2147483648) : nI n = 0 ↔ n = 0 := by
  rw [← nI_0]
  exact nI_eq h (by decide)
theorem nv_if_eq (ha : a < 2147483648) (E : Cx p s m args c cc nL own x0 D tys) (hd : decode cc pc = .ok (.ifCond .eq off, 3)) (ht : (pc : Int) + off = (tgt : Int)) (kt : a = 0 → W p l e R s m args below meth c H locs cells slots Q (F0 m tgt ls rest)) (kf : 0 < a → W p l e R s m args below meth c H locs cells slots Q (F0 m (pc + 3) ls rest)) : W p l e R s m args below meth c H locs cells slots Q (F0 m pc ls (.int (nI a) :: rest)) :=
  lv_if_eq E.1.1 E.1.2.1 hd ht (fun h => kt ((nI_z ha).mp h)) (fun h => kf (Nat.pos_of_ne_zero fun z => h ((nI_z ha).mpr z)))
theorem nv_if_ne (ha : a < 2147483648) (E : Cx p s m args c cc nL own x0 D tys) (hd : decode cc pc = .ok (.ifCond .ne off, 3)) (ht : (pc : Int) + off = (tgt : Int)) (kt : 0 < a → W p l e R s m args below meth c H locs cells slots Q (F0 m tgt ls rest)) (kf : a = 0 → W p l e R s m args below meth c H locs cells slots Q (F0 m (pc + 3) ls rest)) : W p l e R s m args below meth c H locs cells slots Q (F0 m pc ls (.int (nI a) :: rest)) :=
  lv_if_ne E.1.1 E.1.2.1 hd ht (fun h => kt (Nat.pos_of_ne_zero fun z => h ((nI_z ha).mpr z))) (fun h => kf ((nI_z ha).mp h))
theorem nI_le0 {n : Nat} (h : n < 2147483648) : nI n ≤ 0 ↔ n = 0 := by
  have h1 := nI_leI (a := n) (b := 0) h (by decide)
  rw [nI_0] at h1
  rw [h1]
  omega
theorem nI_gt0 {n : Nat} (h : n < 2147483648) : 0 < nI n ↔ 0 < n := by
  have h1 := nI_ltI (a := 0) (b := n) (by decide) h
  rw [nI_0] at h1
  exact h1
theorem nv_if_le (ha : a < 2147483648) (E : Cx p s m args c cc nL own x0 D tys) (hd : decode cc pc = .ok (.ifCond .le off, 3)) (ht : (pc : Int) + off = (tgt : Int)) (kt : a = 0 → W p l e R s m args below meth c H locs cells slots Q (F0 m tgt ls rest)) (kf : 0 < a → W p l e R s m args below meth c H locs cells slots Q (F0 m (pc + 3) ls rest)) : W p l e R s m args below meth c H locs cells slots Q (F0 m pc ls (.int (nI a) :: rest)) :=
  lv_if_le E.1.1 E.1.2.1 hd ht (fun h => kt ((nI_le0 ha).mp h)) (fun h => kf (Nat.pos_of_ne_zero fun z => h ((nI_le0 ha).mpr z)))
theorem nv_if_gt (ha : a < 2147483648) (E : Cx p s m args c cc nL own x0 D tys) (hd : decode cc pc = .ok (.ifCond .gt off, 3)) (ht : (pc : Int) + off = (tgt : Int)) (kt : 0 < a → W p l e R s m args below meth c H locs cells slots Q (F0 m tgt ls rest)) (kf : a = 0 → W p l e R s m args below meth c H locs cells slots Q (F0 m (pc + 3) ls rest)) : W p l e R s m args below meth c H locs cells slots Q (F0 m pc ls (.int (nI a) :: rest)) :=
  lv_if_gt E.1.1 E.1.2.1 hd ht (fun h => kt ((nI_gt0 ha).mp h)) (fun h => kf (Nat.eq_zero_of_not_pos fun z => h ((nI_gt0 ha).mpr z)))
theorem nv_if_lt (ha : a < 2147483648) (E : Cx p s m args c cc nL own x0 D tys) (hd : decode cc pc = .ok (.ifCond .lt off, 3)) (ht : (pc : Int) + off = (tgt : Int)) (kf : W p l e R s m args below meth c H locs cells slots Q (F0 m (pc + 3) ls rest)) : W p l e R s m args below meth c H locs cells slots Q (F0 m pc ls (.int (nI a) :: rest)) :=
  lv_if_lt E.1.1 E.1.2.1 hd ht (fun h => absurd h (nI_pos ha)) (fun _ => kf)
theorem nv_if_ge (ha : a < 2147483648) (E : Cx p s m args c cc nL own x0 D tys) (hd : decode cc pc = .ok (.ifCond .ge off, 3)) (ht : (pc : Int) + off = (tgt : Int)) (kt : W p l e R s m args below meth c H locs cells slots Q (F0 m tgt ls rest)) : W p l e R s m args below meth c H locs cells slots Q (F0 m pc ls (.int (nI a) :: rest)) :=
  lv_if_ge E.1.1 E.1.2.1 hd ht (fun _ => kt) (fun h => absurd (nI_pos' ha) h)
theorem bv_if_eq {x : Bool} (E : Cx p s m args c cc nL own x0 D tys) (hd : decode cc pc = .ok (.ifCond .eq off, 3)) (ht : (pc : Int) + off = (tgt : Int)) (kt : x = false → W p l e R s m args below meth c H locs cells slots Q (F0 m tgt ls rest)) (kf : x = true → W p l e R s m args below meth c H locs cells slots Q (F0 m (pc + 3) ls rest)) : W p l e R s m args below meth c H locs cells slots Q (F0 m pc ls (.int (bI x) :: rest)) :=
  lv_if_eq E.1.1 E.1.2.1 hd ht (fun h => kt (by cases x with | false => rfl | true => exact absurd h (by decide))) (fun h => kf (by cases x with | true => rfl | false => exact absurd rfl h))
theorem bv_if_ne {x : Bool} (E : Cx p s m args c cc nL own x0 D tys) (hd : decode cc pc = .ok (.ifCond .ne off, 3)) (ht : (pc : Int) + off = (tgt : Int)) (kt : x = true → W p l e R s m args below meth c H locs cells slots Q (F0 m tgt ls rest)) (kf : x = false → W p l e R s m args below meth c H locs cells slots Q (F0 m (pc + 3) ls rest)) : W p l e R s m args below meth c H locs cells slots Q (F0 m pc ls (.int (bI x) :: rest)) :=
  lv_if_ne E.1.1 E.1.2.1 hd ht (fun h => kt (by cases x with | true => rfl | false => exact absurd rfl h)) (fun h => kf (by cases x with | false => rfl | true => exact absurd h (by decide)))
theorem ov_m1_eq {o : Option Nat} (ho : ∀ k, o = some k → k < 2147483648) (E : Cx p s m args c cc nL own x0 D tys) (hd : decode cc pc = .ok (.if_icmp .eq off, 3)) (ht : (pc : Int) + off = (tgt : Int)) (kt : o = none → W p l e R s m args below meth c H locs cells slots Q (F0 m tgt ls rest)) (kf : ∀ k, o = some k → W p l e R s m args below meth c H locs cells slots Q (F0 m (pc + 3) ls rest)) : W p l e R s m args below meth c H locs cells slots Q (F0 m pc ls (.int (-1) :: .int (oI o) :: rest)) :=
  lv_icmp_eq E.1.1 E.1.2.1 hd ht (fun h => kt ((oI_m1 ho).mp h)) (fun h => by
    cases o with
    | none => exact absurd rfl h
    | some k => exact kf k rfl)
theorem ov_m1_ne {o : Option Nat} (ho : ∀ k, o = some k → k < 2147483648) (E : Cx p s m args c cc nL own x0 D tys) (hd : decode cc pc = .ok (.if_icmp .ne off, 3)) (ht : (pc : Int) + off = (tgt : Int)) (kt : ∀ k, o = some k → W p l e R s m args below meth c H locs cells slots Q (F0 m tgt ls rest)) (kf : o = none → W p l e R s m args below meth c H locs cells slots Q (F0 m (pc + 3) ls rest)) : W p l e R s m args below meth c H locs cells slots Q (F0 m pc ls (.int (-1) :: .int (oI o) :: rest)) :=
  lv_icmp_ne E.1.1 E.1.2.1 hd ht (fun h => by
    cases o with
    | none => exact absurd rfl h
    | some k => exact kt k rfl) (fun h => kf ((oI_m1 ho).mp h))
theorem ov_lt0 {o : Option Nat} (ho : ∀ k, o = some k → k < 2147483648) (E : Cx p s m args c cc nL own x0 D tys) (hd : decode cc pc = .ok (.ifCond .lt off, 3)) (ht : (pc : Int) + off = (tgt : Int)) (kt : o = none → W p l e R s m args below meth c H locs cells slots Q (F0 m tgt ls rest)) (kf : ∀ k, o = some k → W p l e R s m args below meth c H locs cells slots Q (F0 m (pc + 3) ls rest)) : W p l e R s m args below meth c H locs cells slots Q (F0 m pc ls (.int (oI o) :: rest)) := by
  cases o with
  | none => exact lv_if_lt E.1.1 E.1.2.1 hd ht (fun _ => kt rfl) (fun h => absurd (by decide : (-1 : Int32) < 0) h)
  | some k => exact lv_if_lt E.1.1 E.1.2.1 hd ht (fun h => absurd h (nI_pos (ho k rfl))) (fun _ => kf k rfl)
theorem ov_ge0 {o : Option Nat} (ho : ∀ k, o = some k → k < 2147483648) (E : Cx p s m args c cc nL own x0 D tys) (hd : decode cc pc = .ok (.ifCond .ge off, 3)) (ht : (pc : Int) + off = (tgt : Int)) (kt : ∀ k, o = some k → W p l e R s m args below meth c H locs cells slots Q (F0 m tgt ls rest)) (kf : o = none → W p l e R s m args below meth c H locs cells slots Q (F0 m (pc + 3) ls rest)) : W p l e R s m args below meth c H locs cells slots Q (F0 m pc ls (.int (oI o) :: rest)) := by
  cases o with
  | none => exact lv_if_ge E.1.1 E.1.2.1 hd ht (fun h => absurd h (by decide)) (fun _ => kf rfl)
  | some k => exact lv_if_ge E.1.1 E.1.2.1 hd ht (fun _ => kt k rfl) (fun h => absurd (nI_pos' (ho k rfl)) h)
end NV
