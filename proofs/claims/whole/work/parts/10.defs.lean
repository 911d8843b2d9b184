/-! pure words of the class's methods -/
def isW (v b : Int32) : Bool := !decide (v < 0) && !decide (b ≤ v)
def tgtF (P : Nat → Option Nat) (L : Nat → Nat) (q : Nat) : Nat → Option Nat → Option Nat
  | 0, _ => none
  | _ + 1, none => none
  | f + 1, some a => if 0 < L (a * 4 + q) then some (a * 4 + q) else tgtF P L q f (P a)
def isF (P : Nat → Option Nat) (o : Nat) : Nat → Option Nat → Bool
  | 0, _ => false
  | _ + 1, none => false
  | f + 1, some a => if a = o then true else isF P o f (P a)
def allF (f : Nat → Bool) : Nat → Nat → Bool
  | 0, _ => true
  | n + 1, k => f k && allF f n (k + 1)
def fitF (L K : Nat → Nat) (b : Nat) : Bool := decide (L b ≤ 3) && allF (fun k => decide (K (b * 10 + k) ≠ 7) && decide (K (b * 10 + k) ≠ 9)) (L b) 0
def wfK (k y z : Int32) : Bool := if k = nI 0 then true else if k = nI 1 then isW y (nI 6) else if k = nI 2 then isW y (nI 6) && isW z (nI 6) else if k = nI 3 then isW y (nI 6) && isW z (nI 6) else if k = nI 4 then isW y (nI 6) else if k = nI 5 then isW y (nI 6) && isW z (nI 3) else if k = nI 6 then isW y (nI 6) && isW z (nI 3) else if k = nI 7 then isW y (nI 6) && isW z (nI 4) else if k = nI 8 then true else if k = nI 9 then isW y (nI 10) else if k = nI 10 then isW y (nI 6) else if k = nI 11 then true else false
def wfF (k x y z : Int32) : Bool := isW x (nI 6) && wfK k y z
theorem wfK_out {k y z : Int32} (h : k.toInt < 0 ∨ 11 < k.toInt) : wfK k y z = false := by
  unfold wfK
  rw [if_neg (sw_out h (by decide)), if_neg (sw_out h (by decide)), if_neg (sw_out h (by decide)), if_neg (sw_out h (by decide)), if_neg (sw_out h (by decide)), if_neg (sw_out h (by decide)), if_neg (sw_out h (by decide)), if_neg (sw_out h (by decide)), if_neg (sw_out h (by decide)), if_neg (sw_out h (by decide)), if_neg (sw_out h (by decide)), if_neg (sw_out h (by decide))]
theorem wfK_0 (y z : Int32) : wfK (nI 0) y z = true := rfl
theorem wfK_1 (y z : Int32) : wfK (nI 1) y z = isW y (nI 6) := rfl
theorem wfK_2 (y z : Int32) : wfK (nI 2) y z = (isW y (nI 6) && isW z (nI 6)) := rfl
theorem wfK_3 (y z : Int32) : wfK (nI 3) y z = (isW y (nI 6) && isW z (nI 6)) := rfl
theorem wfK_4 (y z : Int32) : wfK (nI 4) y z = isW y (nI 6) := rfl
theorem wfK_5 (y z : Int32) : wfK (nI 5) y z = (isW y (nI 6) && isW z (nI 3)) := rfl
theorem wfK_6 (y z : Int32) : wfK (nI 6) y z = (isW y (nI 6) && isW z (nI 3)) := rfl
theorem wfK_7 (y z : Int32) : wfK (nI 7) y z = (isW y (nI 6) && isW z (nI 4)) := rfl
theorem wfK_8 (y z : Int32) : wfK (nI 8) y z = true := rfl
theorem wfK_9 (y z : Int32) : wfK (nI 9) y z = isW y (nI 10) := rfl
theorem wfK_10 (y z : Int32) : wfK (nI 10) y z = isW y (nI 6) := rfl
theorem wfK_11 (y z : Int32) : wfK (nI 11) y z = true := rfl
def yN (σ : CS) (p : Nat) : Nat := (gcY σ p).toNatClampNeg
def zN (σ : CS) (p : Nat) : Nat := (gcZ σ p).toNatClampNeg
/-- the numbers that an operation names are such as its kind takes -/
def WI (σ : CS) : Prop := ∀ p, wfK (nI (gcK σ p)) (gcY σ p) (gcZ σ p) = true
theorem isW_n {v : Int32} {n : Nat} (hn : n < 2147483648) (h : isW v (nI n) = true) : v = nI v.toNatClampNeg ∧ v.toNatClampNeg < n := by
  simp only [isW, Bool.and_eq_true, Bool.not_eq_true', decide_eq_false_iff_not] at h
  obtain ⟨j, hj, rfl⟩ := nI_of h.1
  rw [nI_clamp hj]
  exact ⟨rfl, Nat.lt_of_not_le fun q => h.2 (nI_le q hj)⟩
theorem WI_y {σ : CS} (h : WI σ) {p : Nat} (hk : gcK σ p = 1 ∨ gcK σ p = 2 ∨ gcK σ p = 3 ∨ gcK σ p = 4 ∨ gcK σ p = 5 ∨ gcK σ p = 6 ∨ gcK σ p = 7 ∨ gcK σ p = 10) : gcY σ p = nI (yN σ p) ∧ yN σ p < 6 := by
  have h1 := h p
  refine isW_n (by decide) ?_
  rcases hk with e | e | e | e | e | e | e | e <;> rw [e] at h1
  · exact h1
  · rw [wfK_2, Bool.and_eq_true] at h1; exact h1.1
  · rw [wfK_3, Bool.and_eq_true] at h1; exact h1.1
  · exact h1
  · rw [wfK_5, Bool.and_eq_true] at h1; exact h1.1
  · rw [wfK_6, Bool.and_eq_true] at h1; exact h1.1
  · rw [wfK_7, Bool.and_eq_true] at h1; exact h1.1
  · exact h1
theorem WI_y9 {σ : CS} (h : WI σ) {p : Nat} (hk : gcK σ p = 9) : gcY σ p = nI (yN σ p) ∧ yN σ p < 10 := by
  have h1 := h p
  rw [hk, wfK_9] at h1
  exact isW_n (by decide) h1
theorem WI_z6 {σ : CS} (h : WI σ) {p : Nat} (hk : gcK σ p = 2 ∨ gcK σ p = 3) : gcZ σ p = nI (zN σ p) ∧ zN σ p < 6 := by
  have h1 := h p
  refine isW_n (by decide) ?_
  rcases hk with e | e <;> rw [e] at h1
  · rw [wfK_2, Bool.and_eq_true] at h1; exact h1.2
  · rw [wfK_3, Bool.and_eq_true] at h1; exact h1.2
theorem WI_z3 {σ : CS} (h : WI σ) {p : Nat} (hk : gcK σ p = 5 ∨ gcK σ p = 6) : gcZ σ p = nI (zN σ p) ∧ zN σ p < 3 := by
  have h1 := h p
  refine isW_n (by decide) ?_
  rcases hk with e | e <;> rw [e] at h1
  · rw [wfK_5, Bool.and_eq_true] at h1; exact h1.2
  · rw [wfK_6, Bool.and_eq_true] at h1; exact h1.2
theorem WI_z4 {σ : CS} (h : WI σ) {p : Nat} (hk : gcK σ p = 7) : gcZ σ p = nI (zN σ p) ∧ zN σ p < 4 := by
  have h1 := h p
  rw [hk, wfK_7, Bool.and_eq_true] at h1
  exact isW_n (by decide) h1.2
/-- a loop that counts: n turns more, from k -/
def itN {α : Type} (f : Nat → α → α) : Nat → Nat → α → α
  | 0, _, x => x
  | n + 1, k, x => itN f n (k + 1) (f k x)
/-- what holds of the program's rows in every state -/
def PI (σ : CS) : Prop := (∀ i k, gcP σ i = some k → k < 6) ∧ (∀ i, gcL σ i ≤ 10) ∧ (∀ i, gcK σ i < 12) ∧ (∀ i, gcX σ i < 6) ∧ gcn σ ≤ 6
theorem er_t {b : Bool} (h : b = true) : some (Value.int (bI b)) = some (Value.int (nI 1)) := by subst h; rfl
theorem er_f {b : Bool} (h : b = false) : some (Value.int (bI b)) = some (Value.int (nI 0)) := by subst h; rfl
