/-! pure words of the reference's methods -/
def ouF (v lo hi : Int32) : Bool := decide (v < lo) || !decide (v ≤ hi)
theorem n_succ_le {n : Nat} (hn : n < 2147483647) (v : Int32) : nI (n + 1) ≤ v ↔ nI n < v := by
  rw [Int32.le_iff_toInt_le, Int32.lt_iff_toInt_lt, nI_toInt (by omega), nI_toInt (by omega)]
  omega
theorem ou_isW {n : Nat} (hn : n < 2147483647) (v : Int32) : ouF v (nI 0) (nI n) = !isW v (nI (n + 1)) := by
  unfold ouF isW
  have h1 : (nI (n + 1) ≤ v) ↔ ¬ (v ≤ nI n) := by
    rw [n_succ_le hn, Int32.not_le]
  by_cases h2 : v ≤ nI n
  · have h3 : ¬ nI (n + 1) ≤ v := fun z => (h1.mp z) h2
    rw [nI_0]
    simp [h2, h3]
  · have h3 : nI (n + 1) ≤ v := h1.mpr h2
    simp [h2, h3]
def thF (a b : Bool) : Nat := if a = true then 1 else if b = true then 2 else 0
def mtgF (P : Nat → Option Nat) (L : Nat → Nat) (q : Nat) : Nat → Option Nat → Option Nat
  | 0, _ => none
  | _ + 1, none => none
  | f + 1, some a => if 0 < L (4 * a + q) then some (4 * a + q) else mtgF P L q f (P a)
theorem mtg_tgt (P : Nat → Option Nat) (L : Nat → Nat) (q : Nat) : ∀ (f : Nat) (o : Option Nat), mtgF P L q f o = tgtF P L q f o := by
  intro f
  induction f with
  | zero => intro o; cases o <;> rfl
  | succ f ih =>
    intro o
    cases o with
    | none => rfl
    | some a =>
      unfold mtgF tgtF
      rw [ih, Nat.mul_comm 4 a]
def tgM (σ : MS) (t q : Nat) : Option Nat := mtgF (gmpa σ) (gmmy σ) q 6 (if t < gmty σ then some t else none)
/-- what holds of the reference's program in every state -/
def QI (σ : MS) : Prop := (∀ i k, gmpa σ i = some k → k < i) ∧ (∀ i, gmmy σ i ≤ 10) ∧ (0 < gmty σ ∧ gmty σ ≤ 6)
def misF (P : Nat → Option Nat) (n o : Nat) : Nat → Option Nat → Bool
  | 0, _ => false
  | _ + 1, none => false
  | f + 1, some a => if a = o then true else misF P n o f (if a < n then P a else none)
def siF (σ : MS) (b k : Nat) : Nat := if gmrd σ b = true ∧ gmch σ b = false then gmsi σ (10 * b + k) else 0
def seF (i : Nat) (b : Bool) (v : Int32) (σ : MS) : MS := smva (smis σ (va_up (gmis σ) i b)) (va_up (gmva σ) i v)
def awF (b : Bool) (v : Int32) (σ : MS) : MS := if gmfr σ - 1 = 0 then smfr σ (gmfr σ - 1) else seF (6 * (gmfr σ - 1 - 1) + gmwa σ (gmfr σ - 1)) b v (smfr σ (gmfr σ - 1))
theorem wfK_no {k y z : Int32} (h : ouF k (nI 0) (nI 11) = true) : wfK k y z = false := by
  refine wfK_out ?_
  rw [ouF, Bool.or_eq_true, decide_eq_true_eq, Bool.not_eq_true', decide_eq_false_iff_not, Int32.lt_iff_toInt_lt, Int32.le_iff_toInt_le, nI_toInt (by decide), nI_toInt (by decide)] at h
  omega
theorem ou11 {k : Int32} (h : ouF k (nI 0) (nI 11) = false) : ¬ (k.toInt < 0 ∨ 11 < k.toInt) := by
  rw [ouF, Bool.or_eq_false_iff, decide_eq_false_iff_not, Bool.not_eq_false', decide_eq_true_eq, Int32.lt_iff_toInt_lt, Int32.le_iff_toInt_le, nI_toInt (by decide), nI_toInt (by decide)] at h
  omega
