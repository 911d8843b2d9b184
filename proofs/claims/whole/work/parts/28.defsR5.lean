theorem isW_t {j n : Nat} (h : j < n) (hn : n < 2147483648) : isW (nI j) (nI n) = true := by
  unfold isW
  have h1 : ¬ nI j < 0 := nI_pos (by omega)
  have h2 : ¬ nI n ≤ nI j := fun z => by
    have := (nI_leI hn (by omega)).mp z
    omega
  simp [h1, h2]
theorem ou_isWp {n : Nat} (hn : n < 2147483648) (v : Int32) : ouF v (nI 0) (nI n - nI 1) = !isW v (nI n) := by
  have h1 : (v ≤ nI n - nI 1) ↔ ¬ nI n ≤ v := by
    have e : (nI n - nI 1).toInt = (n : Int) - 1 := by
      by_cases h0 : n = 0
      · subst h0; decide
      · rw [pk_sub (by omega), nI_toInt (by omega)]; omega
    rw [Int32.le_iff_toInt_le, Int32.le_iff_toInt_le, e, nI_toInt hn]
    omega
  unfold ouF isW
  rw [nI_0]
  by_cases h2 : nI n ≤ v
  · have h3 : ¬ v ≤ nI n - nI 1 := fun z => h1.mp z h2
    simp [h2, h3]
  · have h3 : v ≤ nI n - nI 1 := h1.mpr h2
    simp [h2, h3]
def rcS (σ : MS) (k w : Nat) : Nat := w ||| (if gmmd σ k = true then 1 <<< k else 0)
def rrS (σ : MS) (k w : Nat) : Nat := w ||| (if gmrd σ k = true then 1 <<< (8 + k) else 0)
def rcF (σ : MS) : Nat := itN (rrS σ) 24 0 (itN (rcS σ) 6 0 0)
