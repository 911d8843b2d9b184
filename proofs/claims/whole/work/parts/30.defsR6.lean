theorem ou_ok {o : Option Nat} {n : Nat} (h1 : 0 < n) (hn : n < 2147483648) (ho : ∀ j, o = some j → j < n) : ouF (oI o) (-1) (nI (n - 1)) = false := by
  have e0 : (-1 : Int32).toInt = -1 := by decide
  rw [ouF, Bool.or_eq_false_iff, decide_eq_false_iff_not, Bool.not_eq_false', decide_eq_true_eq, Int32.lt_iff_toInt_lt, Int32.le_iff_toInt_le, nI_toInt (by omega), e0]
  cases o with
  | none =>
    have e1 : (oI none).toInt = -1 := by decide
    rw [e1]
    omega
  | some j =>
    have hj := ho j rfl
    have e1 : (oI (some j)).toInt = (j : Int) := nI_toInt (by omega)
    rw [e1]
    omega
def opP (σ : MS) (b : Nat) : Nat := 40 * b + 4 * gmmy σ b
def opG (b : Nat) (k x : Nat) (y z : Int32) (σ : MS) : MS := smch (smmy (smcd (smth σ (thF false false)) (va_up (va_up (va_up (va_up (gmcd σ) (40 * b + 4 * gmmy σ b) (nI k)) (40 * b + 4 * gmmy σ b + 1) (nI x)) (40 * b + 4 * gmmy σ b + 2) y) (40 * b + 4 * gmmy σ b + 3) z)) (va_up (gmmy σ) b (gmmy σ b + 1))) (va_up (gmch σ) b true)
