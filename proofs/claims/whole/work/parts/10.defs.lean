/-! pure words of the class's methods -/
def isW (v b : Int32) : Bool := !decide (v < 0) && !decide (b ≤ v)
def tgtF (P : Nat → Option Nat) (L : Nat → Nat) (q : Nat) : Nat → Option Nat → Option Nat
  | 0, _ => none
  | _ + 1, none => none
  | f + 1, some a => if 0 < L (a * 4 + q) then some (a * 4 + q) else tgtF P L q f (P a)
def isF (P : Nat → Option Nat) (o : Nat) : Nat → Option Nat → Bool
  | 0, _ => false
  | _ + 1, none => false
  | f + 1, some a => if a = o then true else isF P o f (P a)
def allF (f : Nat → Bool) : Nat → Nat → Bool
  | 0, _ => true
  | n + 1, k => f k && allF f n (k + 1)
def fitF (L K : Nat → Nat) (b : Nat) : Bool := decide (L b ≤ 3) && allF (fun k => decide (K (b * 10 + k) ≠ 7) && decide (K (b * 10 + k) ≠ 9)) (L b) 0
def wfF (k x y z : Int32) : Bool := isW x (nI 6) && (if k = 0 ∨ k = 8 ∨ k = 11 then true else if k = 1 then isW y (nI 6) else if k = 2 ∨ k = 3 then isW y (nI 6) && isW z (nI 6) else if k = 4 ∨ k = 10 then isW y (nI 6) else if k = 5 ∨ k = 6 then isW y (nI 6) && isW z (nI 3) else if k = 7 then isW y (nI 6) && isW z (nI 4) else if k = 9 then isW y (nI 10) else false)
/-- what holds of the program's rows in every state -/
def PI (σ : CS) : Prop := (∀ i k, gcP σ i = some k → k < 6) ∧ (∀ i, gcL σ i ≤ 10) ∧ (∀ i, gcK σ i < 12) ∧ (∀ i, gcX σ i < 6) ∧ gcn σ ≤ 6
theorem er_t {b : Bool} (h : b = true) : some (Value.int (bI b)) = some (Value.int (nI 1)) := by subst h; rfl
theorem er_f {b : Bool} (h : b = false) : some (Value.int (bI b)) = some (Value.int (nI 0)) := by subst h; rfl
