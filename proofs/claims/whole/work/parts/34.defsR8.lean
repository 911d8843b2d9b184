def s1S (b j k : Nat) (τ : MS) : MS := smho τ (va_up (gmho τ) k (decide (k = xM τ (10 * b + j))))
def s2S (b k : Nat) (τ : MS) : MS := if kM τ (10 * b + k) = 1 then (if gmho τ (yM τ (10 * b + k)) = true then smho τ (va_up (gmho τ) (xM τ (10 * b + k)) true) else τ) else τ
def s2R (b : Nat) (_ : Nat) (τ : MS) : MS := itN (s2S b) (gmmy τ b) 0 τ
def s3S (τ : MS) (b k : Nat) (x : Bool) : Bool := if kM τ (10 * b + k) = 6 then x && !gmho τ (yM τ (10 * b + k)) else if kM τ (10 * b + k) = 7 then (x && !gmho τ (yM τ (10 * b + k))) && !gmho τ 5 else if kM τ (10 * b + k) = 11 then x && !gmho τ (xM τ (10 * b + k)) else x
def sa1 (b j : Nat) (σ : MS) : MS := itN (s1S b j) 6 0 σ
def saG (b j : Nat) (σ : MS) : MS := itN (s2R b) 6 0 (sa1 b j σ)
def saB (b j : Nat) (σ : MS) : Bool := itN (s3S (saG b j σ) b) (gmmy (saG b j σ) b) 0 true
theorem Kr_s2 {σ τ : MS} {b k : Nat} (h : Kr σ τ) : Kr σ (s2S b k τ) := by
  unfold s2S
  split
  · split
    · exact Kr_ho h
    · exact h
  · exact h
theorem Kr_s2R {σ τ : MS} {b k : Nat} (h : Kr σ τ) : Kr σ (s2R b k τ) := itN_inv (Kr σ) (N := gmmy τ b) (fun k x _ hx => Kr_s2 hx) _ 0 τ (by omega) h
theorem Kr_sa1 {σ τ : MS} {b j : Nat} (h : Kr σ τ) : Kr σ (sa1 b j τ) := itN_inv (Kr σ) (N := 6) (fun k x _ hx => Kr_ho hx) 6 0 τ (by omega) h
theorem Kr_saG {σ τ : MS} {b j : Nat} (h : Kr σ τ) : Kr σ (saG b j τ) := itN_inv (Kr σ) (N := 6) (fun k x _ hx => Kr_s2R hx) 6 0 _ (by omega) (Kr_sa1 h)
