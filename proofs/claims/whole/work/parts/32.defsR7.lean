/-- what the reference's shaping keeps: the program -/
def Kr (σ τ : MS) : Prop := (QI τ ∧ CI τ) ∧ gmmy τ = gmmy σ ∧ gmcd τ = gmcd σ ∧ gmpa τ = gmpa σ ∧ gmty τ = gmty σ
theorem Kr_rf {σ : MS} (h : QI σ ∧ CI σ) : Kr σ σ := ⟨h, rfl, rfl, rfl, rfl⟩
theorem Kr_rd {σ τ : MS} {f : Nat → Bool} (h : Kr σ τ) : Kr σ (smrd τ f) := h
theorem Kr_md {σ τ : MS} {f : Nat → Bool} (h : Kr σ τ) : Kr σ (smmd τ f) := h
theorem Kr_ho {σ τ : MS} {f : Nat → Bool} (h : Kr σ τ) : Kr σ (smho τ f) := h
theorem Kr_si {σ τ : MS} {f : Nat → Nat} (h : Kr σ τ) : Kr σ (smsi τ f) := h
def raS (q k : Nat) (s : Bool × MS) : Bool × MS := match (if gmmd s.2 k = true then tgM s.2 k q else none) with
  | none => s
  | some b => if gmrd s.2 b = true then s else (true, smrd s.2 (va_up (gmrd s.2) b true))
def raF (q : Nat) (σ : MS) : Bool × MS := itN (raS q) 6 0 (false, σ)
theorem Kr_ra {σ : MS} {q k : Nat} {s : Bool × MS} (h : Kr σ s.2) : Kr σ (raS q k s).2 := by
  unfold raS
  split
  · exact h
  · split
    · exact h
    · exact Kr_rd h
theorem Kr_raF {σ τ : MS} {q : Nat} (h : Kr σ τ) : Kr σ (raF q τ).2 := itN_inv (fun s : Bool × MS => Kr σ s.2) (N := 6) (fun k x _ hx => Kr_ra hx) 6 0 (false, τ) (by omega) h
def grS (b k : Nat) (s : Bool × MS) : Bool × MS := if kM s.2 (10 * b + k) = 4 then (if gmmd s.2 (yM s.2 (10 * b + k)) = true then s else (true, smmd s.2 (va_up (gmmd s.2) (yM s.2 (10 * b + k)) true))) else if kM s.2 (10 * b + k) = 7 then ((raF (zM s.2 (10 * b + k)) s.2).1 || s.1, (raF (zM s.2 (10 * b + k)) s.2).2) else s
def grF (b : Nat) (σ : MS) : Bool × MS := itN (grS b) (gmmy σ b) 0 (false, σ)
theorem Kr_gr {σ : MS} {b k : Nat} {s : Bool × MS} (h : Kr σ s.2) : Kr σ (grS b k s).2 := by
  unfold grS
  split
  · split
    · exact h
    · exact Kr_md h
  · split
    · exact Kr_raF h
    · exact h
theorem Kr_grF {σ τ : MS} {b : Nat} (h : Kr σ τ) : Kr σ (grF b τ).2 := itN_inv (fun s : Bool × MS => Kr σ s.2) (N := gmmy τ b) (fun k x _ hx => Kr_gr hx) _ 0 (false, τ) (by omega) h
theorem at0 {σ : MS} (h : CI σ) (b k : Nat) : gmcd σ (40 * b + 4 * k + 0) = nI (kM σ (10 * b + k)) := by
  rw [show 40 * b + 4 * k + 0 = 4 * (10 * b + k) from (by omega)]
  exact (h _).1.1
theorem at1 {σ : MS} (h : CI σ) (b k : Nat) : gmcd σ (40 * b + 4 * k + 1) = nI (xM σ (10 * b + k)) := by
  rw [show 40 * b + 4 * k + 1 = 4 * (10 * b + k) + 1 from (by omega)]
  exact (h _).2.1.1
theorem at2 (σ : MS) (b k : Nat) : gmcd σ (40 * b + 4 * k + 2) = gmcd σ (4 * (10 * b + k) + 2) := by
  rw [show 40 * b + 4 * k + 2 = 4 * (10 * b + k) + 2 from (by omega)]
theorem at3 (σ : MS) (b k : Nat) : gmcd σ (40 * b + 4 * k + 3) = gmcd σ (4 * (10 * b + k) + 3) := by
  rw [show 40 * b + 4 * k + 3 = 4 * (10 * b + k) + 3 from (by omega)]
def clS (σ : MS) (q k : Nat) (s : Option Nat × Bool) : Option Nat × Bool := match (if gmmd σ k = true then tgM σ k q else none) with
  | none => s
  | some t => match s.1 with
    | none => (some t, s.2)
    | some o => (some t, s.2 && decide (t = o))
def smS (σ : MS) (b k : Nat) (x : Bool) : Bool := x && (decide (kM σ (10 * b + k) ≠ 7) && decide (kM σ (10 * b + k) ≠ 9))
def caF (σ : MS) (q : Nat) : Nat := match itN (clS σ q) 6 0 (none, true) with
  | (none, _) => 4
  | (some b, x) => if x = true then (if itN (smS σ b) (gmmy σ b) 0 (decide (gmmy σ b ≤ 3)) = true then 3 else 2) else 1
