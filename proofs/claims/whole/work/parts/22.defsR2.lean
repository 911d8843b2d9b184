def genF {α : Type} (f : Nat → α) (a b : Nat) (g : Nat → α) : Nat → α := fun i => if a ≤ i ∧ i < b then g (i - a) else f i
theorem genF_0 {α : Type} (f : Nat → α) (a : Nat) (g : Nat → α) : genF f a (a + 0) g = f := by
  funext i
  unfold genF
  rw [if_neg (by omega)]
theorem genF_up {α : Type} (f : Nat → α) (a k : Nat) (g : Nat → α) {v : α} (hv : v = g k) : va_up (genF f a (a + k) g) (a + k) v = genF f a (a + (k + 1)) g := by
  funext i
  unfold va_up genF
  by_cases e : i = a + k
  · subst e
    rw [if_pos rfl, if_pos (by omega), Nat.add_sub_cancel_left, hv]
  · rw [if_neg e]
    by_cases h2 : a ≤ i ∧ i < a + k
    · rw [if_pos h2, if_pos ⟨h2.1, by omega⟩]
    · rw [if_neg h2, if_neg (by omega)]
theorem sw_fI_fV (τ : MS) (a : Nat → Int32) (b : Nat → Bool) : smfI (smfV τ a) b = smfV (smfI τ b) a := by simp only [smfI, smfV]
theorem sw_is_va (τ : MS) (a : Nat → Int32) (b : Nat → Bool) : smis (smva τ a) b = smva (smis τ b) a := by simp only [smis, smva]
theorem oI_nn {q : Nat} (h : q < 2147483648) : ¬ oI none = nI q := fun e => by
  have := (oI_m1 (o := some q) (fun k hk => by cases hk; exact h)).mp (show oI (some q) = -1 from e.symm)
  cases this
def vN (σ : MS) (i : Nat) : Nat := (gmva σ i).toNatClampNeg
def fN (σ : MS) (i : Nat) : Nat := (gmfV σ i).toNatClampNeg
/-- what holds of the reference's run rows in every state -/
def VI (σ : MS) : Prop := QI σ ∧ ((∀ i, gmcl σ i < 6) ∧ (∀ i, gmbo σ i < 24) ∧ (∀ i, gmpl σ i ≤ 19) ∧ (∀ i, gmwa σ i < 6) ∧ (∀ i, gmsi σ i ≤ 6)) ∧ ((∀ i, gmis σ i = true → gmva σ i = nI (vN σ i) ∧ vN σ i < 401) ∧ (∀ i, gmfI σ i = true → gmfV σ i = nI (fN σ i) ∧ fN σ i < 401)) ∧ (gmct σ 0 ≤ 40 ∧ gmct σ 5 ≤ 12 ∧ gmct σ 4 ≤ 400 ∧ gmct σ 1 ≤ gmob σ) ∧ gmfr σ ≤ 12 ∧ gmrm σ ≤ 60 ∧ gmob σ ≤ 401
def mk0 (t : Nat) (b : Bool) (σ : MS) : MS := smcl (smct σ (va_up (gmct σ) 1 (gmct σ 1 + (if b = true then 0 else 1)))) (va_up (gmcl σ) (gmob σ) t)
def mk1 (τ : MS) : MS := smob (smfV (smfI τ (genF (gmfI τ) (3 * gmob τ) (3 * gmob τ + 3) (fun _ => false))) (genF (gmfV τ) (3 * gmob τ) (3 * gmob τ + 3) (fun _ => 0))) (gmob τ + 1)
def maF (t : Nat) (b : Bool) (σ : MS) : MS := if b = false ∧ gmct σ 1 = gmrm σ then σ else mk1 (mk0 t b σ)
def maR (b : Bool) (σ : MS) : Option Nat := if b = false ∧ gmct σ 1 = gmrm σ then none else some (gmob σ)
def eI (x : Bool) (j : Nat) : Bool := decide (j = 0) || (decide (j = 1) && x)
def eV (v w : Int32) (j : Nat) : Int32 := if j = 0 then v else if j = 1 then w else 0
def es1 (v : Int32) (x : Bool) (w : Int32) (σ : MS) : MS := smva (smis σ (genF (gmis σ) (6 * gmfr σ) (6 * gmfr σ + 6) (eI x))) (genF (gmva σ) (6 * gmfr σ) (6 * gmfr σ + 6) (eV v w))
def es2 (b g : Nat) (τ : MS) : MS := smfr (smwa (smpl (smbo τ (va_up (gmbo τ) (gmfr τ) b)) (va_up (gmpl τ) (gmfr τ) 0)) (va_up (gmwa τ) (gmfr τ) g)) (gmfr τ + 1)
def es3 (τ : MS) : MS := if gmct τ 5 < gmfr τ then smct τ (va_up (gmct τ) 5 (gmfr τ)) else τ
def esF (b : Nat) (v : Int32) (x : Bool) (w : Int32) (g : Nat) (σ : MS) : MS := es3 (es2 b g (es1 v x w σ))
