def icM (j : Nat) (σ : MS) : MS := smct σ (va_up (gmct σ) j (gmct σ j + 1))
def poM (i : Nat) (σ : MS) : Int32 := if gmis σ i = true then nI (1000 + gmcl σ (vN σ i)) else gmva σ i
def puF (i : Nat) (σ : MS) : MS := if gmct σ 0 = 40 then σ else smct (smou σ (va_up (gmou σ) (gmct σ 0) (poM i σ))) (va_up (gmct σ) 0 (gmct σ 0 + 1))
def nwR (z : Nat) (σ : MS) : Nat := match maR (decide (z = 5)) σ with
  | none => 3
  | some _ => 0
def nwF (z i t : Nat) (σ : MS) : MS := match maR (decide (z = 5)) σ with
  | none => maF t (decide (z = 5)) σ
  | some k => seF i true (nI k) (maF t (decide (z = 5)) σ)
def suB (ba y z : Nat) (σ : MS) : Bool := gmis σ (ba + y) || gmis σ (ba + z)
def suV (b : Bool) (v w : Int32) : Int32 := if b = true then v + w else if v < w then nI 1 else nI 0
def suF (ba : Nat) (b : Bool) (x y z : Nat) (σ : MS) : MS := if suB ba y z σ = true then σ else seF (ba + x) false (suV b (gmva σ (ba + y)) (gmva σ (ba + z))) σ
def mcF (z : Nat) (σ : MS) : MS := if z = 2 then icM 3 σ else if z = 3 then σ else icM 3 (icM 2 σ)
def clR (ba y q : Nat) (σ : MS) : Nat := if gmis σ (ba + y) = true then (match tgM σ (gmcl σ (vN σ (ba + y))) q with
  | none => 6
  | some _ => if gmfr σ = 12 then 4 else 0) else 1
def clF (z ba x y q : Nat) (σ : MS) : MS := if gmis σ (ba + y) = true then (match tgM σ (gmcl σ (vN σ (ba + y))) q with
  | none => σ
  | some b => if gmfr σ = 12 then σ else esF b (gmva σ (ba + y)) (gmis σ (ba + 5)) (gmva σ (ba + 5)) x (mcF z σ)) else σ
theorem mc_get (z : Nat) (σ : MS) : gmva (mcF z σ) = gmva σ ∧ gmis (mcF z σ) = gmis σ ∧ gmfr (mcF z σ) = gmfr σ ∧ gmct (mcF z σ) 5 = gmct σ 5 := by
  unfold mcF
  by_cases e : z = 2
  · rw [if_pos e]; unfold icM; rw [hs_va_ct, hs_is_ct, hs_fr_ct, hs_ct_ct]; exact ⟨rfl, rfl, rfl, rfl⟩
  · rw [if_neg e]
    by_cases e3 : z = 3
    · rw [if_pos e3]; exact ⟨rfl, rfl, rfl, rfl⟩
    · rw [if_neg e3]; unfold icM; simp only [hs_va_ct, hs_is_ct, hs_fr_ct, hs_ct_ct]; exact ⟨trivial, trivial, trivial, rfl⟩
theorem mtg_lt {P : Nat → Option Nat} {L : Nat → Nat} {q : Nat} (hP : ∀ i k, P i = some k → k < i) (hq : q < 4) : ∀ (f : Nat) (o : Option Nat), (∀ j, o = some j → j < 6) → ∀ k, mtgF P L q f o = some k → k < 24 := by
  intro f
  induction f with
  | zero => intro o _ k h; cases o <;> cases h
  | succ f ih =>
    intro o ho k h
    cases o with
    | none => cases h
    | some a =>
      have ha := ho a rfl
      unfold mtgF at h
      by_cases h0 : 0 < L (4 * a + q)
      · rw [if_pos h0] at h
        cases h
        omega
      · rw [if_neg h0] at h
        exact ih (P a) (fun j hj => by have := hP a j hj; omega) k h
theorem tgM_lt {σ : MS} (hQ : QI σ) {t q : Nat} (ht : t < 6) (hq : q < 4) {k : Nat} (h : tgM σ t q = some k) : k < 24 := by
  refine mtg_lt hQ.1 hq 6 _ (fun j hj => ?_) k h
  by_cases h2 : t < gmty σ
  · rw [if_pos h2] at hj; cases hj; exact ht
  · rw [if_neg h2] at hj; cases hj
