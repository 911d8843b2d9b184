def gen0 {α : Type} (f : Nat → α) (k : Nat) (g : Nat → α) : Nat → α := fun i => if i < k then g i else f i
theorem gen0_0 {α : Type} (f : Nat → α) (g : Nat → α) : gen0 f 0 g = f := by
  funext i
  unfold gen0
  rw [if_neg (by omega)]
theorem gen0_up {α : Type} (f : Nat → α) (k : Nat) (g : Nat → α) {v : α} (hv : v = g k) : va_up (gen0 f k g) k v = gen0 f (k + 1) g := by
  funext i
  unfold va_up gen0
  by_cases e : i = k
  · subst e
    rw [if_pos rfl, if_pos (by omega), hv]
  · rw [if_neg e]
    by_cases h2 : i < k
    · rw [if_pos h2, if_pos (by omega)]
    · rw [if_neg h2, if_neg (by omega)]
theorem sw_rd_ch (τ : MS) (a b : Nat → Bool) : smrd (smch τ a) b = smch (smrd τ b) a := by simp only [smrd, smch]
theorem Kr_th {σ τ : MS} {v : Nat} (h : Kr σ τ) : Kr σ (smth τ v) := h
theorem Kr_ch {σ τ : MS} {f : Nat → Bool} (h : Kr σ τ) : Kr σ (smch τ f) := h
def sh1 (σ : MS) : MS := smmd (smth σ 0) (gen0 (gmmd σ) 6 (fun j => decide (j = 0)))
def sh2 (τ : MS) : MS := smch (smrd τ (gen0 (gmrd τ) 24 (fun _ => false))) (gen0 (gmch τ) 24 (fun _ => false))
def sh3 (τ : MS) : MS := match tgM τ 0 0 with
  | none => τ
  | some k => smrd τ (va_up (gmrd τ) k true)
def psS (b : Nat) (s : Bool × MS) : Bool × MS := if gmrd s.2 b = true then ((grF b s.2).1 || s.1, (grF b s.2).2) else s
def psF (τ : MS) : Bool × MS := itN psS 24 0 (false, τ)
def whL : Nat → Bool → MS → MS
  | 0, _, τ => τ
  | n + 1, x, τ => if x = true then whL n (psF τ).1 (psF τ).2 else τ
def shW (σ : MS) : MS := whL 31 true (sh3 (sh2 (sh1 σ)))
def shP (τ : MS) (b k v : Nat) : MS := smsi τ (va_up (gmsi τ) (10 * b + k) (if gmrd τ b = true then v else 0))
def shS (b k : Nat) (τ : MS) : MS := if kM τ (10 * b + k) = 7 then shP τ b k (caF τ (zM τ (10 * b + k))) else if kM τ (10 * b + k) = 4 then shP (saG b k τ) b k (if saB b k τ = true then 5 else 6) else shP τ b k 0
def shB (b : Nat) (τ : MS) : MS := itN (shS b) (gmmy τ b) 0 τ
def shO (b : Nat) (s : Nat × MS) : Nat × MS := (s.1 + (if gmrd s.2 b = true then 1 else 0), shB b s.2)
def shZ (σ : MS) : Nat × MS := itN shO 24 0 (0, shW σ)
/-- how many are not yet in a set -/
def cF (f : Nat → Bool) : Nat → Nat
  | 0 => 0
  | n + 1 => cF f n + (if f n = true then 0 else 1)
theorem cF_le (f : Nat → Bool) : ∀ n, cF f n ≤ n := by
  intro n
  induction n with
  | zero => exact Nat.le_refl 0
  | succ n ih => unfold cF; split <;> omega
theorem cF_ge {f : Nat → Bool} {k : Nat} {v : Bool} : ∀ n, n ≤ k → cF (va_up f k v) n = cF f n := by
  intro n
  induction n with
  | zero => intro _; rfl
  | succ n ih =>
    intro h
    unfold cF
    rw [ih (by omega), va_up_ne _ _ (by omega)]
theorem cF_up {f : Nat → Bool} {k : Nat} (hf : f k = false) : ∀ n, k < n → cF (va_up f k true) n + 1 = cF f n := by
  intro n
  induction n with
  | zero => intro h; omega
  | succ n ih =>
    intro h
    unfold cF
    by_cases e : k = n
    · subst e
      rw [cF_ge _ (Nat.le_refl _), va_up_self, hf]
      simp
    · rw [va_up_ne _ _ (by omega)]
      have := ih (by omega)
      omega
def cnt (τ : MS) : Nat := cF (gmmd τ) 6 + cF (gmrd τ) 24
/-- a step of the search: the program stays; if it says 'more', fewer are missing -/
def Dn (σ : MS) (N : Nat) (s : Bool × MS) : Prop := Kr σ s.2 ∧ cnt s.2 ≤ N ∧ (s.1 = true → cnt s.2 < N)
theorem Dn_ra {σ : MS} {N q k : Nat} {s : Bool × MS} (hq : q < 4) (hk : k < 6) (h : Dn σ N s) : Dn σ N (raS q k s) := by
  unfold raS
  split
  · exact h
  · rename_i b hb
    split
    · exact h
    · rename_i h1
      have hb24 : b < 24 := by
        by_cases h2 : gmmd s.2 k = true
        · rw [if_pos h2] at hb; exact tgM_lt h.1.1.1 hk hq hb
        · rw [if_neg h2] at hb; cases hb
      have h3 : cF (va_up (gmrd s.2) b true) 24 + 1 = cF (gmrd s.2) 24 := cF_up (Bool.eq_false_iff.mpr h1) 24 hb24
      have h5 : cnt (smrd s.2 (va_up (gmrd s.2) b true)) = cF (gmmd s.2) 6 + cF (va_up (gmrd s.2) b true) 24 := rfl
      have h6 : cnt s.2 = cF (gmmd s.2) 6 + cF (gmrd s.2) 24 := rfl
      have h7 := h.2.1
      exact ⟨Kr_rd h.1, by show cnt (smrd s.2 (va_up (gmrd s.2) b true)) ≤ N; omega, fun _ => by show cnt (smrd s.2 (va_up (gmrd s.2) b true)) < N; omega⟩
theorem Dn_raF {σ τ : MS} {q : Nat} (hq : q < 4) (h : Kr σ τ) : Dn σ (cnt τ) (raF q τ) := itN_inv (Dn σ (cnt τ)) (N := 6) (fun k x hk hx => Dn_ra hq hk hx) 6 0 (false, τ) (by omega) ⟨h, Nat.le_refl _, fun z => by cases z⟩
theorem Dn_gr {σ : MS} {N b k : Nat} {s : Bool × MS} (h : Dn σ N s) : Dn σ N (grS b k s) := by
  unfold grS
  by_cases h4 : kM s.2 (10 * b + k) = 4
  · rw [if_pos h4]
    have hy := (CI_y h.1.1.2 (p := 10 * b + k) (by omega)).2
    split
    · exact h
    · rename_i h1
      have h3 : cF (va_up (gmmd s.2) (yM s.2 (10 * b + k)) true) 6 + 1 = cF (gmmd s.2) 6 := cF_up (Bool.eq_false_iff.mpr h1) 6 hy
      have h5 : cnt (smmd s.2 (va_up (gmmd s.2) (yM s.2 (10 * b + k)) true)) = cF (va_up (gmmd s.2) (yM s.2 (10 * b + k)) true) 6 + cF (gmrd s.2) 24 := rfl
      have h6 : cnt s.2 = cF (gmmd s.2) 6 + cF (gmrd s.2) 24 := rfl
      have h7 := h.2.1
      exact ⟨Kr_md h.1, by show cnt (smmd s.2 (va_up (gmmd s.2) (yM s.2 (10 * b + k)) true)) ≤ N; omega, fun _ => by show cnt (smmd s.2 (va_up (gmmd s.2) (yM s.2 (10 * b + k)) true)) < N; omega⟩
  · rw [if_neg h4]
    by_cases h7 : kM s.2 (10 * b + k) = 7
    · rw [if_pos h7]
      have hr := Dn_raF (CI_z4 h.1.1.2 h7).2 h.1
      have a1 := hr.2.1
      have a2 := h.2.1
      refine ⟨hr.1, Nat.le_trans a1 a2, fun z => ?_⟩
      rcases (Bool.or_eq_true_iff.mp z) with z | z
      · exact Nat.lt_of_lt_of_le (hr.2.2 z) a2
      · exact Nat.lt_of_le_of_lt a1 (h.2.2 z)
    · rw [if_neg h7]; exact h
theorem Dn_grF {σ τ : MS} {b : Nat} (h : Kr σ τ) : Dn σ (cnt τ) (grF b τ) := itN_inv (Dn σ (cnt τ)) (N := gmmy τ b) (fun k x _ hx => Dn_gr hx) _ 0 (false, τ) (by omega) ⟨h, Nat.le_refl _, fun z => by cases z⟩
theorem Dn_ps {σ : MS} {N b : Nat} {s : Bool × MS} (h : Dn σ N s) : Dn σ N (psS b s) := by
  unfold psS
  split
  · have hr := Dn_grF (b := b) h.1
    have a1 := hr.2.1
    have a2 := h.2.1
    refine ⟨hr.1, Nat.le_trans a1 a2, fun z => ?_⟩
    rcases (Bool.or_eq_true_iff.mp z) with z | z
    · exact Nat.lt_of_lt_of_le (hr.2.2 z) a2
    · exact Nat.lt_of_le_of_lt a1 (h.2.2 z)
  · exact h
theorem Dn_psF {σ τ : MS} (h : Kr σ τ) : Dn σ (cnt τ) (psF τ) := itN_inv (Dn σ (cnt τ)) (N := 24) (fun k x _ hx => Dn_ps hx) 24 0 (false, τ) (by omega) ⟨h, Nat.le_refl _, fun z => by cases z⟩
theorem cnt_le (τ : MS) : cnt τ ≤ 30 := by
  have h1 := cF_le (gmmd τ) 6
  have h2 := cF_le (gmrd τ) 24
  show cF (gmmd τ) 6 + cF (gmrd τ) 24 ≤ 30
  omega
theorem whL_f (n : Nat) (τ : MS) : whL n false τ = τ := by
  cases n with
  | zero => rfl
  | succ n => rfl
