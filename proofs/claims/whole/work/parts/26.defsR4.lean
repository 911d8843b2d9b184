def kM (σ : MS) (p : Nat) : Nat := (gmcd σ (4 * p)).toNatClampNeg
def xM (σ : MS) (p : Nat) : Nat := (gmcd σ (4 * p + 1)).toNatClampNeg
def yM (σ : MS) (p : Nat) : Nat := (gmcd σ (4 * p + 2)).toNatClampNeg
def zM (σ : MS) (p : Nat) : Nat := (gmcd σ (4 * p + 3)).toNatClampNeg
/-- the reference's operations are well formed -/
def CI (σ : MS) : Prop := ∀ p, (gmcd σ (4 * p) = nI (kM σ p) ∧ kM σ p < 12) ∧ (gmcd σ (4 * p + 1) = nI (xM σ p) ∧ xM σ p < 6) ∧ wfK (nI (kM σ p)) (gmcd σ (4 * p + 2)) (gmcd σ (4 * p + 3)) = true
theorem CI_y {σ : MS} (h : CI σ) {p : Nat} (hk : kM σ p = 1 ∨ kM σ p = 2 ∨ kM σ p = 3 ∨ kM σ p = 4 ∨ kM σ p = 5 ∨ kM σ p = 6 ∨ kM σ p = 7 ∨ kM σ p = 10) : gmcd σ (4 * p + 2) = nI (yM σ p) ∧ yM σ p < 6 := by
  have h1 := (h p).2.2
  refine isW_n (by decide) ?_
  rcases hk with e | e | e | e | e | e | e | e <;> rw [e] at h1
  · exact h1
  · rw [wfK_2, Bool.and_eq_true] at h1; exact h1.1
  · rw [wfK_3, Bool.and_eq_true] at h1; exact h1.1
  · exact h1
  · rw [wfK_5, Bool.and_eq_true] at h1; exact h1.1
  · rw [wfK_6, Bool.and_eq_true] at h1; exact h1.1
  · rw [wfK_7, Bool.and_eq_true] at h1; exact h1.1
  · exact h1
theorem CI_y9 {σ : MS} (h : CI σ) {p : Nat} (hk : kM σ p = 9) : gmcd σ (4 * p + 2) = nI (yM σ p) ∧ yM σ p < 10 := by
  have h1 := (h p).2.2
  rw [hk, wfK_9] at h1
  exact isW_n (by decide) h1
theorem CI_z6 {σ : MS} (h : CI σ) {p : Nat} (hk : kM σ p = 2 ∨ kM σ p = 3) : gmcd σ (4 * p + 3) = nI (zM σ p) ∧ zM σ p < 6 := by
  have h1 := (h p).2.2
  refine isW_n (by decide) ?_
  rcases hk with e | e <;> rw [e] at h1
  · rw [wfK_2, Bool.and_eq_true] at h1; exact h1.2
  · rw [wfK_3, Bool.and_eq_true] at h1; exact h1.2
theorem CI_z3 {σ : MS} (h : CI σ) {p : Nat} (hk : kM σ p = 5 ∨ kM σ p = 6) : gmcd σ (4 * p + 3) = nI (zM σ p) ∧ zM σ p < 3 := by
  have h1 := (h p).2.2
  refine isW_n (by decide) ?_
  rcases hk with e | e <;> rw [e] at h1
  · rw [wfK_5, Bool.and_eq_true] at h1; exact h1.2
  · rw [wfK_6, Bool.and_eq_true] at h1; exact h1.2
theorem CI_z4 {σ : MS} (h : CI σ) {p : Nat} (hk : kM σ p = 7) : gmcd σ (4 * p + 3) = nI (zM σ p) ∧ zM σ p < 4 := by
  have h1 := (h p).2.2
  rw [hk, wfK_7, Bool.and_eq_true] at h1
  exact isW_n (by decide) h1.2
def nxM (f : Nat) (σ : MS) : MS := smpl σ (va_up (gmpl σ) f (gmpl σ f + 1))
theorem nxM_get (f : Nat) (σ : MS) : gmcd (nxM f σ) = gmcd σ ∧ gmfr (nxM f σ) = gmfr σ ∧ gmbo (nxM f σ) = gmbo σ ∧ gmob (nxM f σ) = gmob σ := ⟨rfl, rfl, rfl, rfl⟩
def dpF (ba p z f : Nat) (τ : MS) : MS := match kM τ p with
  | 0 => seF (ba + xM τ p) false (gmcd τ (4 * p + 2)) τ
  | 1 => seF (ba + xM τ p) (gmis τ (ba + yM τ p)) (gmva τ (ba + yM τ p)) τ
  | 2 => suF ba true (xM τ p) (yM τ p) (zM τ p) τ
  | 3 => suF ba false (xM τ p) (yM τ p) (zM τ p) τ
  | 4 => nwF z (ba + xM τ p) (yM τ p) τ
  | 5 => if gmis τ (ba + yM τ p) = true then seF (ba + xM τ p) (gmfI τ (3 * vN τ (ba + yM τ p) + zM τ p)) (gmfV τ (3 * vN τ (ba + yM τ p) + zM τ p)) τ else τ
  | 6 => if gmis τ (ba + xM τ p) = true then smfV (smfI τ (va_up (gmfI τ) (3 * vN τ (ba + xM τ p) + zM τ p) (gmis τ (ba + yM τ p)))) (va_up (gmfV τ) (3 * vN τ (ba + xM τ p) + zM τ p) (gmva τ (ba + yM τ p))) else τ
  | 7 => clF z ba (xM τ p) (yM τ p) (zM τ p) τ
  | 8 => puF (ba + xM τ p) τ
  | 9 => if gmis τ (ba + xM τ p) = false ∧ gmva τ (ba + xM τ p) = 0 then smpl τ (va_up (gmpl τ) f (gmpl τ f + yM τ p)) else τ
  | 10 => τ
  | _ => awF (gmis τ (ba + xM τ p)) (gmva τ (ba + xM τ p)) τ
def dpR (ba p z : Nat) (τ : MS) : Nat := match kM τ p with
  | 2 => if suB ba (yM τ p) (zM τ p) τ = true then 1 else 0
  | 3 => if suB ba (yM τ p) (zM τ p) τ = true then 1 else 0
  | 4 => nwR z τ
  | 5 => if gmis τ (ba + yM τ p) = true then 0 else 1
  | 6 => if gmis τ (ba + xM τ p) = true then 0 else 1
  | 7 => clR ba (yM τ p) (zM τ p) τ
  | 8 => if gmct τ 0 = 40 then 7 else 0
  | 10 => if gmis τ (ba + xM τ p) = true then (if misF (gmpa τ) (gmty τ) (yM τ p) 6 (some (gmcl τ (vN τ (ba + xM τ p)))) = true then 0 else 2) else 1
  | _ => 0
def doP (σ : MS) : Nat := 10 * gmbo σ (gmfr σ - 1) + gmpl σ (gmfr σ - 1)
def doZ (sh : Bool) (σ : MS) : Nat := if sh = true then siF σ (gmbo σ (gmfr σ - 1)) (gmpl σ (gmfr σ - 1)) else 0
def doF (sh : Bool) (σ : MS) : MS := dpF (6 * (gmfr σ - 1)) (doP σ) (doZ sh σ) (gmfr σ - 1) (nxM (gmfr σ - 1) σ)
def doR (sh : Bool) (σ : MS) : Nat := dpR (6 * (gmfr σ - 1)) (doP σ) (doZ sh σ) (nxM (gmfr σ - 1) σ)
