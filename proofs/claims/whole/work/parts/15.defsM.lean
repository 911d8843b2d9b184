def objI (v : Val) : Bool := match v with
  | .inl _ => false
  | .inr _ => true
theorem objI_f {v : Val} (h : objI v = false) : ∃ a, v = .inl a := by
  cases v with
  | inl a => exact ⟨a, rfl⟩
  | inr k => cases h
theorem objI_t {v : Val} (h : objI v = true) : ∃ k, v = .inr k := by
  cases v with
  | inl a => cases h
  | inr k => exact ⟨k, rfl⟩
theorem i32_rng (a : Int32) : -2147483648 ≤ a.toInt ∧ a.toInt < 2147483648 := ⟨a.le_toInt, a.toInt_lt⟩
theorem vJ_l (a : Int32) : (vJ (.inl a)).toInt = a.toInt := Int32.toInt_toInt64 a
theorem vJ_r {k : Nat} (h : k < 401) : (vJ (.inr k)).toInt = 4294967296 + (k : Int) := by
  show (lN (4294967296 + k)).toInt = _
  rw [pk_lT (by omega)]
  omega
theorem cmp_lt (x y : Int64) : lg_cmp x y < 0 ↔ x < y := by
  have h := lg_cmp_ge x y
  rw [Int32.lt_iff_toInt_lt, Int64.lt_iff_toInt_lt]
  rw [Int32.le_iff_toInt_le, Int64.le_iff_toInt_le] at h
  have h0 : (0 : Int32).toInt = 0 := by decide
  rw [h0] at h ⊢
  omega
theorem cmp_obj {v : Val} (hv : ∀ k, v = .inr k → k < 401) : lg_cmp (vJ v) 4294967296 < 0 ↔ objI v = false := by
  rw [cmp_lt, Int64.lt_iff_toInt_lt]
  have h0 : (4294967296 : Int64).toInt = 4294967296 := by decide
  rw [h0]
  cases v with
  | inl a =>
    rw [vJ_l]
    have := i32_rng a
    exact ⟨fun _ => rfl, fun _ => by omega⟩
  | inr k =>
    rw [vJ_r (hv k rfl)]
    exact ⟨fun h => by omega, fun h => by cases h⟩
theorem cmp_ll (a b : Int32) : 0 ≤ lg_cmp (vJ (.inl a)) (vJ (.inl b)) ↔ ¬ a < b := by
  rw [lg_cmp_ge, Int64.le_iff_toInt_le, vJ_l, vJ_l, Int32.lt_iff_toInt_lt]
  omega
theorem l2i_l (a : Int32) : (vJ (.inl a)).toInt32 = a := by
  show a.toInt64.toInt32 = a
  simp
theorem sub_obj {k : Nat} (h : k < 401) : (vJ (.inr k) - 4294967296).toInt32 = nI k := by
  have h1 : vJ (.inr k) - 4294967296 = lN k := by
    show lN (4294967296 + k) - lN 4294967296 = lN k
    rw [lN_sub (by omega), Nat.add_sub_cancel_left]
  rw [h1, lN_i]
theorem add_obj {k : Nat} (h : k < 2147483648) : (4294967296 : Int64) + (nI k).toInt64 = vJ (.inr k) := by
  rw [nI_l h]
  show lN 4294967296 + lN k = lN (4294967296 + k)
  rw [lN_add]
theorem cmp_z (x : Val) (hv : ∀ k, x = .inr k → k < 401) : lg_cmp (vJ x) (vJ (.inl 0)) = 0 ↔ x = .inl 0 := by
  have h0 : (vJ (.inl 0)).toInt = 0 := by decide
  have h1 : lg_cmp (vJ x) (vJ (.inl 0)) = 0 ↔ vJ x = vJ (.inl 0) := by
    unfold lg_cmp
    by_cases h : vJ x > vJ (.inl 0)
    · rw [if_pos h]
      refine ⟨fun e => absurd e (by decide), fun e => ?_⟩
      rw [e, gt_iff_lt, Int64.lt_iff_toInt_lt] at h
      omega
    · rw [if_neg h]
      by_cases h2 : vJ x = vJ (.inl 0)
      · rw [if_pos h2]; exact ⟨fun _ => h2, fun _ => rfl⟩
      · rw [if_neg h2]; exact ⟨fun e => absurd e (by decide), fun e => absurd e h2⟩
  rw [h1, ← Int64.toInt_inj, h0]
  cases x with
  | inl a =>
    rw [vJ_l]
    refine ⟨fun e => ?_, fun e => ?_⟩
    · have : a = 0 := Int32.toInt_inj.mp (by rw [e]; decide)
      rw [this]
    · cases e; decide
  | inr k =>
    rw [vJ_r (hv k rfl)]
    exact ⟨fun e => by omega, fun e => by cases e⟩
theorem max_n {a b : Nat} (ha : a < 2147483648) (hb : b < 2147483648) : (if nI a < nI b then nI b else nI a) = nI (max a b) := by
  by_cases h : a < b
  · rw [if_pos ((nI_ltI ha hb).mpr h), Nat.max_eq_right (by omega)]
  · rw [if_neg (fun z => h ((nI_ltI ha hb).mp z)), Nat.max_eq_left (by omega)]
/-- what holds of the run's rows in every state -/
def RI (σ : CS) : Prop := (PI σ ∧ WI σ) ∧ (∀ i, gcV σ i ≤ 6) ∧ ((∀ i, gcBo σ i < 24) ∧ (∀ i, gcNe σ i ≤ 19) ∧ (∀ i, gcAn σ i < 72) ∧ (∀ i, gcCl σ i < 6)) ∧ ((∀ i k, gcRg σ i = .inr k → k < 401) ∧ (∀ i k, gcFl σ i = .inr k → k < 401)) ∧ (gcCt σ 0 ≤ 40 ∧ gcCt σ 5 ≤ 12 ∧ gcCt σ 4 ≤ 400 ∧ gcCt σ 1 ≤ gcob σ) ∧ gcfr σ ≤ 12 ∧ gcrm σ ≤ 60 ∧ gcob σ ≤ 401
def rkF (pl ba : Nat) (σ : CS) : CS := match gcRg σ (ba + yN σ pl), gcRg σ (ba + zN σ pl) with
  | .inl a, .inl b => if gcK σ pl = 2 then scRg σ (va_up (gcRg σ) (ba + gcX σ pl) (.inl (a + b))) else scRg σ (va_up (gcRg σ) (ba + gcX σ pl) (.inl (if a < b then 1 else 0)))
  | _, _ => sctr σ 1
def noF (t : Nat) (σ : CS) : CS := scFl (scCl (scob σ (gcob σ + 1)) (va_up (gcCl σ) (gcob σ) t)) (fillF (gcFl σ) (gcob σ * 3) (gcob σ * 3 + 3) (.inl 0))
def inc (j : Nat) (σ : CS) : CS := scCt σ (va_up (gcCt σ) j (gcCt σ j + 1))
def mk2 (t r : Nat) (σ : CS) : CS := scRg (noF t σ) (va_up (gcRg σ) r (.inr (gcob σ)))
def mkF (pl r : Nat) (σ : CS) : CS := if gcsh σ = true ∧ gcV σ pl = 5 then mk2 (yN σ pl) r σ else if gcrm σ ≤ gcCt σ 1 then sctr σ 3 else mk2 (yN σ pl) r (inc 1 σ)
def rfF (pl ba : Nat) (σ : CS) : CS := match gcRg σ (ba + yN σ pl) with
  | .inr k => scRg σ (va_up (gcRg σ) (ba + gcX σ pl) (gcFl σ (k * 3 + zN σ pl)))
  | .inl _ => sctr σ 1
def wfF2 (pl ba : Nat) (σ : CS) : CS := match gcRg σ (ba + gcX σ pl) with
  | .inr k => scFl σ (va_up (gcFl σ) (k * 3 + zN σ pl) (gcRg σ (ba + yN σ pl)))
  | .inl _ => sctr σ 1
def ccF (v : Nat) (σ : CS) : CS := if v = 2 then inc 3 σ else if v = 3 then σ else inc 3 (inc 2 σ)
def enF (b : Nat) (x y : Val) (σ : CS) : CS := scCt (scfr (scNe (scBo (scRg σ (va_up (va_up (fillF (gcRg σ) (gcfr σ * 6) (gcfr σ * 6 + 6) (.inl 0)) (gcfr σ * 6) x) (gcfr σ * 6 + 1) y)) (va_up (gcBo σ) (gcfr σ) b)) (va_up (gcNe σ) (gcfr σ) 0)) (gcfr σ + 1)) (va_up (gcCt σ) 5 (max (gcCt σ 5) (gcfr σ + 1)))
def sdF (pl ba : Nat) (σ : CS) : CS := match gcRg σ (ba + yN σ pl) with
  | .inl _ => sctr σ 1
  | .inr k => match tgC σ (gcCl σ k) (zN σ pl) with
    | none => sctr σ 6
    | some b => if 12 ≤ gcfr σ then sctr σ 4 else enF b (.inr k) (gcRg σ (ba + 5)) (scAn (ccF (if gcsh σ = true then gcV σ pl else 0) σ) (va_up (gcAn σ) (gcfr σ) (ba + gcX σ pl)))
def anF (v : Val) (σ : CS) : CS := if 0 < gcfr σ - 1 then scRg (scfr σ (gcfr σ - 1)) (va_up (gcRg σ) (gcAn σ (gcfr σ - 1)) v) else scfr σ (gcfr σ - 1)
def poV (v : Val) (σ : CS) : Int32 := match v with
  | .inr k => nI (1000 + gcCl σ k)
  | .inl x => x
def prF (v : Val) (σ : CS) : CS := if 40 ≤ gcCt σ 0 then sctr σ 7 else inc 0 (scPo σ (va_up (gcPo σ) (gcCt σ 0) (poV v σ)))
def ckF (v : Val) (t : Nat) (σ : CS) : CS := match v with
  | .inl _ => sctr σ 1
  | .inr k => if isF (gcP σ) t 6 (some (gcCl σ k)) = true then σ else sctr σ 2
def skF (pl x : Nat) (σ : CS) : CS := if gcRg σ x = .inl 0 then scNe σ (va_up (gcNe σ) (gcfr σ - 1) (gcNe σ (gcfr σ - 1) + yN σ pl)) else σ
def pfF (pl ba : Nat) (σ : CS) : CS := match gcK σ pl with
  | 0 => scRg σ (va_up (gcRg σ) (ba + gcX σ pl) (.inl (gcY σ pl)))
  | 1 => scRg σ (va_up (gcRg σ) (ba + gcX σ pl) (gcRg σ (ba + yN σ pl)))
  | 2 => rkF pl ba σ
  | 3 => rkF pl ba σ
  | 4 => mkF pl (ba + gcX σ pl) σ
  | 5 => rfF pl ba σ
  | 6 => wfF2 pl ba σ
  | 7 => sdF pl ba σ
  | 8 => prF (gcRg σ (ba + gcX σ pl)) σ
  | 9 => skF pl (ba + gcX σ pl) σ
  | 10 => ckF (gcRg σ (ba + gcX σ pl)) (yN σ pl) σ
  | _ => anF (gcRg σ (ba + gcX σ pl)) σ
def nxF (j : Nat) (σ : CS) : CS := scNe σ (va_up (gcNe σ) j (gcNe σ j + 1))
def stF (σ : CS) : CS := if 400 ≤ gcCt σ 4 then sctr σ 5 else pfF (gcBo σ (gcfr σ - 1) * 10 + gcNe σ (gcfr σ - 1)) ((gcfr σ - 1) * 6) (nxF (gcfr σ - 1) (inc 4 σ))
def igL : Nat → CS → CS
  | 0, τ => τ
  | n + 1, τ => if gctr τ = 0 then (if gcL τ (gcBo τ n) ≤ gcNe τ n then igL n (anF (.inl 0) τ) else τ) else τ
def igF (σ : CS) : CS := igL (gcfr σ) σ
def igB (σ : CS) : Bool := decide (gctr (igF σ) = 0) && decide (0 < gcfr (igF σ))
def bgF (σ : CS) : CS := if gcrm σ < 1 then sctr σ 3 else match tgC σ 0 0 with
  | none => sctr (inc 1 (noF 0 σ)) 6
  | some b => enF b (.inr (gcob σ)) (.inl 0) (inc 3 (inc 1 (noF 0 σ)))
def exL : Nat → CS → CS
  | 0, τ => τ
  | n + 1, τ => if igB τ = true then exL n (stF (igF τ)) else igF τ
def ex0 (b : Bool) (h : Nat) (σ : CS) : CS := scCt (sctr (scob (scfr (scrm (scsh σ b) h) 0) 0) 0) (fillF (gcCt σ) 0 6 0)
def exF (b : Bool) (h : Nat) (σ : CS) : CS := exL 401 (bgF (ex0 b h σ))
