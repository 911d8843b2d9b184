def objI (v : Val) : Bool := match v with
  | .inl _ => false
  | .inr _ => true
theorem objI_f {v : Val} (h : objI v = false) : ∃ a, v = .inl a := by
  cases v with
  | inl a => exact ⟨a, rfl⟩
  | inr k => cases h
theorem objI_t {v : Val} (h : objI v = true) : ∃ k, v = .inr k := by
  cases v with
  | inl a => cases h
  | inr k => exact ⟨k, rfl⟩
theorem i32_rng (a : Int32) : -2147483648 ≤ a.toInt ∧ a.toInt < 2147483648 := ⟨a.le_toInt, a.toInt_lt⟩
theorem vJ_l (a : Int32) : (vJ (.inl a)).toInt = a.toInt := Int32.toInt_toInt64 a
theorem vJ_r {k : Nat} (h : k < 401) : (vJ (.inr k)).toInt = 4294967296 + (k : Int) := by
  show (lN (4294967296 + k)).toInt = _
  rw [pk_lT (by omega)]
  omega
theorem cmp_lt (x y : Int64) : lg_cmp x y < 0 ↔ x < y := by
  have h := lg_cmp_ge x y
  rw [Int32.lt_iff_toInt_lt, Int64.lt_iff_toInt_lt]
  rw [Int32.le_iff_toInt_le, Int64.le_iff_toInt_le] at h
  have h0 : (0 : Int32).toInt = 0 := by decide
  rw [h0] at h ⊢
  omega
theorem cmp_obj {v : Val} (hv : ∀ k, v = .inr k → k < 401) : lg_cmp (vJ v) 4294967296 < 0 ↔ objI v = false := by
  rw [cmp_lt, Int64.lt_iff_toInt_lt]
  have h0 : (4294967296 : Int64).toInt = 4294967296 := by decide
  rw [h0]
  cases v with
  | inl a =>
    rw [vJ_l]
    have := i32_rng a
    exact ⟨fun _ => rfl, fun _ => by omega⟩
  | inr k =>
    rw [vJ_r (hv k rfl)]
    exact ⟨fun h => by omega, fun h => by cases h⟩
theorem cmp_ll (a b : Int32) : 0 ≤ lg_cmp (vJ (.inl a)) (vJ (.inl b)) ↔ ¬ a < b := by
  rw [lg_cmp_ge, Int64.le_iff_toInt_le, vJ_l, vJ_l, Int32.lt_iff_toInt_lt]
  omega
theorem l2i_l (a : Int32) : (vJ (.inl a)).toInt32 = a := by
  show a.toInt64.toInt32 = a
  simp
theorem sub_obj {k : Nat} (h : k < 401) : (vJ (.inr k) - 4294967296).toInt32 = nI k := by
  have h1 : vJ (.inr k) - 4294967296 = lN k := by
    show lN (4294967296 + k) - lN 4294967296 = lN k
    rw [lN_sub (by omega), Nat.add_sub_cancel_left]
  rw [h1, lN_i]
theorem add_obj {k : Nat} (h : k < 2147483648) : (4294967296 : Int64) + (nI k).toInt64 = vJ (.inr k) := by
  rw [nI_l h]
  show lN 4294967296 + lN k = lN (4294967296 + k)
  rw [lN_add]
theorem cmp_z (x : Val) (hv : ∀ k, x = .inr k → k < 401) : lg_cmp (vJ x) (vJ (.inl 0)) = 0 ↔ x = .inl 0 := by
  have h0 : (vJ (.inl 0)).toInt = 0 := by decide
  have h1 : lg_cmp (vJ x) (vJ (.inl 0)) = 0 ↔ vJ x = vJ (.inl 0) := by
    unfold lg_cmp
    by_cases h : vJ x > vJ (.inl 0)
    · rw [if_pos h]
      refine ⟨fun e => absurd e (by decide), fun e => ?_⟩
      rw [e, gt_iff_lt, Int64.lt_iff_toInt_lt] at h
      omega
    · rw [if_neg h]
      by_cases h2 : vJ x = vJ (.inl 0)
      · rw [if_pos h2]; exact ⟨fun _ => h2, fun _ => rfl⟩
      · rw [if_neg h2]; exact ⟨fun e => absurd e (by decide), fun e => absurd e h2⟩
  rw [h1, ← Int64.toInt_inj, h0]
  cases x with
  | inl a =>
    rw [vJ_l]
    refine ⟨fun e => ?_, fun e => ?_⟩
    · have : a = 0 := Int32.toInt_inj.mp (by rw [e]; decide)
      rw [this]
    · cases e; decide
  | inr k =>
    rw [vJ_r (hv k rfl)]
    exact ⟨fun e => by omega, fun e => by cases e⟩
theorem max_n {a b : Nat} (ha : a < 2147483648) (hb : b < 2147483648) : (if nI a < nI b then nI b else nI a) = nI (max a b) := by
  by_cases h : a < b
  · rw [if_pos ((nI_ltI ha hb).mpr h), Nat.max_eq_right (by omega)]
  · rw [if_neg (fun z => h ((nI_ltI ha hb).mp z)), Nat.max_eq_left (by omega)]
/-- what holds of the run's rows in every state -/
def RI (σ : CS) : Prop := (PI σ ∧ WI σ) ∧ (∀ i, gcV σ i ≤ 6) ∧ ((∀ i, gcBo σ i < 24) ∧ (∀ i, gcNe σ i ≤ 19) ∧ (∀ i, gcAn σ i < 72) ∧ (∀ i, gcCl σ i < 6)) ∧ ((∀ i k, gcRg σ i = .inr k → k < 401) ∧ (∀ i k, gcFl σ i = .inr k → k < 401)) ∧ (gcCt σ 0 ≤ 40 ∧ gcCt σ 5 ≤ 12 ∧ gcCt σ 4 ≤ 400 ∧ gcCt σ 1 ≤ gcob σ) ∧ gcfr σ ≤ 12 ∧ gcrm σ ≤ 60 ∧ gcob σ ≤ 401 ∧ gctr σ ≤ 7
def rkF (pl ba : Nat) (σ : CS) : CS := match gcRg σ (ba + yN σ pl), gcRg σ (ba + zN σ pl) with
  | .inl a, .inl b => if gcK σ pl = 2 then scRg σ (va_up (gcRg σ) (ba + gcX σ pl) (.inl (a + b))) else scRg σ (va_up (gcRg σ) (ba + gcX σ pl) (.inl (if a < b then 1 else 0)))
  | _, _ => sctr σ 1
def noF (t : Nat) (σ : CS) : CS := scFl (scCl (scob σ (gcob σ + 1)) (va_up (gcCl σ) (gcob σ) t)) (fillF (gcFl σ) (gcob σ * 3) (gcob σ * 3 + 3) (.inl 0))
def inc (j : Nat) (σ : CS) : CS := scCt σ (va_up (gcCt σ) j (gcCt σ j + 1))
def mk2 (t r : Nat) (σ : CS) : CS := scRg (noF t σ) (va_up (gcRg σ) r (.inr (gcob σ)))
def mkF (pl r : Nat) (σ : CS) : CS := if gcsh σ = true ∧ gcV σ pl = 5 then mk2 (yN σ pl) r σ else if gcrm σ ≤ gcCt σ 1 then sctr σ 3 else mk2 (yN σ pl) r (inc 1 σ)
def rfF (pl ba : Nat) (σ : CS) : CS := match gcRg σ (ba + yN σ pl) with
  | .inr k => scRg σ (va_up (gcRg σ) (ba + gcX σ pl) (gcFl σ (k * 3 + zN σ pl)))
  | .inl _ => sctr σ 1
def wfF2 (pl ba : Nat) (σ : CS) : CS := match gcRg σ (ba + gcX σ pl) with
  | .inr k => scFl σ (va_up (gcFl σ) (k * 3 + zN σ pl) (gcRg σ (ba + yN σ pl)))
  | .inl _ => sctr σ 1
def ccF (v : Nat) (σ : CS) : CS := if v = 2 then inc 3 σ else if v = 3 then σ else inc 3 (inc 2 σ)
def enF (b : Nat) (x y : Val) (σ : CS) : CS := scCt (scfr (scNe (scBo (scRg σ (va_up (va_up (fillF (gcRg σ) (gcfr σ * 6) (gcfr σ * 6 + 6) (.inl 0)) (gcfr σ * 6) x) (gcfr σ * 6 + 1) y)) (va_up (gcBo σ) (gcfr σ) b)) (va_up (gcNe σ) (gcfr σ) 0)) (gcfr σ + 1)) (va_up (gcCt σ) 5 (max (gcCt σ 5) (gcfr σ + 1)))
def sdF (pl ba : Nat) (σ : CS) : CS := match gcRg σ (ba + yN σ pl) with
  | .inl _ => sctr σ 1
  | .inr k => match tgC σ (gcCl σ k) (zN σ pl) with
    | none => sctr σ 6
    | some b => if 12 ≤ gcfr σ then sctr σ 4 else enF b (.inr k) (gcRg σ (ba + 5)) (scAn (ccF (if gcsh σ = true then gcV σ pl else 0) σ) (va_up (gcAn σ) (gcfr σ) (ba + gcX σ pl)))
def anF (v : Val) (σ : CS) : CS := if 0 < gcfr σ - 1 then scRg (scfr σ (gcfr σ - 1)) (va_up (gcRg σ) (gcAn σ (gcfr σ - 1)) v) else scfr σ (gcfr σ - 1)
def poV (v : Val) (σ : CS) : Int32 := match v with
  | .inr k => nI (1000 + gcCl σ k)
  | .inl x => x
def prF (v : Val) (σ : CS) : CS := if 40 ≤ gcCt σ 0 then sctr σ 7 else inc 0 (scPo σ (va_up (gcPo σ) (gcCt σ 0) (poV v σ)))
def ckF (v : Val) (t : Nat) (σ : CS) : CS := match v with
  | .inl _ => sctr σ 1
  | .inr k => if isF (gcP σ) t 6 (some (gcCl σ k)) = true then σ else sctr σ 2
def skF (pl x : Nat) (σ : CS) : CS := if gcRg σ x = .inl 0 then scNe σ (va_up (gcNe σ) (gcfr σ - 1) (gcNe σ (gcfr σ - 1) + yN σ pl)) else σ
def pfF (pl ba : Nat) (σ : CS) : CS := match gcK σ pl with
  | 0 => scRg σ (va_up (gcRg σ) (ba + gcX σ pl) (.inl (gcY σ pl)))
  | 1 => scRg σ (va_up (gcRg σ) (ba + gcX σ pl) (gcRg σ (ba + yN σ pl)))
  | 2 => rkF pl ba σ
  | 3 => rkF pl ba σ
  | 4 => mkF pl (ba + gcX σ pl) σ
  | 5 => rfF pl ba σ
  | 6 => wfF2 pl ba σ
  | 7 => sdF pl ba σ
  | 8 => prF (gcRg σ (ba + gcX σ pl)) σ
  | 9 => skF pl (ba + gcX σ pl) σ
  | 10 => ckF (gcRg σ (ba + gcX σ pl)) (yN σ pl) σ
  | _ => anF (gcRg σ (ba + gcX σ pl)) σ
def nxF (j : Nat) (σ : CS) : CS := scNe σ (va_up (gcNe σ) j (gcNe σ j + 1))
def stF (σ : CS) : CS := if 400 ≤ gcCt σ 4 then sctr σ 5 else pfF (gcBo σ (gcfr σ - 1) * 10 + gcNe σ (gcfr σ - 1)) ((gcfr σ - 1) * 6) (nxF (gcfr σ - 1) (inc 4 σ))
def igL : Nat → CS → CS
  | 0, τ => τ
  | n + 1, τ => if gcL τ (gcBo τ n) ≤ gcNe τ n then igL n (anF (.inl 0) τ) else τ
def igF (σ : CS) : CS := igL (gcfr σ) σ
def igB (σ : CS) : Bool := decide (gctr σ = 0) && decide (0 < gcfr σ)
def bgF (σ : CS) : CS := if gcrm σ < 1 then sctr σ 3 else match tgC σ 0 0 with
  | none => sctr (inc 1 (noF 0 σ)) 6
  | some b => enF b (.inr (gcob σ)) (.inl 0) (inc 3 (inc 1 (noF 0 σ)))
def exL : Nat → CS → CS
  | 0, τ => τ
  | n + 1, τ => if igB τ = true then exL n (igF (stF τ)) else τ
def ex0 (b : Bool) (h : Nat) (σ : CS) : CS := scCt (sctr (scob (scfr (scrm (scsh σ b) h) 0) 0) 0) (fillF (gcCt σ) 0 6 0)
def exF (b : Bool) (h : Nat) (σ : CS) : CS := exL 401 (bgF (ex0 b h σ))

theorem va_up_i {α : Type} (f : Nat → α) (k : Nat) (v : α) (j : Nat) (P : α → Prop) (h1 : P v) (h2 : P (f j)) : P (va_up f k v j) := by
  unfold va_up
  by_cases h : j = k
  · rw [if_pos h]; exact h1
  · rw [if_neg h]; exact h2
theorem fillF_i {α : Type} (f : Nat → α) (a b : Nat) (v : α) (j : Nat) (P : α → Prop) (h1 : P v) (h2 : P (f j)) : P (fillF f a b v j) := by
  unfold fillF
  by_cases h : a ≤ j ∧ j < b
  · rw [if_pos h]; exact h1
  · rw [if_neg h]; exact h2
set_option maxHeartbeats 100000 in
theorem en_get (b : Nat) (x y : Val) (τ : CS) : gcob (enF b x y τ) = gcob τ ∧ gcCt (enF b x y τ) 4 = gcCt τ 4 := by
  simp only [enF, gcP, gcL, gcK, gcX, gcY, gcZ, gcn, gcV, gcCV, gcma, gcre, gcca, gcRg, gcBo, gcNe, gcAn, gcCl, gcFl, gcPo, gcCt, gcsh, gcrm, gcfr, gcob, gctr, scP, scL, scK, scX, scY, scZ, scn, scV, scCV, scma, scre, scca, scRg, scBo, scNe, scAn, scCl, scFl, scPo, scCt, scsh, scrm, scfr, scob, sctr, va_up, and_self]
  simp
set_option maxHeartbeats 100000 in
theorem ex0_get (b : Bool) (h : Nat) (σ : CS) : gcob (ex0 b h σ) = 0 ∧ gcfr (ex0 b h σ) = 0 ∧ gctr (ex0 b h σ) = 0 ∧ gcrm (ex0 b h σ) = h ∧ gcsh (ex0 b h σ) = b ∧ gcCt (ex0 b h σ) = fillF (gcCt σ) 0 6 0 := by
  simp only [ex0, gcP, gcL, gcK, gcX, gcY, gcZ, gcn, gcV, gcCV, gcma, gcre, gcca, gcRg, gcBo, gcNe, gcAn, gcCl, gcFl, gcPo, gcCt, gcsh, gcrm, gcfr, gcob, gctr, scP, scL, scK, scX, scY, scZ, scn, scV, scCV, scma, scre, scca, scRg, scBo, scNe, scAn, scCl, scFl, scPo, scCt, scsh, scrm, scfr, scob, sctr, and_self]
set_option maxHeartbeats 100000 in
theorem mk2_get (t r : Nat) (τ : CS) : gcob (mk2 t r τ) = gcob τ + 1 ∧ gcCt (mk2 t r τ) = gcCt τ ∧ gcfr (mk2 t r τ) = gcfr τ := by
  simp only [mk2, noF, gcP, gcL, gcK, gcX, gcY, gcZ, gcn, gcV, gcCV, gcma, gcre, gcca, gcRg, gcBo, gcNe, gcAn, gcCl, gcFl, gcPo, gcCt, gcsh, gcrm, gcfr, gcob, gctr, scP, scL, scK, scX, scY, scZ, scn, scV, scCV, scma, scre, scca, scRg, scBo, scNe, scAn, scCl, scFl, scPo, scCt, scsh, scrm, scfr, scob, sctr, and_self]
set_option maxHeartbeats 100000 in
theorem inc_get (j : Nat) (τ : CS) : gcob (inc j τ) = gcob τ ∧ gcCt (inc j τ) = va_up (gcCt τ) j (gcCt τ j + 1) ∧ gcfr (inc j τ) = gcfr τ ∧ gcRg (inc j τ) = gcRg τ := by
  simp only [inc, gcP, gcL, gcK, gcX, gcY, gcZ, gcn, gcV, gcCV, gcma, gcre, gcca, gcRg, gcBo, gcNe, gcAn, gcCl, gcFl, gcPo, gcCt, gcsh, gcrm, gcfr, gcob, gctr, scP, scL, scK, scX, scY, scZ, scn, scV, scCV, scma, scre, scca, scRg, scBo, scNe, scAn, scCl, scFl, scPo, scCt, scsh, scrm, scfr, scob, sctr, and_self]
set_option maxHeartbeats 100000 in
theorem tr_get (v : Nat) (τ : CS) : gcob (sctr τ v) = gcob τ ∧ gcCt (sctr τ v) = gcCt τ ∧ gcfr (sctr τ v) = gcfr τ := by
  simp only [gcP, gcL, gcK, gcX, gcY, gcZ, gcn, gcV, gcCV, gcma, gcre, gcca, gcRg, gcBo, gcNe, gcAn, gcCl, gcFl, gcPo, gcCt, gcsh, gcrm, gcfr, gcob, gctr, scP, scL, scK, scX, scY, scZ, scn, scV, scCV, scma, scre, scca, scRg, scBo, scNe, scAn, scCl, scFl, scPo, scCt, scsh, scrm, scfr, scob, sctr, and_self]
set_option maxHeartbeats 100000 in
theorem mk2_inc (t r : Nat) (σ : CS) : mk2 t r (inc 1 σ) = scRg (inc 1 (noF t σ)) (va_up (gcRg σ) r (.inr (gcob σ))) := by
  simp only [mk2, inc, noF, gcP, gcL, gcK, gcX, gcY, gcZ, gcn, gcV, gcCV, gcma, gcre, gcca, gcRg, gcBo, gcNe, gcAn, gcCl, gcFl, gcPo, gcCt, gcsh, gcrm, gcfr, gcob, gctr, scP, scL, scK, scX, scY, scZ, scn, scV, scCV, scma, scre, scca, scRg, scBo, scNe, scAn, scCl, scFl, scPo, scCt, scsh, scrm, scfr, scob, sctr]
theorem RI_tr {σ : CS} {v : Nat} (h : RI σ) (hv : v ≤ 7) : RI (sctr σ v) := ⟨h.1, h.2.1, h.2.2.1, h.2.2.2.1, h.2.2.2.2.1, h.2.2.2.2.2.1, h.2.2.2.2.2.2.1, h.2.2.2.2.2.2.2.1, hv⟩
theorem RI_Rg {σ : CS} {f : Nat → Val} (h : RI σ) (hf : ∀ i k, f i = .inr k → k < 401) : RI (scRg σ f) := ⟨h.1, h.2.1, h.2.2.1, ⟨hf, h.2.2.2.1.2⟩, h.2.2.2.2⟩
theorem up_rg {f : Nat → Val} (hf : ∀ i k, f i = .inr k → k < 401) (x : Nat) {v : Val} (hv : ∀ k, v = .inr k → k < 401) : ∀ i k, va_up f x v i = .inr k → k < 401 := fun i => va_up_i f x v i (fun z => ∀ k, z = .inr k → k < 401) hv (hf i)
theorem RI_Fl {σ : CS} {f : Nat → Val} (h : RI σ) (hf : ∀ i k, f i = .inr k → k < 401) : RI (scFl σ f) := ⟨h.1, h.2.1, h.2.2.1, ⟨h.2.2.2.1.1, hf⟩, h.2.2.2.2⟩
theorem RI_Ne {σ : CS} {x v : Nat} (h : RI σ) (hv : v ≤ 19) : RI (scNe σ (va_up (gcNe σ) x v)) := ⟨h.1, h.2.1, ⟨h.2.2.1.1, fun i => va_up_i _ _ _ i (fun z => z ≤ 19) hv (h.2.2.1.2.1 i), h.2.2.1.2.2⟩, h.2.2.2⟩
theorem RI_Bo {σ : CS} {x v : Nat} (h : RI σ) (hv : v < 24) : RI (scBo σ (va_up (gcBo σ) x v)) := ⟨h.1, h.2.1, ⟨fun i => va_up_i _ _ _ i (fun z => z < 24) hv (h.2.2.1.1 i), h.2.2.1.2⟩, h.2.2.2⟩
theorem RI_An {σ : CS} {x v : Nat} (h : RI σ) (hv : v < 72) : RI (scAn σ (va_up (gcAn σ) x v)) := ⟨h.1, h.2.1, ⟨h.2.2.1.1, h.2.2.1.2.1, fun i => va_up_i _ _ _ i (fun z => z < 72) hv (h.2.2.1.2.2.1 i), h.2.2.1.2.2.2⟩, h.2.2.2⟩
theorem RI_Po {σ : CS} {f : Nat → Int32} (h : RI σ) : RI (scPo σ f) := h
theorem RI_fr {σ : CS} {v : Nat} (h : RI σ) (hv : v ≤ 12) : RI (scfr σ v) := ⟨h.1, h.2.1, h.2.2.1, h.2.2.2.1, h.2.2.2.2.1, hv, h.2.2.2.2.2.2⟩
theorem RI_Ct {σ : CS} {f : Nat → Nat} (h : RI σ) (h0 : f 0 ≤ 40) (h5 : f 5 ≤ 12) (h4 : f 4 ≤ 400) (h1 : f 1 ≤ gcob σ) : RI (scCt σ f) := ⟨h.1, h.2.1, h.2.2.1, h.2.2.2.1, ⟨h0, h5, h4, h1⟩, h.2.2.2.2.2⟩
theorem RI_ob {σ : CS} {v : Nat} (h : RI σ) (h1 : gcob σ ≤ v) (h2 : v ≤ 401) : RI (scob σ v) := ⟨h.1, h.2.1, h.2.2.1, h.2.2.2.1, ⟨h.2.2.2.2.1.1, h.2.2.2.2.1.2.1, h.2.2.2.2.1.2.2.1, Nat.le_trans h.2.2.2.2.1.2.2.2 h1⟩, h.2.2.2.2.2.1, h.2.2.2.2.2.2.1, h2, h.2.2.2.2.2.2.2.2⟩
theorem RI_Cl {σ : CS} {x v : Nat} (h : RI σ) (hv : v < 6) : RI (scCl σ (va_up (gcCl σ) x v)) := ⟨h.1, h.2.1, ⟨h.2.2.1.1, h.2.2.1.2.1, h.2.2.1.2.2.1, fun i => va_up_i _ _ _ i (fun z => z < 6) hv (h.2.2.1.2.2.2 i)⟩, h.2.2.2⟩
theorem fill_rg {f : Nat → Val} (hf : ∀ i k, f i = Sum.inr k → k < 401) (a b : Nat) : ∀ i k, fillF f a b (Sum.inl 0) i = Sum.inr k → k < 401 := fun i => fillF_i f a b (Sum.inl 0) i (fun z => ∀ k, z = Sum.inr k → k < 401) (fun k hk => by cases hk) (hf i)
set_option maxHeartbeats 100000 in
theorem RI_no {σ : CS} {t : Nat} (h : RI σ) (ht : t < 6) (hob : gcob σ < 401) : RI (noF t σ) := by
  have h1 : RI (scob σ (gcob σ + 1)) := RI_ob h (Nat.le_succ _) hob
  have h2 : RI (scCl (scob σ (gcob σ + 1)) (va_up (gcCl (scob σ (gcob σ + 1))) (gcob σ) t)) := RI_Cl h1 ht
  exact RI_Fl h2 (fill_rg h.2.2.2.1.2 _ _)
theorem RI_inc2 {σ : CS} (h : RI σ) : RI (inc 2 σ) := RI_Ct h h.2.2.2.2.1.1 h.2.2.2.2.1.2.1 h.2.2.2.2.1.2.2.1 h.2.2.2.2.1.2.2.2
theorem RI_inc3 {σ : CS} (h : RI σ) : RI (inc 3 σ) := RI_Ct h h.2.2.2.2.1.1 h.2.2.2.2.1.2.1 h.2.2.2.2.1.2.2.1 h.2.2.2.2.1.2.2.2
theorem RI_inc4 {σ : CS} (h : RI σ) (h4 : gcCt σ 4 < 400) : RI (inc 4 σ) := RI_Ct h h.2.2.2.2.1.1 h.2.2.2.2.1.2.1 h4 h.2.2.2.2.1.2.2.2
theorem RI_cc {σ : CS} {v : Nat} (h : RI σ) : RI (ccF v σ) := by
  unfold ccF
  by_cases e : v = 2
  · rw [if_pos e]; exact RI_inc3 h
  · rw [if_neg e]
    by_cases e3 : v = 3
    · rw [if_pos e3]; exact h
    · rw [if_neg e3]; exact RI_inc3 (RI_inc2 h)
theorem cc_ob (v : Nat) (σ : CS) : gcob (ccF v σ) = gcob σ ∧ gcCt (ccF v σ) 4 = gcCt σ 4 ∧ gcfr (ccF v σ) = gcfr σ ∧ gcRg (ccF v σ) = gcRg σ ∧ gcAn (ccF v σ) = gcAn σ := by
  unfold ccF
  by_cases e : v = 2
  · rw [if_pos e]; exact ⟨rfl, rfl, rfl, rfl, rfl⟩
  · rw [if_neg e]
    by_cases e3 : v = 3
    · rw [if_pos e3]; exact ⟨rfl, rfl, rfl, rfl, rfl⟩
    · rw [if_neg e3]; exact ⟨rfl, rfl, rfl, rfl, rfl⟩
set_option maxHeartbeats 100000 in
theorem RI_en {σ : CS} {b : Nat} {x y : Val} (h : RI σ) (hb : b < 24) (hx : ∀ k, x = .inr k → k < 401) (hy : ∀ k, y = .inr k → k < 401) (hf : gcfr σ < 12) : RI (enF b x y σ) := by
  have h1 := RI_Rg h (up_rg (up_rg (fill_rg h.2.2.2.1.1 (gcfr σ * 6) (gcfr σ * 6 + 6)) (gcfr σ * 6) hx) (gcfr σ * 6 + 1) hy)
  have h2 := RI_Bo (x := gcfr σ) h1 hb
  have h3 := RI_Ne (x := gcfr σ) h2 (Nat.zero_le 19)
  have h4 := RI_fr h3 (v := gcfr σ + 1) hf
  exact RI_Ct h4 h.2.2.2.2.1.1 (show max (gcCt σ 5) (gcfr σ + 1) ≤ 12 from Nat.max_le.mpr ⟨h.2.2.2.2.1.2.1, hf⟩) h.2.2.2.2.1.2.2.1 h.2.2.2.2.1.2.2.2
/-- the run's states: and no more objects than operations and one -/
def GI (σ : CS) : Prop := RI σ ∧ gcob σ ≤ 1 + gcCt σ 4
theorem GI_an {σ : CS} {v : Val} (h : GI σ) (hv : ∀ k, v = .inr k → k < 401) : GI (anF v σ) := by
  have hf := h.1.2.2.2.2.2.1
  unfold anF
  by_cases e : 0 < gcfr σ - 1
  · rw [if_pos e]; exact ⟨RI_Rg (RI_fr h.1 (by omega)) (up_rg h.1.2.2.2.1.1 _ hv), h.2⟩
  · rw [if_neg e]; exact ⟨RI_fr h.1 (by omega), h.2⟩
theorem GI_igL : ∀ (n : Nat) (τ : CS), GI τ → GI (igL n τ) := by
  intro n
  induction n with
  | zero => intro τ h; exact h
  | succ n ih =>
    intro τ h
    unfold igL
    by_cases e2 : gcL τ (gcBo τ n) ≤ gcNe τ n
    · rw [if_pos e2]; exact ih _ (GI_an h (fun k hk => by cases hk))
    · rw [if_neg e2]; exact h
theorem GI_ig {σ : CS} (h : GI σ) : GI (igF σ) := GI_igL _ _ h
theorem an_fr (v : Val) (σ : CS) : gcfr (anF v σ) = gcfr σ - 1 ∧ gctr (anF v σ) = gctr σ ∧ gcL (anF v σ) = gcL σ ∧ gcBo (anF v σ) = gcBo σ ∧ gcNe (anF v σ) = gcNe σ := by
  unfold anF
  by_cases e : 0 < gcfr σ - 1
  · rw [if_pos e]; exact ⟨rfl, rfl, rfl, rfl, rfl⟩
  · rw [if_neg e]; exact ⟨rfl, rfl, rfl, rfl, rfl⟩
/-- the frame on top has an operation to do -/
def TP (σ : CS) : Prop := 0 < gcfr σ → gcNe σ (gcfr σ - 1) < gcL σ (gcBo σ (gcfr σ - 1))
theorem ig_top : ∀ (n : Nat) (τ : CS), gcfr τ = n → TP (igL n τ) := by
  intro n
  induction n with
  | zero => intro τ hf h0; exact absurd h0 (by show ¬ 0 < gcfr τ; omega)
  | succ n ih =>
    intro τ hf
    unfold igL
    by_cases e2 : gcL τ (gcBo τ n) ≤ gcNe τ n
    · rw [if_pos e2]; exact ih _ (by rw [(an_fr _ τ).1]; omega)
    · rw [if_neg e2]
      intro _
      rw [hf]
      exact Nat.lt_of_not_le e2
theorem TP_ig (σ : CS) : TP (igF σ) := ig_top _ _ rfl
theorem ig_tr : ∀ (n : Nat) (τ : CS), gctr (igL n τ) = gctr τ := by
  intro n
  induction n with
  | zero => intro τ; rfl
  | succ n ih =>
    intro τ
    unfold igL
    by_cases e2 : gcL τ (gcBo τ n) ≤ gcNe τ n
    · rw [if_pos e2, ih, (an_fr _ τ).2.1]
    · rw [if_neg e2]
theorem igB_top {σ : CS} (h : igB σ = true) (hU : TP σ) : 0 < gcfr σ ∧ gcNe σ (gcfr σ - 1) < gcL σ (gcBo σ (gcfr σ - 1)) := by
  simp only [igB, Bool.and_eq_true, decide_eq_true_eq] at h
  exact ⟨h.2, hU h.2⟩
theorem tgt_pos {P : Nat → Option Nat} {L : Nat → Nat} {q b : Nat} : ∀ (f : Nat) (o : Option Nat), tgtF P L q f o = some b → 0 < L b := by
  intro f
  induction f with
  | zero => intro o h; cases o <;> cases h
  | succ f ih =>
    intro o h
    cases o with
    | none => cases h
    | some a =>
      unfold tgtF at h
      by_cases e : 0 < L (a * 4 + q)
      · rw [if_pos e] at h; cases h; exact e
      · rw [if_neg e] at h; exact ih _ h
/-- what a performed operation needs -/
def OI (pl ba : Nat) (σ : CS) : Prop := RI σ ∧ pl < 240 ∧ ba ≤ 66 ∧ 0 < gcfr σ ∧ gcob σ ≤ 400 ∧ gcob σ ≤ gcCt σ 4 ∧ gcNe σ (gcfr σ - 1) ≤ 10
theorem GI_tr {σ : CS} {v : Nat} (h : GI σ) (hv : v ≤ 7) : GI (sctr σ v) := ⟨RI_tr h.1 hv, h.2⟩
set_option maxHeartbeats 100000 in
theorem GI_mk2 {σ : CS} {t r : Nat} (h : RI σ) (ht : t < 6) (hob : gcob σ ≤ 400) (h4 : gcob σ ≤ gcCt σ 4) : GI (mk2 t r σ) := by
  have h1 := RI_no h ht (Nat.lt_succ_of_le hob)
  have h2 : ∀ k, (Sum.inr (gcob σ) : Val) = Sum.inr k → k < 401 := fun k hk => by
    cases hk
    exact Nat.lt_succ_of_le hob
  refine ⟨RI_Rg h1 (up_rg h.2.2.2.1.1 r h2), ?_⟩
  rw [(mk2_get t r σ).1, (mk2_get t r σ).2.1]
  omega
set_option maxHeartbeats 100000 in
theorem GI_mk2i {σ : CS} {t r : Nat} (h : RI σ) (ht : t < 6) (hob : gcob σ ≤ 400) (h4 : gcob σ ≤ gcCt σ 4) : GI (mk2 t r (inc 1 σ)) := by
  have h1 := RI_no h ht (Nat.lt_succ_of_le hob)
  have h2 : ∀ k, (Sum.inr (gcob σ) : Val) = Sum.inr k → k < 401 := fun k hk => by
    cases hk
    exact Nat.lt_succ_of_le hob
  have h3 : RI (inc 1 (noF t σ)) := RI_Ct h1 h1.2.2.2.2.1.1 h1.2.2.2.2.1.2.1 h1.2.2.2.2.1.2.2.1 (Nat.succ_le_succ h.2.2.2.2.1.2.2.2)
  refine ⟨by rw [mk2_inc]; exact RI_Rg h3 (up_rg h.2.2.2.1.1 r h2), ?_⟩
  rw [(mk2_get t r _).1, (mk2_get t r _).2.1, (inc_get 1 σ).1, (inc_get 1 σ).2.1, va_up_ne _ _ (by decide)]
  omega
theorem GI_Rg {σ : CS} {x : Nat} {v : Val} (h : GI σ) (hv : ∀ k, v = .inr k → k < 401) : GI (scRg σ (va_up (gcRg σ) x v)) := ⟨RI_Rg h.1 (up_rg h.1.2.2.2.1.1 x hv), h.2⟩
theorem inl_no (a : Int32) : ∀ k, (Sum.inl a : Val) = Sum.inr k → k < 401 := fun k hk => by cases hk
theorem GI_rk {σ : CS} {pl ba : Nat} (h : GI σ) : GI (rkF pl ba σ) := by
  unfold rkF
  split
  · split
    · exact GI_Rg h (inl_no _)
    · exact GI_Rg h (inl_no _)
  · exact GI_tr h (by decide)
theorem GI_mk {σ : CS} {pl r : Nat} (h : RI σ) (ht : yN σ pl < 6) (hob : gcob σ ≤ 400) (h4 : gcob σ ≤ gcCt σ 4) : GI (mkF pl r σ) := by
  unfold mkF
  split
  · exact GI_mk2 h ht hob h4
  · split
    · exact GI_tr ⟨h, by omega⟩ (by decide)
    · exact GI_mk2i h ht hob h4
theorem GI_rf {σ : CS} {pl ba : Nat} (h : GI σ) : GI (rfF pl ba σ) := by
  unfold rfF
  split
  · exact GI_Rg h (h.1.2.2.2.1.2 _)
  · exact GI_tr h (by decide)
theorem GI_wf {σ : CS} {pl ba : Nat} (h : GI σ) : GI (wfF2 pl ba σ) := by
  unfold wfF2
  split
  · exact ⟨RI_Fl h.1 (up_rg h.1.2.2.2.1.2 _ (h.1.2.2.2.1.1 _)), h.2⟩
  · exact GI_tr h (by decide)
set_option maxHeartbeats 100000 in
theorem GI_sd2 {σ : CS} {v b a : Nat} {x y : Val} (h : GI σ) (hb : b < 24) (hx : ∀ k, x = .inr k → k < 401) (hy : ∀ k, y = .inr k → k < 401) (hf : gcfr σ < 12) (ha : a < 72) : GI (enF b x y (scAn (ccF v σ) (va_up (gcAn σ) (gcfr σ) a))) := by
  have hc := cc_ob v σ
  have h1 : RI (scAn (ccF v σ) (va_up (gcAn (ccF v σ)) (gcfr σ) a)) := RI_An (RI_cc h.1) ha
  rw [hc.2.2.2.2] at h1
  refine ⟨RI_en h1 hb hx hy (by show gcfr (ccF v σ) < 12; rw [hc.2.2.1]; exact hf), ?_⟩
  rw [(en_get b x y _).1, (en_get b x y _).2]
  show gcob (ccF v σ) ≤ 1 + gcCt (ccF v σ) 4
  rw [hc.1, hc.2.1]
  exact h.2
set_option maxHeartbeats 100000 in
theorem GI_sd {σ : CS} {pl ba : Nat} (h : GI σ) (hz : zN σ pl < 4) (ha : ba + gcX σ pl < 72) : GI (sdF pl ba σ) := by
  unfold sdF
  split
  · exact GI_tr h (by decide)
  · rename_i k hk
    split
    · exact GI_tr h (by decide)
    · rename_i b hb
      split
      · exact GI_tr h (by decide)
      · rename_i h12
        refine GI_sd2 h (tgC_lt h.1.1.1 (h.1.2.2.1.2.2.2 k) hz hb) (fun k9 hk9 => ?_) (h.1.2.2.2.1.1 _) (Nat.lt_of_not_le h12) ha
        cases hk9
        exact h.1.2.2.2.1.1 _ _ hk
theorem GI_pr {σ : CS} {v : Val} (h : GI σ) : GI (prF v σ) := by
  unfold prF
  split
  · exact GI_tr h (by decide)
  · rename_i h40
    have h1 : RI (scPo σ (va_up (gcPo σ) (gcCt σ 0) (poV v σ))) := RI_Po h.1
    exact ⟨RI_Ct h1 (show gcCt σ 0 + 1 ≤ 40 from Nat.lt_of_not_le h40) h.1.2.2.2.2.1.2.1 h.1.2.2.2.2.1.2.2.1 h.1.2.2.2.2.1.2.2.2, h.2⟩
theorem GI_sk {σ : CS} {pl x : Nat} (h : GI σ) (hy : yN σ pl < 10) (hn : gcNe σ (gcfr σ - 1) ≤ 10) : GI (skF pl x σ) := by
  unfold skF
  split
  · exact ⟨RI_Ne h.1 (by omega), h.2⟩
  · exact h
theorem GI_ck {σ : CS} {v : Val} {t : Nat} (h : GI σ) : GI (ckF v t σ) := by
  unfold ckF
  split
  · exact GI_tr h (by decide)
  · split
    · exact h
    · exact GI_tr h (by decide)
set_option maxHeartbeats 100000 in
theorem GI_pf {σ : CS} {pl ba : Nat} (h : OI pl ba σ) : GI (pfF pl ba σ) := by
  obtain ⟨hR, hpl, hba, hfr, hob, h4, hne⟩ := h
  have hG : GI σ := ⟨hR, by omega⟩
  have hX := hR.1.1.2.2.2.1 pl
  unfold pfF
  split
  · exact GI_Rg hG (inl_no _)
  · exact GI_Rg hG (hR.2.2.2.1.1 _)
  · exact GI_rk hG
  · exact GI_rk hG
  · rename_i e; exact GI_mk hR (WI_y hR.1.2 (p := pl) (by omega)).2 hob h4
  · exact GI_rf hG
  · exact GI_wf hG
  · rename_i e; exact GI_sd hG (WI_z4 hR.1.2 e).2 (by omega)
  · exact GI_pr hG
  · rename_i e; exact GI_sk hG (WI_y9 hR.1.2 e).2 hne
  · exact GI_ck hG
  · exact GI_an hG (hR.2.2.2.1.1 _)
set_option maxHeartbeats 100000 in
theorem OI_st {σ : CS} (h : GI σ) (hf : 0 < gcfr σ) (hn : gcNe σ (gcfr σ - 1) < gcL σ (gcBo σ (gcfr σ - 1))) (h4 : gcCt σ 4 < 400) : OI (gcBo σ (gcfr σ - 1) * 10 + gcNe σ (gcfr σ - 1)) ((gcfr σ - 1) * 6) (nxF (gcfr σ - 1) (inc 4 σ)) := by
  have hL := h.1.1.1.2.1 (gcBo σ (gcfr σ - 1))
  have hB := h.1.2.2.1.1 (gcfr σ - 1)
  have hF := h.1.2.2.2.2.2.1
  have hO := h.2
  refine ⟨RI_Ne (RI_inc4 h.1 h4) (by show gcNe σ (gcfr σ - 1) + 1 ≤ 19; omega), by omega, by omega, hf, (by show gcob σ ≤ 400; omega), (by show gcob σ ≤ gcCt σ 4 + 1; omega), ?_⟩
  show va_up (gcNe σ) (gcfr σ - 1) (gcNe σ (gcfr σ - 1) + 1) (gcfr σ - 1) ≤ 10
  rw [va_up_self]
  omega
set_option maxHeartbeats 100000 in
theorem GI_st {σ : CS} (h : GI σ) (hf : 0 < gcfr σ) (hn : gcNe σ (gcfr σ - 1) < gcL σ (gcBo σ (gcfr σ - 1))) : GI (stF σ) := by
  unfold stF
  by_cases e : 400 ≤ gcCt σ 4
  · rw [if_pos e]; exact GI_tr h (by decide)
  · rw [if_neg e]; exact GI_pf (OI_st h hf hn (by omega))
set_option maxHeartbeats 100000 in
theorem RI_rm {σ : CS} {v : Nat} (h : RI σ) (hv : v ≤ 60) : RI (scrm σ v) := ⟨h.1, h.2.1, h.2.2.1, h.2.2.2.1, h.2.2.2.2.1, h.2.2.2.2.2.1, hv, h.2.2.2.2.2.2.2⟩
set_option maxHeartbeats 100000 in
theorem RI_sh {σ : CS} {v : Bool} (h : RI σ) : RI (scsh σ v) := h
set_option maxHeartbeats 100000 in
theorem RI_oC {σ : CS} {v : Nat} {f : Nat → Nat} (h : RI σ) (h2 : v ≤ 401) (h0 : f 0 ≤ 40) (h5 : f 5 ≤ 12) (h4 : f 4 ≤ 400) (h1 : f 1 ≤ v) : RI (scob (scCt σ f) v) := ⟨h.1, h.2.1, h.2.2.1, h.2.2.2.1, ⟨h0, h5, h4, h1⟩, h.2.2.2.2.2.1, h.2.2.2.2.2.2.1, h2, h.2.2.2.2.2.2.2.2⟩
set_option maxHeartbeats 100000 in
theorem ex0_eq (b : Bool) (h : Nat) (σ : CS) : ex0 b h σ = sctr (scob (scCt (scfr (scrm (scsh σ b) h) 0) (fillF (gcCt σ) 0 6 0)) 0) 0 := by
  simp only [ex0, gcP, gcL, gcK, gcX, gcY, gcZ, gcn, gcV, gcCV, gcma, gcre, gcca, gcRg, gcBo, gcNe, gcAn, gcCl, gcFl, gcPo, gcCt, gcsh, gcrm, gcfr, gcob, gctr, scP, scL, scK, scX, scY, scZ, scn, scV, scCV, scma, scre, scca, scRg, scBo, scNe, scAn, scCl, scFl, scPo, scCt, scsh, scrm, scfr, scob, sctr]
set_option maxHeartbeats 100000 in
theorem RI_ex0 {σ : CS} {b : Bool} {h : Nat} (hR : RI σ) (hh : h ≤ 60) : RI (ex0 b h σ) := by
  rw [ex0_eq]
  exact RI_tr (RI_oC (RI_fr (RI_rm (RI_sh hR) hh) (Nat.zero_le 12)) (Nat.zero_le 401) (Nat.zero_le 40) (Nat.zero_le 12) (Nat.zero_le 400) (Nat.zero_le 0)) (Nat.zero_le 7)
set_option maxHeartbeats 100000 in
theorem no_get (t : Nat) (τ : CS) : gcob (noF t τ) = gcob τ + 1 ∧ gcCt (noF t τ) = gcCt τ ∧ gcfr (noF t τ) = gcfr τ ∧ gcRg (noF t τ) = gcRg τ := by
  simp only [noF, gcP, gcL, gcK, gcX, gcY, gcZ, gcn, gcV, gcCV, gcma, gcre, gcca, gcRg, gcBo, gcNe, gcAn, gcCl, gcFl, gcPo, gcCt, gcsh, gcrm, gcfr, gcob, gctr, scP, scL, scK, scX, scY, scZ, scn, scV, scCV, scma, scre, scca, scRg, scBo, scNe, scAn, scCl, scFl, scPo, scCt, scsh, scrm, scfr, scob, sctr, and_self]
set_option maxHeartbeats 100000 in
theorem RI_i1 {τ : CS} (h : RI τ) (h1 : gcCt τ 1 + 1 ≤ gcob τ) : RI (inc 1 τ) := RI_Ct h h.2.2.2.2.1.1 h.2.2.2.2.1.2.1 h.2.2.2.2.1.2.2.1 h1
set_option maxHeartbeats 100000 in
theorem GI_b1 {τ : CS} (h : RI τ) (h2 : gcob τ ≤ 1 + gcCt τ 4) (h1 : gcCt τ 1 + 1 ≤ gcob τ) : GI (sctr (inc 1 τ) 6) := by
  refine ⟨RI_tr (RI_i1 h h1) (by decide), ?_⟩
  rw [(tr_get _ _).1, (tr_get _ _).2.1, (inc_get 1 _).1, (inc_get 1 _).2.1, va_up_ne _ _ (by decide)]
  exact h2
set_option maxHeartbeats 100000 in
theorem GI_b2 {τ : CS} {b : Nat} {x y : Val} (h : RI τ) (h2 : gcob τ ≤ 1 + gcCt τ 4) (h1 : gcCt τ 1 + 1 ≤ gcob τ) (hb : b < 24) (hx : ∀ k, x = .inr k → k < 401) (hy : ∀ k, y = .inr k → k < 401) (hf : gcfr τ = 0) : GI (enF b x y (inc 3 (inc 1 τ))) := by
  refine ⟨RI_en (RI_inc3 (RI_i1 h h1)) hb hx hy ?_, ?_⟩
  · rw [(inc_get 3 _).2.2.1, (inc_get 1 _).2.2.1, hf]; decide
  · rw [(en_get _ _ _ _).1, (en_get _ _ _ _).2, (inc_get 3 _).1, (inc_get 3 _).2.1, va_up_ne _ _ (by decide), (inc_get 1 _).1, (inc_get 1 _).2.1, va_up_ne _ _ (by decide)]
    exact h2
set_option maxHeartbeats 100000 in
theorem GI_b0 {τ : CS} (h0 : RI τ) (hb0 : gcob τ = 0) (hf0 : gcfr τ = 0) (hc0 : gcCt τ 4 = 0) (hc1 : gcCt τ 1 = 0) : GI (bgF τ) := by
  obtain ⟨g1, g2, g3, g4⟩ := no_get 0 τ
  have h1 : RI (noF 0 τ) := RI_no h0 (by decide) (by omega)
  have q1 : gcob (noF 0 τ) ≤ 1 + gcCt (noF 0 τ) 4 := by rw [g1, g2]; omega
  have q2 : gcCt (noF 0 τ) 1 + 1 ≤ gcob (noF 0 τ) := by rw [g1, g2]; omega
  unfold bgF
  split
  · exact GI_tr ⟨h0, by omega⟩ (by decide)
  · split
    · exact GI_b1 h1 q1 q2
    · rename_i b9 hb9
      exact GI_b2 h1 q1 q2 (tgC_lt h0.1.1 (by decide) (by decide) hb9) (fun k hk => by cases hk; omega) (inl_no _) (by rw [g3]; exact hf0)
set_option maxHeartbeats 100000 in
theorem GI_bg {σ : CS} {b : Bool} {h : Nat} (hR : RI σ) (hh : h ≤ 60) : GI (bgF (ex0 b h σ)) := by
  have hg := ex0_get b h σ
  exact GI_b0 (RI_ex0 hR hh) hg.1 hg.2.1 (by rw [hg.2.2.2.2.2]; simp [fillF]) (by rw [hg.2.2.2.2.2]; simp [fillF])
