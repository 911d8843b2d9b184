abbrev Val : Type := Int32 ⊕ Nat
def oI (o : Option Nat) : Int32 := match o with
  | none => -1
  | some k => nI k
def bI (b : Bool) : Int32 := match b with
  | true => 1
  | false => 0
def vJ (v : Val) : Int64 := match v with
  | .inl x => x.toInt64
  | .inr k => lN (4294967296 + k)
theorem bI_n (b : Bool) : narrow .boolean (.int (bI b)) = .int (bI b) := by cases b <;> rfl
theorem bI_f (b : Bool) : fits .boolean (.int (bI b)) = true := by cases b <;> rfl
theorem bI_nar (b : Bool) : vp_nar .boolean (bI b) = bI b := by cases b <;> rfl
theorem va_D_addr {A : Nat → Prop} {ws ws' : va_W} (h : ws.map Prod.fst = ws'.map Prod.fst) (hD : va_D A ws) : va_D A ws' := by
  have at' : ∀ (k : Nat) (q : Nat × va_E), ws'[k]? = some q → ∃ e, ws[k]? = some (q.1, e) := fun k q hq => by
    have h1 : (ws'.map Prod.fst)[k]? = some q.1 := by rw [List.getElem?_map, hq]; rfl
    rw [← h, List.getElem?_map] at h1
    cases hw : ws[k]? with
    | none => rw [hw] at h1; cases h1
    | some z =>
      rw [hw] at h1
      obtain ⟨z1, z2⟩ := z
      cases Option.some.inj h1
      exact ⟨z2, rfl⟩
  refine ⟨fun i j p q hi hj e => ?_, fun k q hk => ?_⟩
  · obtain ⟨a, ha⟩ := at' i p hi
    obtain ⟨b, hb⟩ := at' j q hj
    exact hD.1 i j _ _ ha hb e
  · obtain ⟨a, ha⟩ := at' k q hk
    exact hD.2 k (q.1, a) ha
abbrev t3 (cI cJ cZ : ClassId) : List (ClassId × FieldType) := [(cI, .int), (cJ, .long), (cZ, .boolean)]
abbrev CS : Type := (Nat → Option Nat) × (Nat → Nat) × (Nat → Nat) × (Nat → Nat) × (Nat → Int32) × (Nat → Int32) × Nat × (Nat → Nat) × (Nat → Nat) × Nat × Nat × Nat × (Nat → Val) × (Nat → Nat) × (Nat → Nat) × (Nat → Nat) × (Nat → Nat) × (Nat → Val) × (Nat → Int32) × (Nat → Nat) × Bool × Nat × Nat × Nat × Nat
def gcP (σ : CS) : (Nat → Option Nat) := σ.1
def gcL (σ : CS) : (Nat → Nat) := σ.2.1
def gcK (σ : CS) : (Nat → Nat) := σ.2.2.1
def gcX (σ : CS) : (Nat → Nat) := σ.2.2.2.1
def gcY (σ : CS) : (Nat → Int32) := σ.2.2.2.2.1
def gcZ (σ : CS) : (Nat → Int32) := σ.2.2.2.2.2.1
def gcn (σ : CS) : Nat := σ.2.2.2.2.2.2.1
def gcV (σ : CS) : (Nat → Nat) := σ.2.2.2.2.2.2.2.1
def gcCV (σ : CS) : (Nat → Nat) := σ.2.2.2.2.2.2.2.2.1
def gcma (σ : CS) : Nat := σ.2.2.2.2.2.2.2.2.2.1
def gcre (σ : CS) : Nat := σ.2.2.2.2.2.2.2.2.2.2.1
def gcca (σ : CS) : Nat := σ.2.2.2.2.2.2.2.2.2.2.2.1
def gcRg (σ : CS) : (Nat → Val) := σ.2.2.2.2.2.2.2.2.2.2.2.2.1
def gcBo (σ : CS) : (Nat → Nat) := σ.2.2.2.2.2.2.2.2.2.2.2.2.2.1
def gcNe (σ : CS) : (Nat → Nat) := σ.2.2.2.2.2.2.2.2.2.2.2.2.2.2.1
def gcAn (σ : CS) : (Nat → Nat) := σ.2.2.2.2.2.2.2.2.2.2.2.2.2.2.2.1
def gcCl (σ : CS) : (Nat → Nat) := σ.2.2.2.2.2.2.2.2.2.2.2.2.2.2.2.2.1
def gcFl (σ : CS) : (Nat → Val) := σ.2.2.2.2.2.2.2.2.2.2.2.2.2.2.2.2.2.1
def gcPo (σ : CS) : (Nat → Int32) := σ.2.2.2.2.2.2.2.2.2.2.2.2.2.2.2.2.2.2.1
def gcCt (σ : CS) : (Nat → Nat) := σ.2.2.2.2.2.2.2.2.2.2.2.2.2.2.2.2.2.2.2.1
def gcsh (σ : CS) : Bool := σ.2.2.2.2.2.2.2.2.2.2.2.2.2.2.2.2.2.2.2.2.1
def gcrm (σ : CS) : Nat := σ.2.2.2.2.2.2.2.2.2.2.2.2.2.2.2.2.2.2.2.2.2.1
def gcfr (σ : CS) : Nat := σ.2.2.2.2.2.2.2.2.2.2.2.2.2.2.2.2.2.2.2.2.2.2.1
def gcob (σ : CS) : Nat := σ.2.2.2.2.2.2.2.2.2.2.2.2.2.2.2.2.2.2.2.2.2.2.2.1
def gctr (σ : CS) : Nat := σ.2.2.2.2.2.2.2.2.2.2.2.2.2.2.2.2.2.2.2.2.2.2.2.2
def scP (σ : CS) (v : (Nat → Option Nat)) : CS := (v, σ.2)
def scL (σ : CS) (v : (Nat → Nat)) : CS := (σ.1, v, σ.2.2)
def scK (σ : CS) (v : (Nat → Nat)) : CS := (σ.1, σ.2.1, v, σ.2.2.2)
def scX (σ : CS) (v : (Nat → Nat)) : CS := (σ.1, σ.2.1, σ.2.2.1, v, σ.2.2.2.2)
def scY (σ : CS) (v : (Nat → Int32)) : CS := (σ.1, σ.2.1, σ.2.2.1, σ.2.2.2.1, v, σ.2.2.2.2.2)
def scZ (σ : CS) (v : (Nat → Int32)) : CS := (σ.1, σ.2.1, σ.2.2.1, σ.2.2.2.1, σ.2.2.2.2.1, v, σ.2.2.2.2.2.2)
def scn (σ : CS) (v : Nat) : CS := (σ.1, σ.2.1, σ.2.2.1, σ.2.2.2.1, σ.2.2.2.2.1, σ.2.2.2.2.2.1, v, σ.2.2.2.2.2.2.2)
def scV (σ : CS) (v : (Nat → Nat)) : CS := (σ.1, σ.2.1, σ.2.2.1, σ.2.2.2.1, σ.2.2.2.2.1, σ.2.2.2.2.2.1, σ.2.2.2.2.2.2.1, v, σ.2.2.2.2.2.2.2.2)
def scCV (σ : CS) (v : (Nat → Nat)) : CS := (σ.1, σ.2.1, σ.2.2.1, σ.2.2.2.1, σ.2.2.2.2.1, σ.2.2.2.2.2.1, σ.2.2.2.2.2.2.1, σ.2.2.2.2.2.2.2.1, v, σ.2.2.2.2.2.2.2.2.2)
def scma (σ : CS) (v : Nat) : CS := (σ.1, σ.2.1, σ.2.2.1, σ.2.2.2.1, σ.2.2.2.2.1, σ.2.2.2.2.2.1, σ.2.2.2.2.2.2.1, σ.2.2.2.2.2.2.2.1, σ.2.2.2.2.2.2.2.2.1, v, σ.2.2.2.2.2.2.2.2.2.2)
def scre (σ : CS) (v : Nat) : CS := (σ.1, σ.2.1, σ.2.2.1, σ.2.2.2.1, σ.2.2.2.2.1, σ.2.2.2.2.2.1, σ.2.2.2.2.2.2.1, σ.2.2.2.2.2.2.2.1, σ.2.2.2.2.2.2.2.2.1, σ.2.2.2.2.2.2.2.2.2.1, v, σ.2.2.2.2.2.2.2.2.2.2.2)
def scca (σ : CS) (v : Nat) : CS := (σ.1, σ.2.1, σ.2.2.1, σ.2.2.2.1, σ.2.2.2.2.1, σ.2.2.2.2.2.1, σ.2.2.2.2.2.2.1, σ.2.2.2.2.2.2.2.1, σ.2.2.2.2.2.2.2.2.1, σ.2.2.2.2.2.2.2.2.2.1, σ.2.2.2.2.2.2.2.2.2.2.1, v, σ.2.2.2.2.2.2.2.2.2.2.2.2)
def scRg (σ : CS) (v : (Nat → Val)) : CS := (σ.1, σ.2.1, σ.2.2.1, σ.2.2.2.1, σ.2.2.2.2.1, σ.2.2.2.2.2.1, σ.2.2.2.2.2.2.1, σ.2.2.2.2.2.2.2.1, σ.2.2.2.2.2.2.2.2.1, σ.2.2.2.2.2.2.2.2.2.1, σ.2.2.2.2.2.2.2.2.2.2.1, σ.2.2.2.2.2.2.2.2.2.2.2.1, v, σ.2.2.2.2.2.2.2.2.2.2.2.2.2)
def scBo (σ : CS) (v : (Nat → Nat)) : CS := (σ.1, σ.2.1, σ.2.2.1, σ.2.2.2.1, σ.2.2.2.2.1, σ.2.2.2.2.2.1, σ.2.2.2.2.2.2.1, σ.2.2.2.2.2.2.2.1, σ.2.2.2.2.2.2.2.2.1, σ.2.2.2.2.2.2.2.2.2.1, σ.2.2.2.2.2.2.2.2.2.2.1, σ.2.2.2.2.2.2.2.2.2.2.2.1, σ.2.2.2.2.2.2.2.2.2.2.2.2.1, v, σ.2.2.2.2.2.2.2.2.2.2.2.2.2.2)
def scNe (σ : CS) (v : (Nat → Nat)) : CS := (σ.1, σ.2.1, σ.2.2.1, σ.2.2.2.1, σ.2.2.2.2.1, σ.2.2.2.2.2.1, σ.2.2.2.2.2.2.1, σ.2.2.2.2.2.2.2.1, σ.2.2.2.2.2.2.2.2.1, σ.2.2.2.2.2.2.2.2.2.1, σ.2.2.2.2.2.2.2.2.2.2.1, σ.2.2.2.2.2.2.2.2.2.2.2.1, σ.2.2.2.2.2.2.2.2.2.2.2.2.1, σ.2.2.2.2.2.2.2.2.2.2.2.2.2.1, v, σ.2.2.2.2.2.2.2.2.2.2.2.2.2.2.2)
def scAn (σ : CS) (v : (Nat → Nat)) : CS := (σ.1, σ.2.1, σ.2.2.1, σ.2.2.2.1, σ.2.2.2.2.1, σ.2.2.2.2.2.1, σ.2.2.2.2.2.2.1, σ.2.2.2.2.2.2.2.1, σ.2.2.2.2.2.2.2.2.1, σ.2.2.2.2.2.2.2.2.2.1, σ.2.2.2.2.2.2.2.2.2.2.1, σ.2.2.2.2.2.2.2.2.2.2.2.1, σ.2.2.2.2.2.2.2.2.2.2.2.2.1, σ.2.2.2.2.2.2.2.2.2.2.2.2.2.1, σ.2.2.2.2.2.2.2.2.2.2.2.2.2.2.1, v, σ.2.2.2.2.2.2.2.2.2.2.2.2.2.2.2.2)
def scCl (σ : CS) (v : (Nat → Nat)) : CS := (σ.1, σ.2.1, σ.2.2.1, σ.2.2.2.1, σ.2.2.2.2.1, σ.2.2.2.2.2.1, σ.2.2.2.2.2.2.1, σ.2.2.2.2.2.2.2.1, σ.2.2.2.2.2.2.2.2.1, σ.2.2.2.2.2.2.2.2.2.1, σ.2.2.2.2.2.2.2.2.2.2.1, σ.2.2.2.2.2.2.2.2.2.2.2.1, σ.2.2.2.2.2.2.2.2.2.2.2.2.1, σ.2.2.2.2.2.2.2.2.2.2.2.2.2.1, σ.2.2.2.2.2.2.2.2.2.2.2.2.2.2.1, σ.2.2.2.2.2.2.2.2.2.2.2.2.2.2.2.1, v, σ.2.2.2.2.2.2.2.2.2.2.2.2.2.2.2.2.2)
def scFl (σ : CS) (v : (Nat → Val)) : CS := (σ.1, σ.2.1, σ.2.2.1, σ.2.2.2.1, σ.2.2.2.2.1, σ.2.2.2.2.2.1, σ.2.2.2.2.2.2.1, σ.2.2.2.2.2.2.2.1, σ.2.2.2.2.2.2.2.2.1, σ.2.2.2.2.2.2.2.2.2.1, σ.2.2.2.2.2.2.2.2.2.2.1, σ.2.2.2.2.2.2.2.2.2.2.2.1, σ.2.2.2.2.2.2.2.2.2.2.2.2.1, σ.2.2.2.2.2.2.2.2.2.2.2.2.2.1, σ.2.2.2.2.2.2.2.2.2.2.2.2.2.2.1, σ.2.2.2.2.2.2.2.2.2.2.2.2.2.2.2.1, σ.2.2.2.2.2.2.2.2.2.2.2.2.2.2.2.2.1, v, σ.2.2.2.2.2.2.2.2.2.2.2.2.2.2.2.2.2.2)
def scPo (σ : CS) (v : (Nat → Int32)) : CS := (σ.1, σ.2.1, σ.2.2.1, σ.2.2.2.1, σ.2.2.2.2.1, σ.2.2.2.2.2.1, σ.2.2.2.2.2.2.1, σ.2.2.2.2.2.2.2.1, σ.2.2.2.2.2.2.2.2.1, σ.2.2.2.2.2.2.2.2.2.1, σ.2.2.2.2.2.2.2.2.2.2.1, σ.2.2.2.2.2.2.2.2.2.2.2.1, σ.2.2.2.2.2.2.2.2.2.2.2.2.1, σ.2.2.2.2.2.2.2.2.2.2.2.2.2.1, σ.2.2.2.2.2.2.2.2.2.2.2.2.2.2.1, σ.2.2.2.2.2.2.2.2.2.2.2.2.2.2.2.1, σ.2.2.2.2.2.2.2.2.2.2.2.2.2.2.2.2.1, σ.2.2.2.2.2.2.2.2.2.2.2.2.2.2.2.2.2.1, v, σ.2.2.2.2.2.2.2.2.2.2.2.2.2.2.2.2.2.2.2)
def scCt (σ : CS) (v : (Nat → Nat)) : CS := (σ.1, σ.2.1, σ.2.2.1, σ.2.2.2.1, σ.2.2.2.2.1, σ.2.2.2.2.2.1, σ.2.2.2.2.2.2.1, σ.2.2.2.2.2.2.2.1, σ.2.2.2.2.2.2.2.2.1, σ.2.2.2.2.2.2.2.2.2.1, σ.2.2.2.2.2.2.2.2.2.2.1, σ.2.2.2.2.2.2.2.2.2.2.2.1, σ.2.2.2.2.2.2.2.2.2.2.2.2.1, σ.2.2.2.2.2.2.2.2.2.2.2.2.2.1, σ.2.2.2.2.2.2.2.2.2.2.2.2.2.2.1, σ.2.2.2.2.2.2.2.2.2.2.2.2.2.2.2.1, σ.2.2.2.2.2.2.2.2.2.2.2.2.2.2.2.2.1, σ.2.2.2.2.2.2.2.2.2.2.2.2.2.2.2.2.2.1, σ.2.2.2.2.2.2.2.2.2.2.2.2.2.2.2.2.2.2.1, v, σ.2.2.2.2.2.2.2.2.2.2.2.2.2.2.2.2.2.2.2.2)
def scsh (σ : CS) (v : Bool) : CS := (σ.1, σ.2.1, σ.2.2.1, σ.2.2.2.1, σ.2.2.2.2.1, σ.2.2.2.2.2.1, σ.2.2.2.2.2.2.1, σ.2.2.2.2.2.2.2.1, σ.2.2.2.2.2.2.2.2.1, σ.2.2.2.2.2.2.2.2.2.1, σ.2.2.2.2.2.2.2.2.2.2.1, σ.2.2.2.2.2.2.2.2.2.2.2.1, σ.2.2.2.2.2.2.2.2.2.2.2.2.1, σ.2.2.2.2.2.2.2.2.2.2.2.2.2.1, σ.2.2.2.2.2.2.2.2.2.2.2.2.2.2.1, σ.2.2.2.2.2.2.2.2.2.2.2.2.2.2.2.1, σ.2.2.2.2.2.2.2.2.2.2.2.2.2.2.2.2.1, σ.2.2.2.2.2.2.2.2.2.2.2.2.2.2.2.2.2.1, σ.2.2.2.2.2.2.2.2.2.2.2.2.2.2.2.2.2.2.1, σ.2.2.2.2.2.2.2.2.2.2.2.2.2.2.2.2.2.2.2.1, v, σ.2.2.2.2.2.2.2.2.2.2.2.2.2.2.2.2.2.2.2.2.2)
def scrm (σ : CS) (v : Nat) : CS := (σ.1, σ.2.1, σ.2.2.1, σ.2.2.2.1, σ.2.2.2.2.1, σ.2.2.2.2.2.1, σ.2.2.2.2.2.2.1, σ.2.2.2.2.2.2.2.1, σ.2.2.2.2.2.2.2.2.1, σ.2.2.2.2.2.2.2.2.2.1, σ.2.2.2.2.2.2.2.2.2.2.1, σ.2.2.2.2.2.2.2.2.2.2.2.1, σ.2.2.2.2.2.2.2.2.2.2.2.2.1, σ.2.2.2.2.2.2.2.2.2.2.2.2.2.1, σ.2.2.2.2.2.2.2.2.2.2.2.2.2.2.1, σ.2.2.2.2.2.2.2.2.2.2.2.2.2.2.2.1, σ.2.2.2.2.2.2.2.2.2.2.2.2.2.2.2.2.1, σ.2.2.2.2.2.2.2.2.2.2.2.2.2.2.2.2.2.1, σ.2.2.2.2.2.2.2.2.2.2.2.2.2.2.2.2.2.2.1, σ.2.2.2.2.2.2.2.2.2.2.2.2.2.2.2.2.2.2.2.1, σ.2.2.2.2.2.2.2.2.2.2.2.2.2.2.2.2.2.2.2.2.1, v, σ.2.2.2.2.2.2.2.2.2.2.2.2.2.2.2.2.2.2.2.2.2.2)
def scfr (σ : CS) (v : Nat) : CS := (σ.1, σ.2.1, σ.2.2.1, σ.2.2.2.1, σ.2.2.2.2.1, σ.2.2.2.2.2.1, σ.2.2.2.2.2.2.1, σ.2.2.2.2.2.2.2.1, σ.2.2.2.2.2.2.2.2.1, σ.2.2.2.2.2.2.2.2.2.1, σ.2.2.2.2.2.2.2.2.2.2.1, σ.2.2.2.2.2.2.2.2.2.2.2.1, σ.2.2.2.2.2.2.2.2.2.2.2.2.1, σ.2.2.2.2.2.2.2.2.2.2.2.2.2.1, σ.2.2.2.2.2.2.2.2.2.2.2.2.2.2.1, σ.2.2.2.2.2.2.2.2.2.2.2.2.2.2.2.1, σ.2.2.2.2.2.2.2.2.2.2.2.2.2.2.2.2.1, σ.2.2.2.2.2.2.2.2.2.2.2.2.2.2.2.2.2.1, σ.2.2.2.2.2.2.2.2.2.2.2.2.2.2.2.2.2.2.1, σ.2.2.2.2.2.2.2.2.2.2.2.2.2.2.2.2.2.2.2.1, σ.2.2.2.2.2.2.2.2.2.2.2.2.2.2.2.2.2.2.2.2.1, σ.2.2.2.2.2.2.2.2.2.2.2.2.2.2.2.2.2.2.2.2.2.1, v, σ.2.2.2.2.2.2.2.2.2.2.2.2.2.2.2.2.2.2.2.2.2.2.2)
def scob (σ : CS) (v : Nat) : CS := (σ.1, σ.2.1, σ.2.2.1, σ.2.2.2.1, σ.2.2.2.2.1, σ.2.2.2.2.2.1, σ.2.2.2.2.2.2.1, σ.2.2.2.2.2.2.2.1, σ.2.2.2.2.2.2.2.2.1, σ.2.2.2.2.2.2.2.2.2.1, σ.2.2.2.2.2.2.2.2.2.2.1, σ.2.2.2.2.2.2.2.2.2.2.2.1, σ.2.2.2.2.2.2.2.2.2.2.2.2.1, σ.2.2.2.2.2.2.2.2.2.2.2.2.2.1, σ.2.2.2.2.2.2.2.2.2.2.2.2.2.2.1, σ.2.2.2.2.2.2.2.2.2.2.2.2.2.2.2.1, σ.2.2.2.2.2.2.2.2.2.2.2.2.2.2.2.2.1, σ.2.2.2.2.2.2.2.2.2.2.2.2.2.2.2.2.2.1, σ.2.2.2.2.2.2.2.2.2.2.2.2.2.2.2.2.2.2.1, σ.2.2.2.2.2.2.2.2.2.2.2.2.2.2.2.2.2.2.2.1, σ.2.2.2.2.2.2.2.2.2.2.2.2.2.2.2.2.2.2.2.2.1, σ.2.2.2.2.2.2.2.2.2.2.2.2.2.2.2.2.2.2.2.2.2.1, σ.2.2.2.2.2.2.2.2.2.2.2.2.2.2.2.2.2.2.2.2.2.2.1, v, σ.2.2.2.2.2.2.2.2.2.2.2.2.2.2.2.2.2.2.2.2.2.2.2.2)
def sctr (σ : CS) (v : Nat) : CS := (σ.1, σ.2.1, σ.2.2.1, σ.2.2.2.1, σ.2.2.2.2.1, σ.2.2.2.2.2.1, σ.2.2.2.2.2.2.1, σ.2.2.2.2.2.2.2.1, σ.2.2.2.2.2.2.2.2.1, σ.2.2.2.2.2.2.2.2.2.1, σ.2.2.2.2.2.2.2.2.2.2.1, σ.2.2.2.2.2.2.2.2.2.2.2.1, σ.2.2.2.2.2.2.2.2.2.2.2.2.1, σ.2.2.2.2.2.2.2.2.2.2.2.2.2.1, σ.2.2.2.2.2.2.2.2.2.2.2.2.2.2.1, σ.2.2.2.2.2.2.2.2.2.2.2.2.2.2.2.1, σ.2.2.2.2.2.2.2.2.2.2.2.2.2.2.2.2.1, σ.2.2.2.2.2.2.2.2.2.2.2.2.2.2.2.2.2.1, σ.2.2.2.2.2.2.2.2.2.2.2.2.2.2.2.2.2.2.1, σ.2.2.2.2.2.2.2.2.2.2.2.2.2.2.2.2.2.2.2.1, σ.2.2.2.2.2.2.2.2.2.2.2.2.2.2.2.2.2.2.2.2.1, σ.2.2.2.2.2.2.2.2.2.2.2.2.2.2.2.2.2.2.2.2.2.1, σ.2.2.2.2.2.2.2.2.2.2.2.2.2.2.2.2.2.2.2.2.2.2.1, σ.2.2.2.2.2.2.2.2.2.2.2.2.2.2.2.2.2.2.2.2.2.2.2.1, v)
def wC (ad : Nat → Nat) (cI cJ cZ : ClassId) (σ : CS) : va_W := [(ad 0, .inr (5, [.ref (ad 1), .ref (ad 2), .ref (ad 3)])), (ad 1, .inr (3, [.ref (ad 4), .ref (ad 5), .ref (ad 6), .ref (ad 7), .ref (ad 8), .ref (ad 9), .int (nI (gcn σ))])), (ad 2, .inr (4, [.ref (ad 1), .ref (ad 10), .ref (ad 11), .int (nI (gcma σ)), .int (nI (gcre σ)), .int (nI (gcca σ))])), (ad 3, .inr (2, [.ref (ad 1), .ref (ad 2), .ref (ad 12), .ref (ad 13), .ref (ad 14), .ref (ad 15), .ref (ad 16), .ref (ad 17), .ref (ad 18), .ref (ad 19), .int (bI (gcsh σ)), .int (nI (gcrm σ)), .int (nI (gcfr σ)), .int (nI (gcob σ)), .int (nI (gctr σ))])), (ad 4, .inl (cI, 6, .inl (fun i => oI (gcP σ i)))), (ad 5, .inl (cI, 24, .inl (fun i => nI (gcL σ i)))), (ad 6, .inl (cI, 240, .inl (fun i => nI (gcK σ i)))), (ad 7, .inl (cI, 240, .inl (fun i => nI (gcX σ i)))), (ad 8, .inl (cI, 240, .inl (fun i => gcY σ i))), (ad 9, .inl (cI, 240, .inl (fun i => gcZ σ i))), (ad 10, .inl (cI, 240, .inl (fun i => nI (gcV σ i)))), (ad 11, .inl (cI, 4, .inl (fun i => nI (gcCV σ i)))), (ad 12, .inl (cJ, 72, .inr (.inl (fun i => vJ (gcRg σ i))))), (ad 13, .inl (cI, 12, .inl (fun i => nI (gcBo σ i)))), (ad 14, .inl (cI, 12, .inl (fun i => nI (gcNe σ i)))), (ad 15, .inl (cI, 12, .inl (fun i => nI (gcAn σ i)))), (ad 16, .inl (cI, 401, .inl (fun i => nI (gcCl σ i)))), (ad 17, .inl (cJ, 1203, .inr (.inl (fun i => vJ (gcFl σ i))))), (ad 18, .inl (cI, 40, .inl (fun i => gcPo σ i))), (ad 19, .inl (cI, 6, .inl (fun i => nI (gcCt σ i))))]
theorem wC_D {A : Nat → Prop} {ad : Nat → Nat} {cI cJ cZ : ClassId} {σ : CS} (h : va_D A (wC ad cI cJ cZ σ)) (τ : CS) : va_D A (wC ad cI cJ cZ τ) := va_D_addr (ws := wC ad cI cJ cZ σ) rfl h
section RCS
variable {p : Program} {l : Launch} {e : Env} {R : Room} {s : State} {m : MethodId} {args : Array Value} {below : List Frame} {meth : Method} {c : Code} {H : Heap} {locs : List Loc} {cells slots : Nat} {Q : State → Prop}
variable {cc : ByteArray} {nL idx pc : Nat} {own : String} {x0 : Cond} {D : va_G} {cI cJ cZ : ClassId} {ad : Nat → Nat} {σ : CS} {A : Nat → Prop} {ls : Array Slot} {rest : List Value} {H0 : Heap}
theorem gt_X3_program (E : Cx p s m args c cc nL own x0 D (t3 cI cJ cZ)) (hl : Cond.fieldLink own idx (TX3 0).1 (TX3 0).2.1 (TX3 0).2.2.1 ∈ G) (hP : va_P D vwCl (wC ad cI cJ cZ σ) H) (hd : decode cc pc = .ok (.getfield idx, 3)) (kk : W p l e R s m args below meth c H locs cells slots Q (F0 m (pc + 3) ls (.ref (ad 1) :: rest))) : W p l e R s m args below meth c H locs cells slots Q (F0 m (pc) ls (.ref (ad 0) :: rest)) := CM.get (T := TX3) (N := 3) (ref := "") E hP 0 rfl rfl inG_X3 0 (by decide) hl rfl hd kk
theorem gt_X3_shaping (E : Cx p s m args c cc nL own x0 D (t3 cI cJ cZ)) (hl : Cond.fieldLink own idx (TX3 1).1 (TX3 1).2.1 (TX3 1).2.2.1 ∈ G) (hP : va_P D vwCl (wC ad cI cJ cZ σ) H) (hd : decode cc pc = .ok (.getfield idx, 3)) (kk : W p l e R s m args below meth c H locs cells slots Q (F0 m (pc + 3) ls (.ref (ad 2) :: rest))) : W p l e R s m args below meth c H locs cells slots Q (F0 m (pc) ls (.ref (ad 0) :: rest)) := CM.get (T := TX3) (N := 3) (ref := "") E hP 0 rfl rfl inG_X3 1 (by decide) hl rfl hd kk
theorem gt_X3_machine (E : Cx p s m args c cc nL own x0 D (t3 cI cJ cZ)) (hl : Cond.fieldLink own idx (TX3 2).1 (TX3 2).2.1 (TX3 2).2.2.1 ∈ G) (hP : va_P D vwCl (wC ad cI cJ cZ σ) H) (hd : decode cc pc = .ok (.getfield idx, 3)) (kk : W p l e R s m args below meth c H locs cells slots Q (F0 m (pc + 3) ls (.ref (ad 3) :: rest))) : W p l e R s m args below meth c H locs cells slots Q (F0 m (pc) ls (.ref (ad 0) :: rest)) := CM.get (T := TX3) (N := 3) (ref := "") E hP 0 rfl rfl inG_X3 2 (by decide) hl rfl hd kk
theorem gt_X1_parents (E : Cx p s m args c cc nL own x0 D (t3 cI cJ cZ)) (hl : Cond.fieldLink own idx (TX1 0).1 (TX1 0).2.1 (TX1 0).2.2.1 ∈ G) (hP : va_P D vwCl (wC ad cI cJ cZ σ) H) (hd : decode cc pc = .ok (.getfield idx, 3)) (kk : W p l e R s m args below meth c H locs cells slots Q (F0 m (pc + 3) ls (.ref (ad 4) :: rest))) : W p l e R s m args below meth c H locs cells slots Q (F0 m (pc) ls (.ref (ad 1) :: rest)) := CM.get (T := TX1) (N := 7) (ref := "") E hP 1 rfl rfl inG_X1 0 (by decide) hl rfl hd kk
theorem gt_X1_lengths (E : Cx p s m args c cc nL own x0 D (t3 cI cJ cZ)) (hl : Cond.fieldLink own idx (TX1 1).1 (TX1 1).2.1 (TX1 1).2.2.1 ∈ G) (hP : va_P D vwCl (wC ad cI cJ cZ σ) H) (hd : decode cc pc = .ok (.getfield idx, 3)) (kk : W p l e R s m args below meth c H locs cells slots Q (F0 m (pc + 3) ls (.ref (ad 5) :: rest))) : W p l e R s m args below meth c H locs cells slots Q (F0 m (pc) ls (.ref (ad 1) :: rest)) := CM.get (T := TX1) (N := 7) (ref := "") E hP 1 rfl rfl inG_X1 1 (by decide) hl rfl hd kk
theorem gt_X1_kinds (E : Cx p s m args c cc nL own x0 D (t3 cI cJ cZ)) (hl : Cond.fieldLink own idx (TX1 2).1 (TX1 2).2.1 (TX1 2).2.2.1 ∈ G) (hP : va_P D vwCl (wC ad cI cJ cZ σ) H) (hd : decode cc pc = .ok (.getfield idx, 3)) (kk : W p l e R s m args below meth c H locs cells slots Q (F0 m (pc + 3) ls (.ref (ad 6) :: rest))) : W p l e R s m args below meth c H locs cells slots Q (F0 m (pc) ls (.ref (ad 1) :: rest)) := CM.get (T := TX1) (N := 7) (ref := "") E hP 1 rfl rfl inG_X1 2 (by decide) hl rfl hd kk
theorem gt_X1_xs (E : Cx p s m args c cc nL own x0 D (t3 cI cJ cZ)) (hl : Cond.fieldLink own idx (TX1 3).1 (TX1 3).2.1 (TX1 3).2.2.1 ∈ G) (hP : va_P D vwCl (wC ad cI cJ cZ σ) H) (hd : decode cc pc = .ok (.getfield idx, 3)) (kk : W p l e R s m args below meth c H locs cells slots Q (F0 m (pc + 3) ls (.ref (ad 7) :: rest))) : W p l e R s m args below meth c H locs cells slots Q (F0 m (pc) ls (.ref (ad 1) :: rest)) := CM.get (T := TX1) (N := 7) (ref := "") E hP 1 rfl rfl inG_X1 3 (by decide) hl rfl hd kk
theorem gt_X1_ys (E : Cx p s m args c cc nL own x0 D (t3 cI cJ cZ)) (hl : Cond.fieldLink own idx (TX1 4).1 (TX1 4).2.1 (TX1 4).2.2.1 ∈ G) (hP : va_P D vwCl (wC ad cI cJ cZ σ) H) (hd : decode cc pc = .ok (.getfield idx, 3)) (kk : W p l e R s m args below meth c H locs cells slots Q (F0 m (pc + 3) ls (.ref (ad 8) :: rest))) : W p l e R s m args below meth c H locs cells slots Q (F0 m (pc) ls (.ref (ad 1) :: rest)) := CM.get (T := TX1) (N := 7) (ref := "") E hP 1 rfl rfl inG_X1 4 (by decide) hl rfl hd kk
theorem gt_X1_zs (E : Cx p s m args c cc nL own x0 D (t3 cI cJ cZ)) (hl : Cond.fieldLink own idx (TX1 5).1 (TX1 5).2.1 (TX1 5).2.2.1 ∈ G) (hP : va_P D vwCl (wC ad cI cJ cZ σ) H) (hd : decode cc pc = .ok (.getfield idx, 3)) (kk : W p l e R s m args below meth c H locs cells slots Q (F0 m (pc + 3) ls (.ref (ad 9) :: rest))) : W p l e R s m args below meth c H locs cells slots Q (F0 m (pc) ls (.ref (ad 1) :: rest)) := CM.get (T := TX1) (N := 7) (ref := "") E hP 1 rfl rfl inG_X1 5 (by decide) hl rfl hd kk
theorem gt_X1_classes (E : Cx p s m args c cc nL own x0 D (t3 cI cJ cZ)) (hl : Cond.fieldLink own idx (TX1 6).1 (TX1 6).2.1 (TX1 6).2.2.1 ∈ G) (hP : va_P D vwCl (wC ad cI cJ cZ σ) H) (hd : decode cc pc = .ok (.getfield idx, 3)) (kk : W p l e R s m args below meth c H locs cells slots Q (F0 m (pc + 3) ls (.int (nI (gcn σ)) :: rest))) : W p l e R s m args below meth c H locs cells slots Q (F0 m (pc) ls (.ref (ad 1) :: rest)) := CM.get (T := TX1) (N := 7) (ref := "") E hP 1 rfl rfl inG_X1 6 (by decide) hl rfl hd kk
theorem pt_X1_classes {v : Nat} (E : Cx p s m args c cc nL own x0 D (t3 cI cJ cZ)) (hl : Cond.fieldLink own idx (TX1 6).1 (TX1 6).2.1 (TX1 6).2.2.1 ∈ G) (hP : va_P D vwCl (wC ad cI cJ cZ σ) H) (hD : ∀ τ, va_D A (wC ad cI cJ cZ τ)) (hS : va_S A H0 H locs) (hd : decode cc pc = .ok (.putfield idx, 3)) (kk : ∀ (H1 : Heap) (locs1 : List Loc), va_P D vwCl (wC ad cI cJ cZ (scn σ v)) H1 → va_S A H0 H1 locs1 → W p l e R s m args below meth c H1 locs1 cells slots Q (F0 m (pc + 3) ls (rest))) : W p l e R s m args below meth c H locs cells slots Q (F0 m (pc) ls (.int (nI (v)) :: .ref (ad 1) :: rest)) := CM.put (T := TX1) (N := 7) (ty := .int) E hP (hD σ) hS 1 rfl rfl inG_X1 tyX1 tyX1_ok nmX1 6 (by decide) hl rfl (by decide +kernel) rfl rfl (Nat.le_of_ble_eq_true rfl) rfl hd (fun H1 l1 h1 _ h3 => kk H1 l1 h1 h3)
theorem gt_X2_program (E : Cx p s m args c cc nL own x0 D (t3 cI cJ cZ)) (hl : Cond.fieldLink own idx (TX2 0).1 (TX2 0).2.1 (TX2 0).2.2.1 ∈ G) (hP : va_P D vwCl (wC ad cI cJ cZ σ) H) (hd : decode cc pc = .ok (.getfield idx, 3)) (kk : W p l e R s m args below meth c H locs cells slots Q (F0 m (pc + 3) ls (.ref (ad 1) :: rest))) : W p l e R s m args below meth c H locs cells slots Q (F0 m (pc) ls (.ref (ad 2) :: rest)) := CM.get (T := TX2) (N := 6) (ref := "") E hP 2 rfl rfl inG_X2 0 (by decide) hl rfl hd kk
theorem gt_X2_verdicts (E : Cx p s m args c cc nL own x0 D (t3 cI cJ cZ)) (hl : Cond.fieldLink own idx (TX2 1).1 (TX2 1).2.1 (TX2 1).2.2.1 ∈ G) (hP : va_P D vwCl (wC ad cI cJ cZ σ) H) (hd : decode cc pc = .ok (.getfield idx, 3)) (kk : W p l e R s m args below meth c H locs cells slots Q (F0 m (pc + 3) ls (.ref (ad 10) :: rest))) : W p l e R s m args below meth c H locs cells slots Q (F0 m (pc) ls (.ref (ad 2) :: rest)) := CM.get (T := TX2) (N := 6) (ref := "") E hP 2 rfl rfl inG_X2 1 (by decide) hl rfl hd kk
theorem gt_X2_callVerdicts (E : Cx p s m args c cc nL own x0 D (t3 cI cJ cZ)) (hl : Cond.fieldLink own idx (TX2 2).1 (TX2 2).2.1 (TX2 2).2.2.1 ∈ G) (hP : va_P D vwCl (wC ad cI cJ cZ σ) H) (hd : decode cc pc = .ok (.getfield idx, 3)) (kk : W p l e R s m args below meth c H locs cells slots Q (F0 m (pc + 3) ls (.ref (ad 11) :: rest))) : W p l e R s m args below meth c H locs cells slots Q (F0 m (pc) ls (.ref (ad 2) :: rest)) := CM.get (T := TX2) (N := 6) (ref := "") E hP 2 rfl rfl inG_X2 2 (by decide) hl rfl hd kk
theorem gt_X2_made (E : Cx p s m args c cc nL own x0 D (t3 cI cJ cZ)) (hl : Cond.fieldLink own idx (TX2 3).1 (TX2 3).2.1 (TX2 3).2.2.1 ∈ G) (hP : va_P D vwCl (wC ad cI cJ cZ σ) H) (hd : decode cc pc = .ok (.getfield idx, 3)) (kk : W p l e R s m args below meth c H locs cells slots Q (F0 m (pc + 3) ls (.int (nI (gcma σ)) :: rest))) : W p l e R s m args below meth c H locs cells slots Q (F0 m (pc) ls (.ref (ad 2) :: rest)) := CM.get (T := TX2) (N := 6) (ref := "") E hP 2 rfl rfl inG_X2 3 (by decide) hl rfl hd kk
theorem pt_X2_made {v : Nat} (E : Cx p s m args c cc nL own x0 D (t3 cI cJ cZ)) (hl : Cond.fieldLink own idx (TX2 3).1 (TX2 3).2.1 (TX2 3).2.2.1 ∈ G) (hP : va_P D vwCl (wC ad cI cJ cZ σ) H) (hD : ∀ τ, va_D A (wC ad cI cJ cZ τ)) (hS : va_S A H0 H locs) (hd : decode cc pc = .ok (.putfield idx, 3)) (kk : ∀ (H1 : Heap) (locs1 : List Loc), va_P D vwCl (wC ad cI cJ cZ (scma σ v)) H1 → va_S A H0 H1 locs1 → W p l e R s m args below meth c H1 locs1 cells slots Q (F0 m (pc + 3) ls (rest))) : W p l e R s m args below meth c H locs cells slots Q (F0 m (pc) ls (.int (nI (v)) :: .ref (ad 2) :: rest)) := CM.put (T := TX2) (N := 6) (ty := .int) E hP (hD σ) hS 2 rfl rfl inG_X2 tyX2 tyX2_ok nmX2 3 (by decide) hl rfl (by decide +kernel) rfl rfl (Nat.le_of_ble_eq_true rfl) rfl hd (fun H1 l1 h1 _ h3 => kk H1 l1 h1 h3)
theorem gt_X2_reached (E : Cx p s m args c cc nL own x0 D (t3 cI cJ cZ)) (hl : Cond.fieldLink own idx (TX2 4).1 (TX2 4).2.1 (TX2 4).2.2.1 ∈ G) (hP : va_P D vwCl (wC ad cI cJ cZ σ) H) (hd : decode cc pc = .ok (.getfield idx, 3)) (kk : W p l e R s m args below meth c H locs cells slots Q (F0 m (pc + 3) ls (.int (nI (gcre σ)) :: rest))) : W p l e R s m args below meth c H locs cells slots Q (F0 m (pc) ls (.ref (ad 2) :: rest)) := CM.get (T := TX2) (N := 6) (ref := "") E hP 2 rfl rfl inG_X2 4 (by decide) hl rfl hd kk
theorem pt_X2_reached {v : Nat} (E : Cx p s m args c cc nL own x0 D (t3 cI cJ cZ)) (hl : Cond.fieldLink own idx (TX2 4).1 (TX2 4).2.1 (TX2 4).2.2.1 ∈ G) (hP : va_P D vwCl (wC ad cI cJ cZ σ) H) (hD : ∀ τ, va_D A (wC ad cI cJ cZ τ)) (hS : va_S A H0 H locs) (hd : decode cc pc = .ok (.putfield idx, 3)) (kk : ∀ (H1 : Heap) (locs1 : List Loc), va_P D vwCl (wC ad cI cJ cZ (scre σ v)) H1 → va_S A H0 H1 locs1 → W p l e R s m args below meth c H1 locs1 cells slots Q (F0 m (pc + 3) ls (rest))) : W p l e R s m args below meth c H locs cells slots Q (F0 m (pc) ls (.int (nI (v)) :: .ref (ad 2) :: rest)) := CM.put (T := TX2) (N := 6) (ty := .int) E hP (hD σ) hS 2 rfl rfl inG_X2 tyX2 tyX2_ok nmX2 4 (by decide) hl rfl (by decide +kernel) rfl rfl (Nat.le_of_ble_eq_true rfl) rfl hd (fun H1 l1 h1 _ h3 => kk H1 l1 h1 h3)
theorem gt_X2_called (E : Cx p s m args c cc nL own x0 D (t3 cI cJ cZ)) (hl : Cond.fieldLink own idx (TX2 5).1 (TX2 5).2.1 (TX2 5).2.2.1 ∈ G) (hP : va_P D vwCl (wC ad cI cJ cZ σ) H) (hd : decode cc pc = .ok (.getfield idx, 3)) (kk : W p l e R s m args below meth c H locs cells slots Q (F0 m (pc + 3) ls (.int (nI (gcca σ)) :: rest))) : W p l e R s m args below meth c H locs cells slots Q (F0 m (pc) ls (.ref (ad 2) :: rest)) := CM.get (T := TX2) (N := 6) (ref := "") E hP 2 rfl rfl inG_X2 5 (by decide) hl rfl hd kk
theorem pt_X2_called {v : Nat} (E : Cx p s m args c cc nL own x0 D (t3 cI cJ cZ)) (hl : Cond.fieldLink own idx (TX2 5).1 (TX2 5).2.1 (TX2 5).2.2.1 ∈ G) (hP : va_P D vwCl (wC ad cI cJ cZ σ) H) (hD : ∀ τ, va_D A (wC ad cI cJ cZ τ)) (hS : va_S A H0 H locs) (hd : decode cc pc = .ok (.putfield idx, 3)) (kk : ∀ (H1 : Heap) (locs1 : List Loc), va_P D vwCl (wC ad cI cJ cZ (scca σ v)) H1 → va_S A H0 H1 locs1 → W p l e R s m args below meth c H1 locs1 cells slots Q (F0 m (pc + 3) ls (rest))) : W p l e R s m args below meth c H locs cells slots Q (F0 m (pc) ls (.int (nI (v)) :: .ref (ad 2) :: rest)) := CM.put (T := TX2) (N := 6) (ty := .int) E hP (hD σ) hS 2 rfl rfl inG_X2 tyX2 tyX2_ok nmX2 5 (by decide) hl rfl (by decide +kernel) rfl rfl (Nat.le_of_ble_eq_true rfl) rfl hd (fun H1 l1 h1 _ h3 => kk H1 l1 h1 h3)
theorem gt_X0_program (E : Cx p s m args c cc nL own x0 D (t3 cI cJ cZ)) (hl : Cond.fieldLink own idx (TX0 0).1 (TX0 0).2.1 (TX0 0).2.2.1 ∈ G) (hP : va_P D vwCl (wC ad cI cJ cZ σ) H) (hd : decode cc pc = .ok (.getfield idx, 3)) (kk : W p l e R s m args below meth c H locs cells slots Q (F0 m (pc + 3) ls (.ref (ad 1) :: rest))) : W p l e R s m args below meth c H locs cells slots Q (F0 m (pc) ls (.ref (ad 3) :: rest)) := CM.get (T := TX0) (N := 15) (ref := "") E hP 3 rfl rfl inG_X0 0 (by decide) hl rfl hd kk
theorem gt_X0_shaping (E : Cx p s m args c cc nL own x0 D (t3 cI cJ cZ)) (hl : Cond.fieldLink own idx (TX0 1).1 (TX0 1).2.1 (TX0 1).2.2.1 ∈ G) (hP : va_P D vwCl (wC ad cI cJ cZ σ) H) (hd : decode cc pc = .ok (.getfield idx, 3)) (kk : W p l e R s m args below meth c H locs cells slots Q (F0 m (pc + 3) ls (.ref (ad 2) :: rest))) : W p l e R s m args below meth c H locs cells slots Q (F0 m (pc) ls (.ref (ad 3) :: rest)) := CM.get (T := TX0) (N := 15) (ref := "") E hP 3 rfl rfl inG_X0 1 (by decide) hl rfl hd kk
theorem gt_X0_registers (E : Cx p s m args c cc nL own x0 D (t3 cI cJ cZ)) (hl : Cond.fieldLink own idx (TX0 2).1 (TX0 2).2.1 (TX0 2).2.2.1 ∈ G) (hP : va_P D vwCl (wC ad cI cJ cZ σ) H) (hd : decode cc pc = .ok (.getfield idx, 3)) (kk : W p l e R s m args below meth c H locs cells slots Q (F0 m (pc + 3) ls (.ref (ad 12) :: rest))) : W p l e R s m args below meth c H locs cells slots Q (F0 m (pc) ls (.ref (ad 3) :: rest)) := CM.get (T := TX0) (N := 15) (ref := "") E hP 3 rfl rfl inG_X0 2 (by decide) hl rfl hd kk
theorem gt_X0_bodies (E : Cx p s m args c cc nL own x0 D (t3 cI cJ cZ)) (hl : Cond.fieldLink own idx (TX0 3).1 (TX0 3).2.1 (TX0 3).2.2.1 ∈ G) (hP : va_P D vwCl (wC ad cI cJ cZ σ) H) (hd : decode cc pc = .ok (.getfield idx, 3)) (kk : W p l e R s m args below meth c H locs cells slots Q (F0 m (pc + 3) ls (.ref (ad 13) :: rest))) : W p l e R s m args below meth c H locs cells slots Q (F0 m (pc) ls (.ref (ad 3) :: rest)) := CM.get (T := TX0) (N := 15) (ref := "") E hP 3 rfl rfl inG_X0 3 (by decide) hl rfl hd kk
theorem gt_X0_nexts (E : Cx p s m args c cc nL own x0 D (t3 cI cJ cZ)) (hl : Cond.fieldLink own idx (TX0 4).1 (TX0 4).2.1 (TX0 4).2.2.1 ∈ G) (hP : va_P D vwCl (wC ad cI cJ cZ σ) H) (hd : decode cc pc = .ok (.getfield idx, 3)) (kk : W p l e R s m args below meth c H locs cells slots Q (F0 m (pc + 3) ls (.ref (ad 14) :: rest))) : W p l e R s m args below meth c H locs cells slots Q (F0 m (pc) ls (.ref (ad 3) :: rest)) := CM.get (T := TX0) (N := 15) (ref := "") E hP 3 rfl rfl inG_X0 4 (by decide) hl rfl hd kk
theorem gt_X0_answersTo (E : Cx p s m args c cc nL own x0 D (t3 cI cJ cZ)) (hl : Cond.fieldLink own idx (TX0 5).1 (TX0 5).2.1 (TX0 5).2.2.1 ∈ G) (hP : va_P D vwCl (wC ad cI cJ cZ σ) H) (hd : decode cc pc = .ok (.getfield idx, 3)) (kk : W p l e R s m args below meth c H locs cells slots Q (F0 m (pc + 3) ls (.ref (ad 15) :: rest))) : W p l e R s m args below meth c H locs cells slots Q (F0 m (pc) ls (.ref (ad 3) :: rest)) := CM.get (T := TX0) (N := 15) (ref := "") E hP 3 rfl rfl inG_X0 5 (by decide) hl rfl hd kk
theorem gt_X0_classes (E : Cx p s m args c cc nL own x0 D (t3 cI cJ cZ)) (hl : Cond.fieldLink own idx (TX0 6).1 (TX0 6).2.1 (TX0 6).2.2.1 ∈ G) (hP : va_P D vwCl (wC ad cI cJ cZ σ) H) (hd : decode cc pc = .ok (.getfield idx, 3)) (kk : W p l e R s m args below meth c H locs cells slots Q (F0 m (pc + 3) ls (.ref (ad 16) :: rest))) : W p l e R s m args below meth c H locs cells slots Q (F0 m (pc) ls (.ref (ad 3) :: rest)) := CM.get (T := TX0) (N := 15) (ref := "") E hP 3 rfl rfl inG_X0 6 (by decide) hl rfl hd kk
theorem gt_X0_fields (E : Cx p s m args c cc nL own x0 D (t3 cI cJ cZ)) (hl : Cond.fieldLink own idx (TX0 7).1 (TX0 7).2.1 (TX0 7).2.2.1 ∈ G) (hP : va_P D vwCl (wC ad cI cJ cZ σ) H) (hd : decode cc pc = .ok (.getfield idx, 3)) (kk : W p l e R s m args below meth c H locs cells slots Q (F0 m (pc + 3) ls (.ref (ad 17) :: rest))) : W p l e R s m args below meth c H locs cells slots Q (F0 m (pc) ls (.ref (ad 3) :: rest)) := CM.get (T := TX0) (N := 15) (ref := "") E hP 3 rfl rfl inG_X0 7 (by decide) hl rfl hd kk
theorem gt_X0_putOut (E : Cx p s m args c cc nL own x0 D (t3 cI cJ cZ)) (hl : Cond.fieldLink own idx (TX0 8).1 (TX0 8).2.1 (TX0 8).2.2.1 ∈ G) (hP : va_P D vwCl (wC ad cI cJ cZ σ) H) (hd : decode cc pc = .ok (.getfield idx, 3)) (kk : W p l e R s m args below meth c H locs cells slots Q (F0 m (pc + 3) ls (.ref (ad 18) :: rest))) : W p l e R s m args below meth c H locs cells slots Q (F0 m (pc) ls (.ref (ad 3) :: rest)) := CM.get (T := TX0) (N := 15) (ref := "") E hP 3 rfl rfl inG_X0 8 (by decide) hl rfl hd kk
theorem gt_X0_counts (E : Cx p s m args c cc nL own x0 D (t3 cI cJ cZ)) (hl : Cond.fieldLink own idx (TX0 9).1 (TX0 9).2.1 (TX0 9).2.2.1 ∈ G) (hP : va_P D vwCl (wC ad cI cJ cZ σ) H) (hd : decode cc pc = .ok (.getfield idx, 3)) (kk : W p l e R s m args below meth c H locs cells slots Q (F0 m (pc + 3) ls (.ref (ad 19) :: rest))) : W p l e R s m args below meth c H locs cells slots Q (F0 m (pc) ls (.ref (ad 3) :: rest)) := CM.get (T := TX0) (N := 15) (ref := "") E hP 3 rfl rfl inG_X0 9 (by decide) hl rfl hd kk
theorem gt_X0_asShaped (E : Cx p s m args c cc nL own x0 D (t3 cI cJ cZ)) (hl : Cond.fieldLink own idx (TX0 10).1 (TX0 10).2.1 (TX0 10).2.2.1 ∈ G) (hP : va_P D vwCl (wC ad cI cJ cZ σ) H) (hd : decode cc pc = .ok (.getfield idx, 3)) (kk : W p l e R s m args below meth c H locs cells slots Q (F0 m (pc + 3) ls (.int (bI (gcsh σ)) :: rest))) : W p l e R s m args below meth c H locs cells slots Q (F0 m (pc) ls (.ref (ad 3) :: rest)) := CM.get (T := TX0) (N := 15) (ref := "") E hP 3 rfl rfl inG_X0 10 (by decide) hl rfl hd kk
theorem pt_X0_asShaped {v : Bool} (E : Cx p s m args c cc nL own x0 D (t3 cI cJ cZ)) (hl : Cond.fieldLink own idx (TX0 10).1 (TX0 10).2.1 (TX0 10).2.2.1 ∈ G) (hP : va_P D vwCl (wC ad cI cJ cZ σ) H) (hD : ∀ τ, va_D A (wC ad cI cJ cZ τ)) (hS : va_S A H0 H locs) (hd : decode cc pc = .ok (.putfield idx, 3)) (kk : ∀ (H1 : Heap) (locs1 : List Loc), va_P D vwCl (wC ad cI cJ cZ (scsh σ v)) H1 → va_S A H0 H1 locs1 → W p l e R s m args below meth c H1 locs1 cells slots Q (F0 m (pc + 3) ls (rest))) : W p l e R s m args below meth c H locs cells slots Q (F0 m (pc) ls (.int (bI (v)) :: .ref (ad 3) :: rest)) := CM.put (T := TX0) (N := 15) (ty := .boolean) E hP (hD σ) hS 3 rfl rfl inG_X0 tyX0 tyX0_ok nmX0 10 (by decide) hl rfl (by decide +kernel) (bI_n v) (bI_f v) (Nat.le_of_ble_eq_true rfl) rfl hd (fun H1 l1 h1 _ h3 => kk H1 l1 h1 h3)
theorem gt_X0_room (E : Cx p s m args c cc nL own x0 D (t3 cI cJ cZ)) (hl : Cond.fieldLink own idx (TX0 11).1 (TX0 11).2.1 (TX0 11).2.2.1 ∈ G) (hP : va_P D vwCl (wC ad cI cJ cZ σ) H) (hd : decode cc pc = .ok (.getfield idx, 3)) (kk : W p l e R s m args below meth c H locs cells slots Q (F0 m (pc + 3) ls (.int (nI (gcrm σ)) :: rest))) : W p l e R s m args below meth c H locs cells slots Q (F0 m (pc) ls (.ref (ad 3) :: rest)) := CM.get (T := TX0) (N := 15) (ref := "") E hP 3 rfl rfl inG_X0 11 (by decide) hl rfl hd kk
theorem pt_X0_room {v : Nat} (E : Cx p s m args c cc nL own x0 D (t3 cI cJ cZ)) (hl : Cond.fieldLink own idx (TX0 11).1 (TX0 11).2.1 (TX0 11).2.2.1 ∈ G) (hP : va_P D vwCl (wC ad cI cJ cZ σ) H) (hD : ∀ τ, va_D A (wC ad cI cJ cZ τ)) (hS : va_S A H0 H locs) (hd : decode cc pc = .ok (.putfield idx, 3)) (kk : ∀ (H1 : Heap) (locs1 : List Loc), va_P D vwCl (wC ad cI cJ cZ (scrm σ v)) H1 → va_S A H0 H1 locs1 → W p l e R s m args below meth c H1 locs1 cells slots Q (F0 m (pc + 3) ls (rest))) : W p l e R s m args below meth c H locs cells slots Q (F0 m (pc) ls (.int (nI (v)) :: .ref (ad 3) :: rest)) := CM.put (T := TX0) (N := 15) (ty := .int) E hP (hD σ) hS 3 rfl rfl inG_X0 tyX0 tyX0_ok nmX0 11 (by decide) hl rfl (by decide +kernel) rfl rfl (Nat.le_of_ble_eq_true rfl) rfl hd (fun H1 l1 h1 _ h3 => kk H1 l1 h1 h3)
theorem gt_X0_frames (E : Cx p s m args c cc nL own x0 D (t3 cI cJ cZ)) (hl : Cond.fieldLink own idx (TX0 12).1 (TX0 12).2.1 (TX0 12).2.2.1 ∈ G) (hP : va_P D vwCl (wC ad cI cJ cZ σ) H) (hd : decode cc pc = .ok (.getfield idx, 3)) (kk : W p l e R s m args below meth c H locs cells slots Q (F0 m (pc + 3) ls (.int (nI (gcfr σ)) :: rest))) : W p l e R s m args below meth c H locs cells slots Q (F0 m (pc) ls (.ref (ad 3) :: rest)) := CM.get (T := TX0) (N := 15) (ref := "") E hP 3 rfl rfl inG_X0 12 (by decide) hl rfl hd kk
theorem pt_X0_frames {v : Nat} (E : Cx p s m args c cc nL own x0 D (t3 cI cJ cZ)) (hl : Cond.fieldLink own idx (TX0 12).1 (TX0 12).2.1 (TX0 12).2.2.1 ∈ G) (hP : va_P D vwCl (wC ad cI cJ cZ σ) H) (hD : ∀ τ, va_D A (wC ad cI cJ cZ τ)) (hS : va_S A H0 H locs) (hd : decode cc pc = .ok (.putfield idx, 3)) (kk : ∀ (H1 : Heap) (locs1 : List Loc), va_P D vwCl (wC ad cI cJ cZ (scfr σ v)) H1 → va_S A H0 H1 locs1 → W p l e R s m args below meth c H1 locs1 cells slots Q (F0 m (pc + 3) ls (rest))) : W p l e R s m args below meth c H locs cells slots Q (F0 m (pc) ls (.int (nI (v)) :: .ref (ad 3) :: rest)) := CM.put (T := TX0) (N := 15) (ty := .int) E hP (hD σ) hS 3 rfl rfl inG_X0 tyX0 tyX0_ok nmX0 12 (by decide) hl rfl (by decide +kernel) rfl rfl (Nat.le_of_ble_eq_true rfl) rfl hd (fun H1 l1 h1 _ h3 => kk H1 l1 h1 h3)
theorem gt_X0_objects (E : Cx p s m args c cc nL own x0 D (t3 cI cJ cZ)) (hl : Cond.fieldLink own idx (TX0 13).1 (TX0 13).2.1 (TX0 13).2.2.1 ∈ G) (hP : va_P D vwCl (wC ad cI cJ cZ σ) H) (hd : decode cc pc = .ok (.getfield idx, 3)) (kk : W p l e R s m args below meth c H locs cells slots Q (F0 m (pc + 3) ls (.int (nI (gcob σ)) :: rest))) : W p l e R s m args below meth c H locs cells slots Q (F0 m (pc) ls (.ref (ad 3) :: rest)) := CM.get (T := TX0) (N := 15) (ref := "") E hP 3 rfl rfl inG_X0 13 (by decide) hl rfl hd kk
theorem pt_X0_objects {v : Nat} (E : Cx p s m args c cc nL own x0 D (t3 cI cJ cZ)) (hl : Cond.fieldLink own idx (TX0 13).1 (TX0 13).2.1 (TX0 13).2.2.1 ∈ G) (hP : va_P D vwCl (wC ad cI cJ cZ σ) H) (hD : ∀ τ, va_D A (wC ad cI cJ cZ τ)) (hS : va_S A H0 H locs) (hd : decode cc pc = .ok (.putfield idx, 3)) (kk : ∀ (H1 : Heap) (locs1 : List Loc), va_P D vwCl (wC ad cI cJ cZ (scob σ v)) H1 → va_S A H0 H1 locs1 → W p l e R s m args below meth c H1 locs1 cells slots Q (F0 m (pc + 3) ls (rest))) : W p l e R s m args below meth c H locs cells slots Q (F0 m (pc) ls (.int (nI (v)) :: .ref (ad 3) :: rest)) := CM.put (T := TX0) (N := 15) (ty := .int) E hP (hD σ) hS 3 rfl rfl inG_X0 tyX0 tyX0_ok nmX0 13 (by decide) hl rfl (by decide +kernel) rfl rfl (Nat.le_of_ble_eq_true rfl) rfl hd (fun H1 l1 h1 _ h3 => kk H1 l1 h1 h3)
theorem gt_X0_trap (E : Cx p s m args c cc nL own x0 D (t3 cI cJ cZ)) (hl : Cond.fieldLink own idx (TX0 14).1 (TX0 14).2.1 (TX0 14).2.2.1 ∈ G) (hP : va_P D vwCl (wC ad cI cJ cZ σ) H) (hd : decode cc pc = .ok (.getfield idx, 3)) (kk : W p l e R s m args below meth c H locs cells slots Q (F0 m (pc + 3) ls (.int (nI (gctr σ)) :: rest))) : W p l e R s m args below meth c H locs cells slots Q (F0 m (pc) ls (.ref (ad 3) :: rest)) := CM.get (T := TX0) (N := 15) (ref := "") E hP 3 rfl rfl inG_X0 14 (by decide) hl rfl hd kk
theorem pt_X0_trap {v : Nat} (E : Cx p s m args c cc nL own x0 D (t3 cI cJ cZ)) (hl : Cond.fieldLink own idx (TX0 14).1 (TX0 14).2.1 (TX0 14).2.2.1 ∈ G) (hP : va_P D vwCl (wC ad cI cJ cZ σ) H) (hD : ∀ τ, va_D A (wC ad cI cJ cZ τ)) (hS : va_S A H0 H locs) (hd : decode cc pc = .ok (.putfield idx, 3)) (kk : ∀ (H1 : Heap) (locs1 : List Loc), va_P D vwCl (wC ad cI cJ cZ (sctr σ v)) H1 → va_S A H0 H1 locs1 → W p l e R s m args below meth c H1 locs1 cells slots Q (F0 m (pc + 3) ls (rest))) : W p l e R s m args below meth c H locs cells slots Q (F0 m (pc) ls (.int (nI (v)) :: .ref (ad 3) :: rest)) := CM.put (T := TX0) (N := 15) (ty := .int) E hP (hD σ) hS 3 rfl rfl inG_X0 tyX0 tyX0_ok nmX0 14 (by decide) hl rfl (by decide +kernel) rfl rfl (Nat.le_of_ble_eq_true rfl) rfl hd (fun H1 l1 h1 _ h3 => kk H1 l1 h1 h3)
theorem ld_CS_P {i : Nat} (E : Cx p s m args c cc nL own x0 D (t3 cI cJ cZ)) (hP : va_P D vwCl (wC ad cI cJ cZ σ) H) (hi : i < 6) (hd : decode cc pc = .ok (.iaload, 1)) (kk : W p l e R s m args below meth c H locs cells slots Q (F0 m (pc + 1) ls (.int (oI (gcP σ i)) :: rest))) : W p l e R s m args below meth c H locs cells slots Q (F0 m (pc) ls (.int (nI i) :: .ref (ad 4) :: rest)) := by
  refine va_iald E.1.1 E.1.2.1 E.2 hP 4 0 rfl rfl (vp_in_nI hi (by decide)) hd ?_
  rw [nI_clamp (Nat.lt_trans hi (by decide))]
  exact kk
theorem as_CS_P {i : Nat} {v : Option Nat} (E : Cx p s m args c cc nL own x0 D (t3 cI cJ cZ)) (hP : va_P D vwCl (wC ad cI cJ cZ σ) H) (hD : ∀ τ, va_D A (wC ad cI cJ cZ τ)) (hS : va_S A H0 H locs) (hi : i < 6) (hd : decode cc pc = .ok (.iastore, 1)) (kk : ∀ (H1 : Heap) (locs1 : List Loc), va_P D vwCl (wC ad cI cJ cZ (scP σ (va_up (gcP σ) i v))) H1 → va_S A H0 H1 locs1 → W p l e R s m args below meth c H1 locs1 cells slots Q (F0 m (pc + 1) ls (rest))) : W p l e R s m args below meth c H locs cells slots Q (F0 m (pc) ls (.int (oI (v)) :: .int (nI i) :: .ref (ad 4) :: rest)) := by
  refine va_iast E.1.1 E.1.2.1 E.2 hP (hD σ) hS 4 0 rfl rfl (vp_in_nI hi (by decide)) hd (fun H1 l1 h1 _ h3 => kk H1 l1 ?_ h3)
  have e9 : upd (fun i => oI (gcP σ i)) (nI i).toNatClampNeg (oI (v)) = fun j => oI (va_up (gcP σ) i v j) := by
    funext j
    rw [nI_clamp (Nat.lt_trans hi (by decide))]
    unfold upd va_up
    split <;> rfl
  rw [e9] at h1
  exact h1
theorem ld_CS_L {i : Nat} (E : Cx p s m args c cc nL own x0 D (t3 cI cJ cZ)) (hP : va_P D vwCl (wC ad cI cJ cZ σ) H) (hi : i < 24) (hd : decode cc pc = .ok (.iaload, 1)) (kk : W p l e R s m args below meth c H locs cells slots Q (F0 m (pc + 1) ls (.int (nI (gcL σ i)) :: rest))) : W p l e R s m args below meth c H locs cells slots Q (F0 m (pc) ls (.int (nI i) :: .ref (ad 5) :: rest)) := by
  refine va_iald E.1.1 E.1.2.1 E.2 hP 5 0 rfl rfl (vp_in_nI hi (by decide)) hd ?_
  rw [nI_clamp (Nat.lt_trans hi (by decide))]
  exact kk
theorem as_CS_L {i : Nat} {v : Nat} (E : Cx p s m args c cc nL own x0 D (t3 cI cJ cZ)) (hP : va_P D vwCl (wC ad cI cJ cZ σ) H) (hD : ∀ τ, va_D A (wC ad cI cJ cZ τ)) (hS : va_S A H0 H locs) (hi : i < 24) (hd : decode cc pc = .ok (.iastore, 1)) (kk : ∀ (H1 : Heap) (locs1 : List Loc), va_P D vwCl (wC ad cI cJ cZ (scL σ (va_up (gcL σ) i v))) H1 → va_S A H0 H1 locs1 → W p l e R s m args below meth c H1 locs1 cells slots Q (F0 m (pc + 1) ls (rest))) : W p l e R s m args below meth c H locs cells slots Q (F0 m (pc) ls (.int (nI (v)) :: .int (nI i) :: .ref (ad 5) :: rest)) := by
  refine va_iast E.1.1 E.1.2.1 E.2 hP (hD σ) hS 5 0 rfl rfl (vp_in_nI hi (by decide)) hd (fun H1 l1 h1 _ h3 => kk H1 l1 ?_ h3)
  have e9 : upd (fun i => nI (gcL σ i)) (nI i).toNatClampNeg (nI (v)) = fun j => nI (va_up (gcL σ) i v j) := by
    funext j
    rw [nI_clamp (Nat.lt_trans hi (by decide))]
    unfold upd va_up
    split <;> rfl
  rw [e9] at h1
  exact h1
theorem ld_CS_K {i : Nat} (E : Cx p s m args c cc nL own x0 D (t3 cI cJ cZ)) (hP : va_P D vwCl (wC ad cI cJ cZ σ) H) (hi : i < 240) (hd : decode cc pc = .ok (.iaload, 1)) (kk : W p l e R s m args below meth c H locs cells slots Q (F0 m (pc + 1) ls (.int (nI (gcK σ i)) :: rest))) : W p l e R s m args below meth c H locs cells slots Q (F0 m (pc) ls (.int (nI i) :: .ref (ad 6) :: rest)) := by
  refine va_iald E.1.1 E.1.2.1 E.2 hP 6 0 rfl rfl (vp_in_nI hi (by decide)) hd ?_
  rw [nI_clamp (Nat.lt_trans hi (by decide))]
  exact kk
theorem as_CS_K {i : Nat} {v : Nat} (E : Cx p s m args c cc nL own x0 D (t3 cI cJ cZ)) (hP : va_P D vwCl (wC ad cI cJ cZ σ) H) (hD : ∀ τ, va_D A (wC ad cI cJ cZ τ)) (hS : va_S A H0 H locs) (hi : i < 240) (hd : decode cc pc = .ok (.iastore, 1)) (kk : ∀ (H1 : Heap) (locs1 : List Loc), va_P D vwCl (wC ad cI cJ cZ (scK σ (va_up (gcK σ) i v))) H1 → va_S A H0 H1 locs1 → W p l e R s m args below meth c H1 locs1 cells slots Q (F0 m (pc + 1) ls (rest))) : W p l e R s m args below meth c H locs cells slots Q (F0 m (pc) ls (.int (nI (v)) :: .int (nI i) :: .ref (ad 6) :: rest)) := by
  refine va_iast E.1.1 E.1.2.1 E.2 hP (hD σ) hS 6 0 rfl rfl (vp_in_nI hi (by decide)) hd (fun H1 l1 h1 _ h3 => kk H1 l1 ?_ h3)
  have e9 : upd (fun i => nI (gcK σ i)) (nI i).toNatClampNeg (nI (v)) = fun j => nI (va_up (gcK σ) i v j) := by
    funext j
    rw [nI_clamp (Nat.lt_trans hi (by decide))]
    unfold upd va_up
    split <;> rfl
  rw [e9] at h1
  exact h1
theorem ld_CS_X {i : Nat} (E : Cx p s m args c cc nL own x0 D (t3 cI cJ cZ)) (hP : va_P D vwCl (wC ad cI cJ cZ σ) H) (hi : i < 240) (hd : decode cc pc = .ok (.iaload, 1)) (kk : W p l e R s m args below meth c H locs cells slots Q (F0 m (pc + 1) ls (.int (nI (gcX σ i)) :: rest))) : W p l e R s m args below meth c H locs cells slots Q (F0 m (pc) ls (.int (nI i) :: .ref (ad 7) :: rest)) := by
  refine va_iald E.1.1 E.1.2.1 E.2 hP 7 0 rfl rfl (vp_in_nI hi (by decide)) hd ?_
  rw [nI_clamp (Nat.lt_trans hi (by decide))]
  exact kk
theorem as_CS_X {i : Nat} {v : Nat} (E : Cx p s m args c cc nL own x0 D (t3 cI cJ cZ)) (hP : va_P D vwCl (wC ad cI cJ cZ σ) H) (hD : ∀ τ, va_D A (wC ad cI cJ cZ τ)) (hS : va_S A H0 H locs) (hi : i < 240) (hd : decode cc pc = .ok (.iastore, 1)) (kk : ∀ (H1 : Heap) (locs1 : List Loc), va_P D vwCl (wC ad cI cJ cZ (scX σ (va_up (gcX σ) i v))) H1 → va_S A H0 H1 locs1 → W p l e R s m args below meth c H1 locs1 cells slots Q (F0 m (pc + 1) ls (rest))) : W p l e R s m args below meth c H locs cells slots Q (F0 m (pc) ls (.int (nI (v)) :: .int (nI i) :: .ref (ad 7) :: rest)) := by
  refine va_iast E.1.1 E.1.2.1 E.2 hP (hD σ) hS 7 0 rfl rfl (vp_in_nI hi (by decide)) hd (fun H1 l1 h1 _ h3 => kk H1 l1 ?_ h3)
  have e9 : upd (fun i => nI (gcX σ i)) (nI i).toNatClampNeg (nI (v)) = fun j => nI (va_up (gcX σ) i v j) := by
    funext j
    rw [nI_clamp (Nat.lt_trans hi (by decide))]
    unfold upd va_up
    split <;> rfl
  rw [e9] at h1
  exact h1
theorem ld_CS_Y {i : Nat} (E : Cx p s m args c cc nL own x0 D (t3 cI cJ cZ)) (hP : va_P D vwCl (wC ad cI cJ cZ σ) H) (hi : i < 240) (hd : decode cc pc = .ok (.iaload, 1)) (kk : W p l e R s m args below meth c H locs cells slots Q (F0 m (pc + 1) ls (.int (gcY σ i) :: rest))) : W p l e R s m args below meth c H locs cells slots Q (F0 m (pc) ls (.int (nI i) :: .ref (ad 8) :: rest)) := by
  refine va_iald E.1.1 E.1.2.1 E.2 hP 8 0 rfl rfl (vp_in_nI hi (by decide)) hd ?_
  rw [nI_clamp (Nat.lt_trans hi (by decide))]
  exact kk
theorem as_CS_Y {i : Nat} {v : Int32} (E : Cx p s m args c cc nL own x0 D (t3 cI cJ cZ)) (hP : va_P D vwCl (wC ad cI cJ cZ σ) H) (hD : ∀ τ, va_D A (wC ad cI cJ cZ τ)) (hS : va_S A H0 H locs) (hi : i < 240) (hd : decode cc pc = .ok (.iastore, 1)) (kk : ∀ (H1 : Heap) (locs1 : List Loc), va_P D vwCl (wC ad cI cJ cZ (scY σ (va_up (gcY σ) i v))) H1 → va_S A H0 H1 locs1 → W p l e R s m args below meth c H1 locs1 cells slots Q (F0 m (pc + 1) ls (rest))) : W p l e R s m args below meth c H locs cells slots Q (F0 m (pc) ls (.int (v) :: .int (nI i) :: .ref (ad 8) :: rest)) := by
  refine va_iast E.1.1 E.1.2.1 E.2 hP (hD σ) hS 8 0 rfl rfl (vp_in_nI hi (by decide)) hd (fun H1 l1 h1 _ h3 => kk H1 l1 ?_ h3)
  have e9 : upd (fun i => gcY σ i) (nI i).toNatClampNeg (v) = fun j => va_up (gcY σ) i v j := by
    funext j
    rw [nI_clamp (Nat.lt_trans hi (by decide))]
    unfold upd va_up
    split <;> rfl
  rw [e9] at h1
  exact h1
theorem ld_CS_Z {i : Nat} (E : Cx p s m args c cc nL own x0 D (t3 cI cJ cZ)) (hP : va_P D vwCl (wC ad cI cJ cZ σ) H) (hi : i < 240) (hd : decode cc pc = .ok (.iaload, 1)) (kk : W p l e R s m args below meth c H locs cells slots Q (F0 m (pc + 1) ls (.int (gcZ σ i) :: rest))) : W p l e R s m args below meth c H locs cells slots Q (F0 m (pc) ls (.int (nI i) :: .ref (ad 9) :: rest)) := by
  refine va_iald E.1.1 E.1.2.1 E.2 hP 9 0 rfl rfl (vp_in_nI hi (by decide)) hd ?_
  rw [nI_clamp (Nat.lt_trans hi (by decide))]
  exact kk
theorem as_CS_Z {i : Nat} {v : Int32} (E : Cx p s m args c cc nL own x0 D (t3 cI cJ cZ)) (hP : va_P D vwCl (wC ad cI cJ cZ σ) H) (hD : ∀ τ, va_D A (wC ad cI cJ cZ τ)) (hS : va_S A H0 H locs) (hi : i < 240) (hd : decode cc pc = .ok (.iastore, 1)) (kk : ∀ (H1 : Heap) (locs1 : List Loc), va_P D vwCl (wC ad cI cJ cZ (scZ σ (va_up (gcZ σ) i v))) H1 → va_S A H0 H1 locs1 → W p l e R s m args below meth c H1 locs1 cells slots Q (F0 m (pc + 1) ls (rest))) : W p l e R s m args below meth c H locs cells slots Q (F0 m (pc) ls (.int (v) :: .int (nI i) :: .ref (ad 9) :: rest)) := by
  refine va_iast E.1.1 E.1.2.1 E.2 hP (hD σ) hS 9 0 rfl rfl (vp_in_nI hi (by decide)) hd (fun H1 l1 h1 _ h3 => kk H1 l1 ?_ h3)
  have e9 : upd (fun i => gcZ σ i) (nI i).toNatClampNeg (v) = fun j => va_up (gcZ σ) i v j := by
    funext j
    rw [nI_clamp (Nat.lt_trans hi (by decide))]
    unfold upd va_up
    split <;> rfl
  rw [e9] at h1
  exact h1
theorem ld_CS_V {i : Nat} (E : Cx p s m args c cc nL own x0 D (t3 cI cJ cZ)) (hP : va_P D vwCl (wC ad cI cJ cZ σ) H) (hi : i < 240) (hd : decode cc pc = .ok (.iaload, 1)) (kk : W p l e R s m args below meth c H locs cells slots Q (F0 m (pc + 1) ls (.int (nI (gcV σ i)) :: rest))) : W p l e R s m args below meth c H locs cells slots Q (F0 m (pc) ls (.int (nI i) :: .ref (ad 10) :: rest)) := by
  refine va_iald E.1.1 E.1.2.1 E.2 hP 10 0 rfl rfl (vp_in_nI hi (by decide)) hd ?_
  rw [nI_clamp (Nat.lt_trans hi (by decide))]
  exact kk
theorem as_CS_V {i : Nat} {v : Nat} (E : Cx p s m args c cc nL own x0 D (t3 cI cJ cZ)) (hP : va_P D vwCl (wC ad cI cJ cZ σ) H) (hD : ∀ τ, va_D A (wC ad cI cJ cZ τ)) (hS : va_S A H0 H locs) (hi : i < 240) (hd : decode cc pc = .ok (.iastore, 1)) (kk : ∀ (H1 : Heap) (locs1 : List Loc), va_P D vwCl (wC ad cI cJ cZ (scV σ (va_up (gcV σ) i v))) H1 → va_S A H0 H1 locs1 → W p l e R s m args below meth c H1 locs1 cells slots Q (F0 m (pc + 1) ls (rest))) : W p l e R s m args below meth c H locs cells slots Q (F0 m (pc) ls (.int (nI (v)) :: .int (nI i) :: .ref (ad 10) :: rest)) := by
  refine va_iast E.1.1 E.1.2.1 E.2 hP (hD σ) hS 10 0 rfl rfl (vp_in_nI hi (by decide)) hd (fun H1 l1 h1 _ h3 => kk H1 l1 ?_ h3)
  have e9 : upd (fun i => nI (gcV σ i)) (nI i).toNatClampNeg (nI (v)) = fun j => nI (va_up (gcV σ) i v j) := by
    funext j
    rw [nI_clamp (Nat.lt_trans hi (by decide))]
    unfold upd va_up
    split <;> rfl
  rw [e9] at h1
  exact h1
theorem ld_CS_CV {i : Nat} (E : Cx p s m args c cc nL own x0 D (t3 cI cJ cZ)) (hP : va_P D vwCl (wC ad cI cJ cZ σ) H) (hi : i < 4) (hd : decode cc pc = .ok (.iaload, 1)) (kk : W p l e R s m args below meth c H locs cells slots Q (F0 m (pc + 1) ls (.int (nI (gcCV σ i)) :: rest))) : W p l e R s m args below meth c H locs cells slots Q (F0 m (pc) ls (.int (nI i) :: .ref (ad 11) :: rest)) := by
  refine va_iald E.1.1 E.1.2.1 E.2 hP 11 0 rfl rfl (vp_in_nI hi (by decide)) hd ?_
  rw [nI_clamp (Nat.lt_trans hi (by decide))]
  exact kk
theorem as_CS_CV {i : Nat} {v : Nat} (E : Cx p s m args c cc nL own x0 D (t3 cI cJ cZ)) (hP : va_P D vwCl (wC ad cI cJ cZ σ) H) (hD : ∀ τ, va_D A (wC ad cI cJ cZ τ)) (hS : va_S A H0 H locs) (hi : i < 4) (hd : decode cc pc = .ok (.iastore, 1)) (kk : ∀ (H1 : Heap) (locs1 : List Loc), va_P D vwCl (wC ad cI cJ cZ (scCV σ (va_up (gcCV σ) i v))) H1 → va_S A H0 H1 locs1 → W p l e R s m args below meth c H1 locs1 cells slots Q (F0 m (pc + 1) ls (rest))) : W p l e R s m args below meth c H locs cells slots Q (F0 m (pc) ls (.int (nI (v)) :: .int (nI i) :: .ref (ad 11) :: rest)) := by
  refine va_iast E.1.1 E.1.2.1 E.2 hP (hD σ) hS 11 0 rfl rfl (vp_in_nI hi (by decide)) hd (fun H1 l1 h1 _ h3 => kk H1 l1 ?_ h3)
  have e9 : upd (fun i => nI (gcCV σ i)) (nI i).toNatClampNeg (nI (v)) = fun j => nI (va_up (gcCV σ) i v j) := by
    funext j
    rw [nI_clamp (Nat.lt_trans hi (by decide))]
    unfold upd va_up
    split <;> rfl
  rw [e9] at h1
  exact h1
theorem ld_CS_Rg {i : Nat} (E : Cx p s m args c cc nL own x0 D (t3 cI cJ cZ)) (hP : va_P D vwCl (wC ad cI cJ cZ σ) H) (hi : i < 72) (hd : decode cc pc = .ok (.laload, 1)) (kk : W p l e R s m args below meth c H locs cells slots Q (F0 m (pc + 1) ls (.long (vJ (gcRg σ i)) :: rest))) : W p l e R s m args below meth c H locs cells slots Q (F0 m (pc) ls (.int (nI i) :: .ref (ad 12) :: rest)) := by
  refine va_lald E.1.1 E.1.2.1 E.2 hP 12 1 rfl rfl (vp_in_nI hi (by decide)) hd ?_
  rw [nI_clamp (Nat.lt_trans hi (by decide))]
  exact kk
theorem as_CS_Rg {i : Nat} {v : Val} (E : Cx p s m args c cc nL own x0 D (t3 cI cJ cZ)) (hP : va_P D vwCl (wC ad cI cJ cZ σ) H) (hD : ∀ τ, va_D A (wC ad cI cJ cZ τ)) (hS : va_S A H0 H locs) (hi : i < 72) (hd : decode cc pc = .ok (.lastore, 1)) (kk : ∀ (H1 : Heap) (locs1 : List Loc), va_P D vwCl (wC ad cI cJ cZ (scRg σ (va_up (gcRg σ) i v))) H1 → va_S A H0 H1 locs1 → W p l e R s m args below meth c H1 locs1 cells slots Q (F0 m (pc + 1) ls (rest))) : W p l e R s m args below meth c H locs cells slots Q (F0 m (pc) ls (.long (vJ (v)) :: .int (nI i) :: .ref (ad 12) :: rest)) := by
  refine va_last E.1.1 E.1.2.1 E.2 hP (hD σ) hS 12 1 rfl rfl (vp_in_nI hi (by decide)) hd (fun H1 l1 h1 _ h3 => kk H1 l1 ?_ h3)
  have e9 : vp_updL (fun i => vJ (gcRg σ i)) (nI i).toNatClampNeg (vJ (v)) = fun j => vJ (va_up (gcRg σ) i v j) := by
    funext j
    rw [nI_clamp (Nat.lt_trans hi (by decide))]
    unfold vp_updL va_up
    split <;> rfl
  rw [e9] at h1
  exact h1
theorem ld_CS_Bo {i : Nat} (E : Cx p s m args c cc nL own x0 D (t3 cI cJ cZ)) (hP : va_P D vwCl (wC ad cI cJ cZ σ) H) (hi : i < 12) (hd : decode cc pc = .ok (.iaload, 1)) (kk : W p l e R s m args below meth c H locs cells slots Q (F0 m (pc + 1) ls (.int (nI (gcBo σ i)) :: rest))) : W p l e R s m args below meth c H locs cells slots Q (F0 m (pc) ls (.int (nI i) :: .ref (ad 13) :: rest)) := by
  refine va_iald E.1.1 E.1.2.1 E.2 hP 13 0 rfl rfl (vp_in_nI hi (by decide)) hd ?_
  rw [nI_clamp (Nat.lt_trans hi (by decide))]
  exact kk
theorem as_CS_Bo {i : Nat} {v : Nat} (E : Cx p s m args c cc nL own x0 D (t3 cI cJ cZ)) (hP : va_P D vwCl (wC ad cI cJ cZ σ) H) (hD : ∀ τ, va_D A (wC ad cI cJ cZ τ)) (hS : va_S A H0 H locs) (hi : i < 12) (hd : decode cc pc = .ok (.iastore, 1)) (kk : ∀ (H1 : Heap) (locs1 : List Loc), va_P D vwCl (wC ad cI cJ cZ (scBo σ (va_up (gcBo σ) i v))) H1 → va_S A H0 H1 locs1 → W p l e R s m args below meth c H1 locs1 cells slots Q (F0 m (pc + 1) ls (rest))) : W p l e R s m args below meth c H locs cells slots Q (F0 m (pc) ls (.int (nI (v)) :: .int (nI i) :: .ref (ad 13) :: rest)) := by
  refine va_iast E.1.1 E.1.2.1 E.2 hP (hD σ) hS 13 0 rfl rfl (vp_in_nI hi (by decide)) hd (fun H1 l1 h1 _ h3 => kk H1 l1 ?_ h3)
  have e9 : upd (fun i => nI (gcBo σ i)) (nI i).toNatClampNeg (nI (v)) = fun j => nI (va_up (gcBo σ) i v j) := by
    funext j
    rw [nI_clamp (Nat.lt_trans hi (by decide))]
    unfold upd va_up
    split <;> rfl
  rw [e9] at h1
  exact h1
theorem ld_CS_Ne {i : Nat} (E : Cx p s m args c cc nL own x0 D (t3 cI cJ cZ)) (hP : va_P D vwCl (wC ad cI cJ cZ σ) H) (hi : i < 12) (hd : decode cc pc = .ok (.iaload, 1)) (kk : W p l e R s m args below meth c H locs cells slots Q (F0 m (pc + 1) ls (.int (nI (gcNe σ i)) :: rest))) : W p l e R s m args below meth c H locs cells slots Q (F0 m (pc) ls (.int (nI i) :: .ref (ad 14) :: rest)) := by
  refine va_iald E.1.1 E.1.2.1 E.2 hP 14 0 rfl rfl (vp_in_nI hi (by decide)) hd ?_
  rw [nI_clamp (Nat.lt_trans hi (by decide))]
  exact kk
theorem as_CS_Ne {i : Nat} {v : Nat} (E : Cx p s m args c cc nL own x0 D (t3 cI cJ cZ)) (hP : va_P D vwCl (wC ad cI cJ cZ σ) H) (hD : ∀ τ, va_D A (wC ad cI cJ cZ τ)) (hS : va_S A H0 H locs) (hi : i < 12) (hd : decode cc pc = .ok (.iastore, 1)) (kk : ∀ (H1 : Heap) (locs1 : List Loc), va_P D vwCl (wC ad cI cJ cZ (scNe σ (va_up (gcNe σ) i v))) H1 → va_S A H0 H1 locs1 → W p l e R s m args below meth c H1 locs1 cells slots Q (F0 m (pc + 1) ls (rest))) : W p l e R s m args below meth c H locs cells slots Q (F0 m (pc) ls (.int (nI (v)) :: .int (nI i) :: .ref (ad 14) :: rest)) := by
  refine va_iast E.1.1 E.1.2.1 E.2 hP (hD σ) hS 14 0 rfl rfl (vp_in_nI hi (by decide)) hd (fun H1 l1 h1 _ h3 => kk H1 l1 ?_ h3)
  have e9 : upd (fun i => nI (gcNe σ i)) (nI i).toNatClampNeg (nI (v)) = fun j => nI (va_up (gcNe σ) i v j) := by
    funext j
    rw [nI_clamp (Nat.lt_trans hi (by decide))]
    unfold upd va_up
    split <;> rfl
  rw [e9] at h1
  exact h1
theorem ld_CS_An {i : Nat} (E : Cx p s m args c cc nL own x0 D (t3 cI cJ cZ)) (hP : va_P D vwCl (wC ad cI cJ cZ σ) H) (hi : i < 12) (hd : decode cc pc = .ok (.iaload, 1)) (kk : W p l e R s m args below meth c H locs cells slots Q (F0 m (pc + 1) ls (.int (nI (gcAn σ i)) :: rest))) : W p l e R s m args below meth c H locs cells slots Q (F0 m (pc) ls (.int (nI i) :: .ref (ad 15) :: rest)) := by
  refine va_iald E.1.1 E.1.2.1 E.2 hP 15 0 rfl rfl (vp_in_nI hi (by decide)) hd ?_
  rw [nI_clamp (Nat.lt_trans hi (by decide))]
  exact kk
theorem as_CS_An {i : Nat} {v : Nat} (E : Cx p s m args c cc nL own x0 D (t3 cI cJ cZ)) (hP : va_P D vwCl (wC ad cI cJ cZ σ) H) (hD : ∀ τ, va_D A (wC ad cI cJ cZ τ)) (hS : va_S A H0 H locs) (hi : i < 12) (hd : decode cc pc = .ok (.iastore, 1)) (kk : ∀ (H1 : Heap) (locs1 : List Loc), va_P D vwCl (wC ad cI cJ cZ (scAn σ (va_up (gcAn σ) i v))) H1 → va_S A H0 H1 locs1 → W p l e R s m args below meth c H1 locs1 cells slots Q (F0 m (pc + 1) ls (rest))) : W p l e R s m args below meth c H locs cells slots Q (F0 m (pc) ls (.int (nI (v)) :: .int (nI i) :: .ref (ad 15) :: rest)) := by
  refine va_iast E.1.1 E.1.2.1 E.2 hP (hD σ) hS 15 0 rfl rfl (vp_in_nI hi (by decide)) hd (fun H1 l1 h1 _ h3 => kk H1 l1 ?_ h3)
  have e9 : upd (fun i => nI (gcAn σ i)) (nI i).toNatClampNeg (nI (v)) = fun j => nI (va_up (gcAn σ) i v j) := by
    funext j
    rw [nI_clamp (Nat.lt_trans hi (by decide))]
    unfold upd va_up
    split <;> rfl
  rw [e9] at h1
  exact h1
theorem ld_CS_Cl {i : Nat} (E : Cx p s m args c cc nL own x0 D (t3 cI cJ cZ)) (hP : va_P D vwCl (wC ad cI cJ cZ σ) H) (hi : i < 401) (hd : decode cc pc = .ok (.iaload, 1)) (kk : W p l e R s m args below meth c H locs cells slots Q (F0 m (pc + 1) ls (.int (nI (gcCl σ i)) :: rest))) : W p l e R s m args below meth c H locs cells slots Q (F0 m (pc) ls (.int (nI i) :: .ref (ad 16) :: rest)) := by
  refine va_iald E.1.1 E.1.2.1 E.2 hP 16 0 rfl rfl (vp_in_nI hi (by decide)) hd ?_
  rw [nI_clamp (Nat.lt_trans hi (by decide))]
  exact kk
theorem as_CS_Cl {i : Nat} {v : Nat} (E : Cx p s m args c cc nL own x0 D (t3 cI cJ cZ)) (hP : va_P D vwCl (wC ad cI cJ cZ σ) H) (hD : ∀ τ, va_D A (wC ad cI cJ cZ τ)) (hS : va_S A H0 H locs) (hi : i < 401) (hd : decode cc pc = .ok (.iastore, 1)) (kk : ∀ (H1 : Heap) (locs1 : List Loc), va_P D vwCl (wC ad cI cJ cZ (scCl σ (va_up (gcCl σ) i v))) H1 → va_S A H0 H1 locs1 → W p l e R s m args below meth c H1 locs1 cells slots Q (F0 m (pc + 1) ls (rest))) : W p l e R s m args below meth c H locs cells slots Q (F0 m (pc) ls (.int (nI (v)) :: .int (nI i) :: .ref (ad 16) :: rest)) := by
  refine va_iast E.1.1 E.1.2.1 E.2 hP (hD σ) hS 16 0 rfl rfl (vp_in_nI hi (by decide)) hd (fun H1 l1 h1 _ h3 => kk H1 l1 ?_ h3)
  have e9 : upd (fun i => nI (gcCl σ i)) (nI i).toNatClampNeg (nI (v)) = fun j => nI (va_up (gcCl σ) i v j) := by
    funext j
    rw [nI_clamp (Nat.lt_trans hi (by decide))]
    unfold upd va_up
    split <;> rfl
  rw [e9] at h1
  exact h1
theorem ld_CS_Fl {i : Nat} (E : Cx p s m args c cc nL own x0 D (t3 cI cJ cZ)) (hP : va_P D vwCl (wC ad cI cJ cZ σ) H) (hi : i < 1203) (hd : decode cc pc = .ok (.laload, 1)) (kk : W p l e R s m args below meth c H locs cells slots Q (F0 m (pc + 1) ls (.long (vJ (gcFl σ i)) :: rest))) : W p l e R s m args below meth c H locs cells slots Q (F0 m (pc) ls (.int (nI i) :: .ref (ad 17) :: rest)) := by
  refine va_lald E.1.1 E.1.2.1 E.2 hP 17 1 rfl rfl (vp_in_nI hi (by decide)) hd ?_
  rw [nI_clamp (Nat.lt_trans hi (by decide))]
  exact kk
theorem as_CS_Fl {i : Nat} {v : Val} (E : Cx p s m args c cc nL own x0 D (t3 cI cJ cZ)) (hP : va_P D vwCl (wC ad cI cJ cZ σ) H) (hD : ∀ τ, va_D A (wC ad cI cJ cZ τ)) (hS : va_S A H0 H locs) (hi : i < 1203) (hd : decode cc pc = .ok (.lastore, 1)) (kk : ∀ (H1 : Heap) (locs1 : List Loc), va_P D vwCl (wC ad cI cJ cZ (scFl σ (va_up (gcFl σ) i v))) H1 → va_S A H0 H1 locs1 → W p l e R s m args below meth c H1 locs1 cells slots Q (F0 m (pc + 1) ls (rest))) : W p l e R s m args below meth c H locs cells slots Q (F0 m (pc) ls (.long (vJ (v)) :: .int (nI i) :: .ref (ad 17) :: rest)) := by
  refine va_last E.1.1 E.1.2.1 E.2 hP (hD σ) hS 17 1 rfl rfl (vp_in_nI hi (by decide)) hd (fun H1 l1 h1 _ h3 => kk H1 l1 ?_ h3)
  have e9 : vp_updL (fun i => vJ (gcFl σ i)) (nI i).toNatClampNeg (vJ (v)) = fun j => vJ (va_up (gcFl σ) i v j) := by
    funext j
    rw [nI_clamp (Nat.lt_trans hi (by decide))]
    unfold vp_updL va_up
    split <;> rfl
  rw [e9] at h1
  exact h1
theorem ld_CS_Po {i : Nat} (E : Cx p s m args c cc nL own x0 D (t3 cI cJ cZ)) (hP : va_P D vwCl (wC ad cI cJ cZ σ) H) (hi : i < 40) (hd : decode cc pc = .ok (.iaload, 1)) (kk : W p l e R s m args below meth c H locs cells slots Q (F0 m (pc + 1) ls (.int (gcPo σ i) :: rest))) : W p l e R s m args below meth c H locs cells slots Q (F0 m (pc) ls (.int (nI i) :: .ref (ad 18) :: rest)) := by
  refine va_iald E.1.1 E.1.2.1 E.2 hP 18 0 rfl rfl (vp_in_nI hi (by decide)) hd ?_
  rw [nI_clamp (Nat.lt_trans hi (by decide))]
  exact kk
theorem as_CS_Po {i : Nat} {v : Int32} (E : Cx p s m args c cc nL own x0 D (t3 cI cJ cZ)) (hP : va_P D vwCl (wC ad cI cJ cZ σ) H) (hD : ∀ τ, va_D A (wC ad cI cJ cZ τ)) (hS : va_S A H0 H locs) (hi : i < 40) (hd : decode cc pc = .ok (.iastore, 1)) (kk : ∀ (H1 : Heap) (locs1 : List Loc), va_P D vwCl (wC ad cI cJ cZ (scPo σ (va_up (gcPo σ) i v))) H1 → va_S A H0 H1 locs1 → W p l e R s m args below meth c H1 locs1 cells slots Q (F0 m (pc + 1) ls (rest))) : W p l e R s m args below meth c H locs cells slots Q (F0 m (pc) ls (.int (v) :: .int (nI i) :: .ref (ad 18) :: rest)) := by
  refine va_iast E.1.1 E.1.2.1 E.2 hP (hD σ) hS 18 0 rfl rfl (vp_in_nI hi (by decide)) hd (fun H1 l1 h1 _ h3 => kk H1 l1 ?_ h3)
  have e9 : upd (fun i => gcPo σ i) (nI i).toNatClampNeg (v) = fun j => va_up (gcPo σ) i v j := by
    funext j
    rw [nI_clamp (Nat.lt_trans hi (by decide))]
    unfold upd va_up
    split <;> rfl
  rw [e9] at h1
  exact h1
theorem ld_CS_Ct {i : Nat} (E : Cx p s m args c cc nL own x0 D (t3 cI cJ cZ)) (hP : va_P D vwCl (wC ad cI cJ cZ σ) H) (hi : i < 6) (hd : decode cc pc = .ok (.iaload, 1)) (kk : W p l e R s m args below meth c H locs cells slots Q (F0 m (pc + 1) ls (.int (nI (gcCt σ i)) :: rest))) : W p l e R s m args below meth c H locs cells slots Q (F0 m (pc) ls (.int (nI i) :: .ref (ad 19) :: rest)) := by
  refine va_iald E.1.1 E.1.2.1 E.2 hP 19 0 rfl rfl (vp_in_nI hi (by decide)) hd ?_
  rw [nI_clamp (Nat.lt_trans hi (by decide))]
  exact kk
theorem as_CS_Ct {i : Nat} {v : Nat} (E : Cx p s m args c cc nL own x0 D (t3 cI cJ cZ)) (hP : va_P D vwCl (wC ad cI cJ cZ σ) H) (hD : ∀ τ, va_D A (wC ad cI cJ cZ τ)) (hS : va_S A H0 H locs) (hi : i < 6) (hd : decode cc pc = .ok (.iastore, 1)) (kk : ∀ (H1 : Heap) (locs1 : List Loc), va_P D vwCl (wC ad cI cJ cZ (scCt σ (va_up (gcCt σ) i v))) H1 → va_S A H0 H1 locs1 → W p l e R s m args below meth c H1 locs1 cells slots Q (F0 m (pc + 1) ls (rest))) : W p l e R s m args below meth c H locs cells slots Q (F0 m (pc) ls (.int (nI (v)) :: .int (nI i) :: .ref (ad 19) :: rest)) := by
  refine va_iast E.1.1 E.1.2.1 E.2 hP (hD σ) hS 19 0 rfl rfl (vp_in_nI hi (by decide)) hd (fun H1 l1 h1 _ h3 => kk H1 l1 ?_ h3)
  have e9 : upd (fun i => nI (gcCt σ i)) (nI i).toNatClampNeg (nI (v)) = fun j => nI (va_up (gcCt σ) i v j) := by
    funext j
    rw [nI_clamp (Nat.lt_trans hi (by decide))]
    unfold upd va_up
    split <;> rfl
  rw [e9] at h1
  exact h1
end RCS
