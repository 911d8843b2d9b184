abbrev MS : Type := Nat × Nat × (Nat → Option Nat) × (Nat → Nat) × (Nat → Int32) × (Nat → Bool) × (Nat → Bool) × (Nat → Bool) × (Nat → Nat) × (Nat → Bool) × Nat × Nat × (Nat → Nat) × (Nat → Bool) × (Nat → Int32) × Nat × (Nat → Nat) × (Nat → Nat) × (Nat → Nat) × (Nat → Bool) × (Nat → Int32) × (Nat → Int32) × (Nat → Nat)
def gmth (σ : MS) : Nat := σ.1
def gmty (σ : MS) : Nat := σ.2.1
def gmpa (σ : MS) : (Nat → Option Nat) := σ.2.2.1
def gmmy (σ : MS) : (Nat → Nat) := σ.2.2.2.1
def gmcd (σ : MS) : (Nat → Int32) := σ.2.2.2.2.1
def gmmd (σ : MS) : (Nat → Bool) := σ.2.2.2.2.2.1
def gmrd (σ : MS) : (Nat → Bool) := σ.2.2.2.2.2.2.1
def gmch (σ : MS) : (Nat → Bool) := σ.2.2.2.2.2.2.2.1
def gmsi (σ : MS) : (Nat → Nat) := σ.2.2.2.2.2.2.2.2.1
def gmho (σ : MS) : (Nat → Bool) := σ.2.2.2.2.2.2.2.2.2.1
def gmob (σ : MS) : Nat := σ.2.2.2.2.2.2.2.2.2.2.1
def gmrm (σ : MS) : Nat := σ.2.2.2.2.2.2.2.2.2.2.2.1
def gmcl (σ : MS) : (Nat → Nat) := σ.2.2.2.2.2.2.2.2.2.2.2.2.1
def gmfI (σ : MS) : (Nat → Bool) := σ.2.2.2.2.2.2.2.2.2.2.2.2.2.1
def gmfV (σ : MS) : (Nat → Int32) := σ.2.2.2.2.2.2.2.2.2.2.2.2.2.2.1
def gmfr (σ : MS) : Nat := σ.2.2.2.2.2.2.2.2.2.2.2.2.2.2.2.1
def gmbo (σ : MS) : (Nat → Nat) := σ.2.2.2.2.2.2.2.2.2.2.2.2.2.2.2.2.1
def gmpl (σ : MS) : (Nat → Nat) := σ.2.2.2.2.2.2.2.2.2.2.2.2.2.2.2.2.2.1
def gmwa (σ : MS) : (Nat → Nat) := σ.2.2.2.2.2.2.2.2.2.2.2.2.2.2.2.2.2.2.1
def gmis (σ : MS) : (Nat → Bool) := σ.2.2.2.2.2.2.2.2.2.2.2.2.2.2.2.2.2.2.2.1
def gmva (σ : MS) : (Nat → Int32) := σ.2.2.2.2.2.2.2.2.2.2.2.2.2.2.2.2.2.2.2.2.1
def gmou (σ : MS) : (Nat → Int32) := σ.2.2.2.2.2.2.2.2.2.2.2.2.2.2.2.2.2.2.2.2.2.1
def gmct (σ : MS) : (Nat → Nat) := σ.2.2.2.2.2.2.2.2.2.2.2.2.2.2.2.2.2.2.2.2.2.2
def smth (σ : MS) (v : Nat) : MS := (v, σ.2)
def smty (σ : MS) (v : Nat) : MS := (σ.1, v, σ.2.2)
def smpa (σ : MS) (v : (Nat → Option Nat)) : MS := (σ.1, σ.2.1, v, σ.2.2.2)
def smmy (σ : MS) (v : (Nat → Nat)) : MS := (σ.1, σ.2.1, σ.2.2.1, v, σ.2.2.2.2)
def smcd (σ : MS) (v : (Nat → Int32)) : MS := (σ.1, σ.2.1, σ.2.2.1, σ.2.2.2.1, v, σ.2.2.2.2.2)
def smmd (σ : MS) (v : (Nat → Bool)) : MS := (σ.1, σ.2.1, σ.2.2.1, σ.2.2.2.1, σ.2.2.2.2.1, v, σ.2.2.2.2.2.2)
def smrd (σ : MS) (v : (Nat → Bool)) : MS := (σ.1, σ.2.1, σ.2.2.1, σ.2.2.2.1, σ.2.2.2.2.1, σ.2.2.2.2.2.1, v, σ.2.2.2.2.2.2.2)
def smch (σ : MS) (v : (Nat → Bool)) : MS := (σ.1, σ.2.1, σ.2.2.1, σ.2.2.2.1, σ.2.2.2.2.1, σ.2.2.2.2.2.1, σ.2.2.2.2.2.2.1, v, σ.2.2.2.2.2.2.2.2)
def smsi (σ : MS) (v : (Nat → Nat)) : MS := (σ.1, σ.2.1, σ.2.2.1, σ.2.2.2.1, σ.2.2.2.2.1, σ.2.2.2.2.2.1, σ.2.2.2.2.2.2.1, σ.2.2.2.2.2.2.2.1, v, σ.2.2.2.2.2.2.2.2.2)
def smho (σ : MS) (v : (Nat → Bool)) : MS := (σ.1, σ.2.1, σ.2.2.1, σ.2.2.2.1, σ.2.2.2.2.1, σ.2.2.2.2.2.1, σ.2.2.2.2.2.2.1, σ.2.2.2.2.2.2.2.1, σ.2.2.2.2.2.2.2.2.1, v, σ.2.2.2.2.2.2.2.2.2.2)
def smob (σ : MS) (v : Nat) : MS := (σ.1, σ.2.1, σ.2.2.1, σ.2.2.2.1, σ.2.2.2.2.1, σ.2.2.2.2.2.1, σ.2.2.2.2.2.2.1, σ.2.2.2.2.2.2.2.1, σ.2.2.2.2.2.2.2.2.1, σ.2.2.2.2.2.2.2.2.2.1, v, σ.2.2.2.2.2.2.2.2.2.2.2)
def smrm (σ : MS) (v : Nat) : MS := (σ.1, σ.2.1, σ.2.2.1, σ.2.2.2.1, σ.2.2.2.2.1, σ.2.2.2.2.2.1, σ.2.2.2.2.2.2.1, σ.2.2.2.2.2.2.2.1, σ.2.2.2.2.2.2.2.2.1, σ.2.2.2.2.2.2.2.2.2.1, σ.2.2.2.2.2.2.2.2.2.2.1, v, σ.2.2.2.2.2.2.2.2.2.2.2.2)
def smcl (σ : MS) (v : (Nat → Nat)) : MS := (σ.1, σ.2.1, σ.2.2.1, σ.2.2.2.1, σ.2.2.2.2.1, σ.2.2.2.2.2.1, σ.2.2.2.2.2.2.1, σ.2.2.2.2.2.2.2.1, σ.2.2.2.2.2.2.2.2.1, σ.2.2.2.2.2.2.2.2.2.1, σ.2.2.2.2.2.2.2.2.2.2.1, σ.2.2.2.2.2.2.2.2.2.2.2.1, v, σ.2.2.2.2.2.2.2.2.2.2.2.2.2)
def smfI (σ : MS) (v : (Nat → Bool)) : MS := (σ.1, σ.2.1, σ.2.2.1, σ.2.2.2.1, σ.2.2.2.2.1, σ.2.2.2.2.2.1, σ.2.2.2.2.2.2.1, σ.2.2.2.2.2.2.2.1, σ.2.2.2.2.2.2.2.2.1, σ.2.2.2.2.2.2.2.2.2.1, σ.2.2.2.2.2.2.2.2.2.2.1, σ.2.2.2.2.2.2.2.2.2.2.2.1, σ.2.2.2.2.2.2.2.2.2.2.2.2.1, v, σ.2.2.2.2.2.2.2.2.2.2.2.2.2.2)
def smfV (σ : MS) (v : (Nat → Int32)) : MS := (σ.1, σ.2.1, σ.2.2.1, σ.2.2.2.1, σ.2.2.2.2.1, σ.2.2.2.2.2.1, σ.2.2.2.2.2.2.1, σ.2.2.2.2.2.2.2.1, σ.2.2.2.2.2.2.2.2.1, σ.2.2.2.2.2.2.2.2.2.1, σ.2.2.2.2.2.2.2.2.2.2.1, σ.2.2.2.2.2.2.2.2.2.2.2.1, σ.2.2.2.2.2.2.2.2.2.2.2.2.1, σ.2.2.2.2.2.2.2.2.2.2.2.2.2.1, v, σ.2.2.2.2.2.2.2.2.2.2.2.2.2.2.2)
def smfr (σ : MS) (v : Nat) : MS := (σ.1, σ.2.1, σ.2.2.1, σ.2.2.2.1, σ.2.2.2.2.1, σ.2.2.2.2.2.1, σ.2.2.2.2.2.2.1, σ.2.2.2.2.2.2.2.1, σ.2.2.2.2.2.2.2.2.1, σ.2.2.2.2.2.2.2.2.2.1, σ.2.2.2.2.2.2.2.2.2.2.1, σ.2.2.2.2.2.2.2.2.2.2.2.1, σ.2.2.2.2.2.2.2.2.2.2.2.2.1, σ.2.2.2.2.2.2.2.2.2.2.2.2.2.1, σ.2.2.2.2.2.2.2.2.2.2.2.2.2.2.1, v, σ.2.2.2.2.2.2.2.2.2.2.2.2.2.2.2.2)
def smbo (σ : MS) (v : (Nat → Nat)) : MS := (σ.1, σ.2.1, σ.2.2.1, σ.2.2.2.1, σ.2.2.2.2.1, σ.2.2.2.2.2.1, σ.2.2.2.2.2.2.1, σ.2.2.2.2.2.2.2.1, σ.2.2.2.2.2.2.2.2.1, σ.2.2.2.2.2.2.2.2.2.1, σ.2.2.2.2.2.2.2.2.2.2.1, σ.2.2.2.2.2.2.2.2.2.2.2.1, σ.2.2.2.2.2.2.2.2.2.2.2.2.1, σ.2.2.2.2.2.2.2.2.2.2.2.2.2.1, σ.2.2.2.2.2.2.2.2.2.2.2.2.2.2.1, σ.2.2.2.2.2.2.2.2.2.2.2.2.2.2.2.1, v, σ.2.2.2.2.2.2.2.2.2.2.2.2.2.2.2.2.2)
def smpl (σ : MS) (v : (Nat → Nat)) : MS := (σ.1, σ.2.1, σ.2.2.1, σ.2.2.2.1, σ.2.2.2.2.1, σ.2.2.2.2.2.1, σ.2.2.2.2.2.2.1, σ.2.2.2.2.2.2.2.1, σ.2.2.2.2.2.2.2.2.1, σ.2.2.2.2.2.2.2.2.2.1, σ.2.2.2.2.2.2.2.2.2.2.1, σ.2.2.2.2.2.2.2.2.2.2.2.1, σ.2.2.2.2.2.2.2.2.2.2.2.2.1, σ.2.2.2.2.2.2.2.2.2.2.2.2.2.1, σ.2.2.2.2.2.2.2.2.2.2.2.2.2.2.1, σ.2.2.2.2.2.2.2.2.2.2.2.2.2.2.2.1, σ.2.2.2.2.2.2.2.2.2.2.2.2.2.2.2.2.1, v, σ.2.2.2.2.2.2.2.2.2.2.2.2.2.2.2.2.2.2)
def smwa (σ : MS) (v : (Nat → Nat)) : MS := (σ.1, σ.2.1, σ.2.2.1, σ.2.2.2.1, σ.2.2.2.2.1, σ.2.2.2.2.2.1, σ.2.2.2.2.2.2.1, σ.2.2.2.2.2.2.2.1, σ.2.2.2.2.2.2.2.2.1, σ.2.2.2.2.2.2.2.2.2.1, σ.2.2.2.2.2.2.2.2.2.2.1, σ.2.2.2.2.2.2.2.2.2.2.2.1, σ.2.2.2.2.2.2.2.2.2.2.2.2.1, σ.2.2.2.2.2.2.2.2.2.2.2.2.2.1, σ.2.2.2.2.2.2.2.2.2.2.2.2.2.2.1, σ.2.2.2.2.2.2.2.2.2.2.2.2.2.2.2.1, σ.2.2.2.2.2.2.2.2.2.2.2.2.2.2.2.2.1, σ.2.2.2.2.2.2.2.2.2.2.2.2.2.2.2.2.2.1, v, σ.2.2.2.2.2.2.2.2.2.2.2.2.2.2.2.2.2.2.2)
def smis (σ : MS) (v : (Nat → Bool)) : MS := (σ.1, σ.2.1, σ.2.2.1, σ.2.2.2.1, σ.2.2.2.2.1, σ.2.2.2.2.2.1, σ.2.2.2.2.2.2.1, σ.2.2.2.2.2.2.2.1, σ.2.2.2.2.2.2.2.2.1, σ.2.2.2.2.2.2.2.2.2.1, σ.2.2.2.2.2.2.2.2.2.2.1, σ.2.2.2.2.2.2.2.2.2.2.2.1, σ.2.2.2.2.2.2.2.2.2.2.2.2.1, σ.2.2.2.2.2.2.2.2.2.2.2.2.2.1, σ.2.2.2.2.2.2.2.2.2.2.2.2.2.2.1, σ.2.2.2.2.2.2.2.2.2.2.2.2.2.2.2.1, σ.2.2.2.2.2.2.2.2.2.2.2.2.2.2.2.2.1, σ.2.2.2.2.2.2.2.2.2.2.2.2.2.2.2.2.2.1, σ.2.2.2.2.2.2.2.2.2.2.2.2.2.2.2.2.2.2.1, v, σ.2.2.2.2.2.2.2.2.2.2.2.2.2.2.2.2.2.2.2.2)
def smva (σ : MS) (v : (Nat → Int32)) : MS := (σ.1, σ.2.1, σ.2.2.1, σ.2.2.2.1, σ.2.2.2.2.1, σ.2.2.2.2.2.1, σ.2.2.2.2.2.2.1, σ.2.2.2.2.2.2.2.1, σ.2.2.2.2.2.2.2.2.1, σ.2.2.2.2.2.2.2.2.2.1, σ.2.2.2.2.2.2.2.2.2.2.1, σ.2.2.2.2.2.2.2.2.2.2.2.1, σ.2.2.2.2.2.2.2.2.2.2.2.2.1, σ.2.2.2.2.2.2.2.2.2.2.2.2.2.1, σ.2.2.2.2.2.2.2.2.2.2.2.2.2.2.1, σ.2.2.2.2.2.2.2.2.2.2.2.2.2.2.2.1, σ.2.2.2.2.2.2.2.2.2.2.2.2.2.2.2.2.1, σ.2.2.2.2.2.2.2.2.2.2.2.2.2.2.2.2.2.1, σ.2.2.2.2.2.2.2.2.2.2.2.2.2.2.2.2.2.2.1, σ.2.2.2.2.2.2.2.2.2.2.2.2.2.2.2.2.2.2.2.1, v, σ.2.2.2.2.2.2.2.2.2.2.2.2.2.2.2.2.2.2.2.2.2)
def smou (σ : MS) (v : (Nat → Int32)) : MS := (σ.1, σ.2.1, σ.2.2.1, σ.2.2.2.1, σ.2.2.2.2.1, σ.2.2.2.2.2.1, σ.2.2.2.2.2.2.1, σ.2.2.2.2.2.2.2.1, σ.2.2.2.2.2.2.2.2.1, σ.2.2.2.2.2.2.2.2.2.1, σ.2.2.2.2.2.2.2.2.2.2.1, σ.2.2.2.2.2.2.2.2.2.2.2.1, σ.2.2.2.2.2.2.2.2.2.2.2.2.1, σ.2.2.2.2.2.2.2.2.2.2.2.2.2.1, σ.2.2.2.2.2.2.2.2.2.2.2.2.2.2.1, σ.2.2.2.2.2.2.2.2.2.2.2.2.2.2.2.1, σ.2.2.2.2.2.2.2.2.2.2.2.2.2.2.2.2.1, σ.2.2.2.2.2.2.2.2.2.2.2.2.2.2.2.2.2.1, σ.2.2.2.2.2.2.2.2.2.2.2.2.2.2.2.2.2.2.1, σ.2.2.2.2.2.2.2.2.2.2.2.2.2.2.2.2.2.2.2.1, σ.2.2.2.2.2.2.2.2.2.2.2.2.2.2.2.2.2.2.2.2.1, v, σ.2.2.2.2.2.2.2.2.2.2.2.2.2.2.2.2.2.2.2.2.2.2)
def smct (σ : MS) (v : (Nat → Nat)) : MS := (σ.1, σ.2.1, σ.2.2.1, σ.2.2.2.1, σ.2.2.2.2.1, σ.2.2.2.2.2.1, σ.2.2.2.2.2.2.1, σ.2.2.2.2.2.2.2.1, σ.2.2.2.2.2.2.2.2.1, σ.2.2.2.2.2.2.2.2.2.1, σ.2.2.2.2.2.2.2.2.2.2.1, σ.2.2.2.2.2.2.2.2.2.2.2.1, σ.2.2.2.2.2.2.2.2.2.2.2.2.1, σ.2.2.2.2.2.2.2.2.2.2.2.2.2.1, σ.2.2.2.2.2.2.2.2.2.2.2.2.2.2.1, σ.2.2.2.2.2.2.2.2.2.2.2.2.2.2.2.1, σ.2.2.2.2.2.2.2.2.2.2.2.2.2.2.2.2.1, σ.2.2.2.2.2.2.2.2.2.2.2.2.2.2.2.2.2.1, σ.2.2.2.2.2.2.2.2.2.2.2.2.2.2.2.2.2.2.1, σ.2.2.2.2.2.2.2.2.2.2.2.2.2.2.2.2.2.2.2.1, σ.2.2.2.2.2.2.2.2.2.2.2.2.2.2.2.2.2.2.2.2.1, σ.2.2.2.2.2.2.2.2.2.2.2.2.2.2.2.2.2.2.2.2.2.1, v)
def wR (ad : Nat → Nat) (cI cJ cZ : ClassId) (σ : MS) : va_W := [(ad 0, .inr (6, [.int (nI (gmth σ)), .int (nI (gmty σ)), .ref (ad 1), .ref (ad 2), .ref (ad 3), .ref (ad 4), .ref (ad 5), .ref (ad 6), .ref (ad 7), .ref (ad 8), .int (nI (gmob σ)), .int (nI (gmrm σ)), .ref (ad 9), .ref (ad 10), .ref (ad 11), .int (nI (gmfr σ)), .ref (ad 12), .ref (ad 13), .ref (ad 14), .ref (ad 15), .ref (ad 16), .ref (ad 17), .ref (ad 18)])), (ad 1, .inl (cI, 6, .inl (fun i => oI (gmpa σ i)))), (ad 2, .inl (cI, 24, .inl (fun i => nI (gmmy σ i)))), (ad 3, .inl (cI, 960, .inl (fun i => gmcd σ i))), (ad 4, .inl (cZ, 6, .inl (fun i => bI (gmmd σ i)))), (ad 5, .inl (cZ, 24, .inl (fun i => bI (gmrd σ i)))), (ad 6, .inl (cZ, 24, .inl (fun i => bI (gmch σ i)))), (ad 7, .inl (cI, 240, .inl (fun i => nI (gmsi σ i)))), (ad 8, .inl (cZ, 6, .inl (fun i => bI (gmho σ i)))), (ad 9, .inl (cI, 420, .inl (fun i => nI (gmcl σ i)))), (ad 10, .inl (cZ, 1260, .inl (fun i => bI (gmfI σ i)))), (ad 11, .inl (cI, 1260, .inl (fun i => gmfV σ i))), (ad 12, .inl (cI, 13, .inl (fun i => nI (gmbo σ i)))), (ad 13, .inl (cI, 13, .inl (fun i => nI (gmpl σ i)))), (ad 14, .inl (cI, 13, .inl (fun i => nI (gmwa σ i)))), (ad 15, .inl (cZ, 78, .inl (fun i => bI (gmis σ i)))), (ad 16, .inl (cI, 78, .inl (fun i => gmva σ i))), (ad 17, .inl (cI, 40, .inl (fun i => gmou σ i))), (ad 18, .inl (cI, 6, .inl (fun i => nI (gmct σ i))))]
theorem wR_D {A : Nat → Prop} {ad : Nat → Nat} {cI cJ cZ : ClassId} {σ : MS} (h : va_D A (wR ad cI cJ cZ σ)) (τ : MS) : va_D A (wR ad cI cJ cZ τ) := va_D_addr (ws := wR ad cI cJ cZ σ) rfl h
section RMS
variable {p : Program} {l : Launch} {e : Env} {R : Room} {s : State} {m : MethodId} {args : Array Value} {below : List Frame} {meth : Method} {c : Code} {H : Heap} {locs : List Loc} {cells slots : Nat} {Q : State → Prop}
variable {cc : ByteArray} {nL idx pc : Nat} {own : String} {x0 : Cond} {D : va_G} {cI cJ cZ : ClassId} {ad : Nat → Nat} {σ : MS} {A : Nat → Prop} {ls : Array Slot} {rest : List Value} {H0 : Heap}
theorem gt_X4_thrown (E : Cx p s m args c cc nL own x0 D (t3 cI cJ cZ)) (hl : Cond.fieldLink own idx (TX4 0).1 (TX4 0).2.1 (TX4 0).2.2.1 ∈ G) (hP : va_P D vwCl (wR ad cI cJ cZ σ) H) (hd : decode cc pc = .ok (.getfield idx, 3)) (kk : W p l e R s m args below meth c H locs cells slots Q (F0 m (pc + 3) ls (.int (nI (gmth σ)) :: rest))) : W p l e R s m args below meth c H locs cells slots Q (F0 m (pc) ls (.ref (ad 0) :: rest)) := CM.get (T := TX4) (N := 23) (ref := "") E hP 0 rfl rfl inG_X4 0 (by decide) hl rfl hd kk
theorem pt_X4_thrown {v : Nat} (E : Cx p s m args c cc nL own x0 D (t3 cI cJ cZ)) (hl : Cond.fieldLink own idx (TX4 0).1 (TX4 0).2.1 (TX4 0).2.2.1 ∈ G) (hP : va_P D vwCl (wR ad cI cJ cZ σ) H) (hD : ∀ τ, va_D A (wR ad cI cJ cZ τ)) (hS : va_S A H0 H locs) (hd : decode cc pc = .ok (.putfield idx, 3)) (kk : ∀ (H1 : Heap) (locs1 : List Loc), va_P D vwCl (wR ad cI cJ cZ (smth σ v)) H1 → va_S A H0 H1 locs1 → W p l e R s m args below meth c H1 locs1 cells slots Q (F0 m (pc + 3) ls (rest))) : W p l e R s m args below meth c H locs cells slots Q (F0 m (pc) ls (.int (nI (v)) :: .ref (ad 0) :: rest)) := CM.put (T := TX4) (N := 23) (ty := .int) E hP (hD σ) hS 0 rfl rfl inG_X4 tyX4 tyX4_ok nmX4 0 (by decide) hl rfl (by decide +kernel) rfl rfl (Nat.le_of_ble_eq_true rfl) rfl hd (fun H1 l1 h1 _ h3 => kk H1 l1 h1 h3)
theorem gt_X4_types (E : Cx p s m args c cc nL own x0 D (t3 cI cJ cZ)) (hl : Cond.fieldLink own idx (TX4 1).1 (TX4 1).2.1 (TX4 1).2.2.1 ∈ G) (hP : va_P D vwCl (wR ad cI cJ cZ σ) H) (hd : decode cc pc = .ok (.getfield idx, 3)) (kk : W p l e R s m args below meth c H locs cells slots Q (F0 m (pc + 3) ls (.int (nI (gmty σ)) :: rest))) : W p l e R s m args below meth c H locs cells slots Q (F0 m (pc) ls (.ref (ad 0) :: rest)) := CM.get (T := TX4) (N := 23) (ref := "") E hP 0 rfl rfl inG_X4 1 (by decide) hl rfl hd kk
theorem pt_X4_types {v : Nat} (E : Cx p s m args c cc nL own x0 D (t3 cI cJ cZ)) (hl : Cond.fieldLink own idx (TX4 1).1 (TX4 1).2.1 (TX4 1).2.2.1 ∈ G) (hP : va_P D vwCl (wR ad cI cJ cZ σ) H) (hD : ∀ τ, va_D A (wR ad cI cJ cZ τ)) (hS : va_S A H0 H locs) (hd : decode cc pc = .ok (.putfield idx, 3)) (kk : ∀ (H1 : Heap) (locs1 : List Loc), va_P D vwCl (wR ad cI cJ cZ (smty σ v)) H1 → va_S A H0 H1 locs1 → W p l e R s m args below meth c H1 locs1 cells slots Q (F0 m (pc + 3) ls (rest))) : W p l e R s m args below meth c H locs cells slots Q (F0 m (pc) ls (.int (nI (v)) :: .ref (ad 0) :: rest)) := CM.put (T := TX4) (N := 23) (ty := .int) E hP (hD σ) hS 0 rfl rfl inG_X4 tyX4 tyX4_ok nmX4 1 (by decide) hl rfl (by decide +kernel) rfl rfl (Nat.le_of_ble_eq_true rfl) rfl hd (fun H1 l1 h1 _ h3 => kk H1 l1 h1 h3)
theorem gt_X4_parent (E : Cx p s m args c cc nL own x0 D (t3 cI cJ cZ)) (hl : Cond.fieldLink own idx (TX4 2).1 (TX4 2).2.1 (TX4 2).2.2.1 ∈ G) (hP : va_P D vwCl (wR ad cI cJ cZ σ) H) (hd : decode cc pc = .ok (.getfield idx, 3)) (kk : W p l e R s m args below meth c H locs cells slots Q (F0 m (pc + 3) ls (.ref (ad 1) :: rest))) : W p l e R s m args below meth c H locs cells slots Q (F0 m (pc) ls (.ref (ad 0) :: rest)) := CM.get (T := TX4) (N := 23) (ref := "") E hP 0 rfl rfl inG_X4 2 (by decide) hl rfl hd kk
theorem gt_X4_many (E : Cx p s m args c cc nL own x0 D (t3 cI cJ cZ)) (hl : Cond.fieldLink own idx (TX4 3).1 (TX4 3).2.1 (TX4 3).2.2.1 ∈ G) (hP : va_P D vwCl (wR ad cI cJ cZ σ) H) (hd : decode cc pc = .ok (.getfield idx, 3)) (kk : W p l e R s m args below meth c H locs cells slots Q (F0 m (pc + 3) ls (.ref (ad 2) :: rest))) : W p l e R s m args below meth c H locs cells slots Q (F0 m (pc) ls (.ref (ad 0) :: rest)) := CM.get (T := TX4) (N := 23) (ref := "") E hP 0 rfl rfl inG_X4 3 (by decide) hl rfl hd kk
theorem gt_X4_code (E : Cx p s m args c cc nL own x0 D (t3 cI cJ cZ)) (hl : Cond.fieldLink own idx (TX4 4).1 (TX4 4).2.1 (TX4 4).2.2.1 ∈ G) (hP : va_P D vwCl (wR ad cI cJ cZ σ) H) (hd : decode cc pc = .ok (.getfield idx, 3)) (kk : W p l e R s m args below meth c H locs cells slots Q (F0 m (pc + 3) ls (.ref (ad 3) :: rest))) : W p l e R s m args below meth c H locs cells slots Q (F0 m (pc) ls (.ref (ad 0) :: rest)) := CM.get (T := TX4) (N := 23) (ref := "") E hP 0 rfl rfl inG_X4 4 (by decide) hl rfl hd kk
theorem gt_X4_made (E : Cx p s m args c cc nL own x0 D (t3 cI cJ cZ)) (hl : Cond.fieldLink own idx (TX4 5).1 (TX4 5).2.1 (TX4 5).2.2.1 ∈ G) (hP : va_P D vwCl (wR ad cI cJ cZ σ) H) (hd : decode cc pc = .ok (.getfield idx, 3)) (kk : W p l e R s m args below meth c H locs cells slots Q (F0 m (pc + 3) ls (.ref (ad 4) :: rest))) : W p l e R s m args below meth c H locs cells slots Q (F0 m (pc) ls (.ref (ad 0) :: rest)) := CM.get (T := TX4) (N := 23) (ref := "") E hP 0 rfl rfl inG_X4 5 (by decide) hl rfl hd kk
theorem gt_X4_reached (E : Cx p s m args c cc nL own x0 D (t3 cI cJ cZ)) (hl : Cond.fieldLink own idx (TX4 6).1 (TX4 6).2.1 (TX4 6).2.2.1 ∈ G) (hP : va_P D vwCl (wR ad cI cJ cZ σ) H) (hd : decode cc pc = .ok (.getfield idx, 3)) (kk : W p l e R s m args below meth c H locs cells slots Q (F0 m (pc + 3) ls (.ref (ad 5) :: rest))) : W p l e R s m args below meth c H locs cells slots Q (F0 m (pc) ls (.ref (ad 0) :: rest)) := CM.get (T := TX4) (N := 23) (ref := "") E hP 0 rfl rfl inG_X4 6 (by decide) hl rfl hd kk
theorem gt_X4_changed (E : Cx p s m args c cc nL own x0 D (t3 cI cJ cZ)) (hl : Cond.fieldLink own idx (TX4 7).1 (TX4 7).2.1 (TX4 7).2.2.1 ∈ G) (hP : va_P D vwCl (wR ad cI cJ cZ σ) H) (hd : decode cc pc = .ok (.getfield idx, 3)) (kk : W p l e R s m args below meth c H locs cells slots Q (F0 m (pc + 3) ls (.ref (ad 6) :: rest))) : W p l e R s m args below meth c H locs cells slots Q (F0 m (pc) ls (.ref (ad 0) :: rest)) := CM.get (T := TX4) (N := 23) (ref := "") E hP 0 rfl rfl inG_X4 7 (by decide) hl rfl hd kk
theorem gt_X4_sites (E : Cx p s m args c cc nL own x0 D (t3 cI cJ cZ)) (hl : Cond.fieldLink own idx (TX4 8).1 (TX4 8).2.1 (TX4 8).2.2.1 ∈ G) (hP : va_P D vwCl (wR ad cI cJ cZ σ) H) (hd : decode cc pc = .ok (.getfield idx, 3)) (kk : W p l e R s m args below meth c H locs cells slots Q (F0 m (pc + 3) ls (.ref (ad 7) :: rest))) : W p l e R s m args below meth c H locs cells slots Q (F0 m (pc) ls (.ref (ad 0) :: rest)) := CM.get (T := TX4) (N := 23) (ref := "") E hP 0 rfl rfl inG_X4 8 (by decide) hl rfl hd kk
theorem gt_X4_holder (E : Cx p s m args c cc nL own x0 D (t3 cI cJ cZ)) (hl : Cond.fieldLink own idx (TX4 9).1 (TX4 9).2.1 (TX4 9).2.2.1 ∈ G) (hP : va_P D vwCl (wR ad cI cJ cZ σ) H) (hd : decode cc pc = .ok (.getfield idx, 3)) (kk : W p l e R s m args below meth c H locs cells slots Q (F0 m (pc + 3) ls (.ref (ad 8) :: rest))) : W p l e R s m args below meth c H locs cells slots Q (F0 m (pc) ls (.ref (ad 0) :: rest)) := CM.get (T := TX4) (N := 23) (ref := "") E hP 0 rfl rfl inG_X4 9 (by decide) hl rfl hd kk
theorem gt_X4_objects (E : Cx p s m args c cc nL own x0 D (t3 cI cJ cZ)) (hl : Cond.fieldLink own idx (TX4 10).1 (TX4 10).2.1 (TX4 10).2.2.1 ∈ G) (hP : va_P D vwCl (wR ad cI cJ cZ σ) H) (hd : decode cc pc = .ok (.getfield idx, 3)) (kk : W p l e R s m args below meth c H locs cells slots Q (F0 m (pc + 3) ls (.int (nI (gmob σ)) :: rest))) : W p l e R s m args below meth c H locs cells slots Q (F0 m (pc) ls (.ref (ad 0) :: rest)) := CM.get (T := TX4) (N := 23) (ref := "") E hP 0 rfl rfl inG_X4 10 (by decide) hl rfl hd kk
theorem pt_X4_objects {v : Nat} (E : Cx p s m args c cc nL own x0 D (t3 cI cJ cZ)) (hl : Cond.fieldLink own idx (TX4 10).1 (TX4 10).2.1 (TX4 10).2.2.1 ∈ G) (hP : va_P D vwCl (wR ad cI cJ cZ σ) H) (hD : ∀ τ, va_D A (wR ad cI cJ cZ τ)) (hS : va_S A H0 H locs) (hd : decode cc pc = .ok (.putfield idx, 3)) (kk : ∀ (H1 : Heap) (locs1 : List Loc), va_P D vwCl (wR ad cI cJ cZ (smob σ v)) H1 → va_S A H0 H1 locs1 → W p l e R s m args below meth c H1 locs1 cells slots Q (F0 m (pc + 3) ls (rest))) : W p l e R s m args below meth c H locs cells slots Q (F0 m (pc) ls (.int (nI (v)) :: .ref (ad 0) :: rest)) := CM.put (T := TX4) (N := 23) (ty := .int) E hP (hD σ) hS 0 rfl rfl inG_X4 tyX4 tyX4_ok nmX4 10 (by decide) hl rfl (by decide +kernel) rfl rfl (Nat.le_of_ble_eq_true rfl) rfl hd (fun H1 l1 h1 _ h3 => kk H1 l1 h1 h3)
theorem gt_X4_room (E : Cx p s m args c cc nL own x0 D (t3 cI cJ cZ)) (hl : Cond.fieldLink own idx (TX4 11).1 (TX4 11).2.1 (TX4 11).2.2.1 ∈ G) (hP : va_P D vwCl (wR ad cI cJ cZ σ) H) (hd : decode cc pc = .ok (.getfield idx, 3)) (kk : W p l e R s m args below meth c H locs cells slots Q (F0 m (pc + 3) ls (.int (nI (gmrm σ)) :: rest))) : W p l e R s m args below meth c H locs cells slots Q (F0 m (pc) ls (.ref (ad 0) :: rest)) := CM.get (T := TX4) (N := 23) (ref := "") E hP 0 rfl rfl inG_X4 11 (by decide) hl rfl hd kk
theorem pt_X4_room {v : Nat} (E : Cx p s m args c cc nL own x0 D (t3 cI cJ cZ)) (hl : Cond.fieldLink own idx (TX4 11).1 (TX4 11).2.1 (TX4 11).2.2.1 ∈ G) (hP : va_P D vwCl (wR ad cI cJ cZ σ) H) (hD : ∀ τ, va_D A (wR ad cI cJ cZ τ)) (hS : va_S A H0 H locs) (hd : decode cc pc = .ok (.putfield idx, 3)) (kk : ∀ (H1 : Heap) (locs1 : List Loc), va_P D vwCl (wR ad cI cJ cZ (smrm σ v)) H1 → va_S A H0 H1 locs1 → W p l e R s m args below meth c H1 locs1 cells slots Q (F0 m (pc + 3) ls (rest))) : W p l e R s m args below meth c H locs cells slots Q (F0 m (pc) ls (.int (nI (v)) :: .ref (ad 0) :: rest)) := CM.put (T := TX4) (N := 23) (ty := .int) E hP (hD σ) hS 0 rfl rfl inG_X4 tyX4 tyX4_ok nmX4 11 (by decide) hl rfl (by decide +kernel) rfl rfl (Nat.le_of_ble_eq_true rfl) rfl hd (fun H1 l1 h1 _ h3 => kk H1 l1 h1 h3)
theorem gt_X4_classOf (E : Cx p s m args c cc nL own x0 D (t3 cI cJ cZ)) (hl : Cond.fieldLink own idx (TX4 12).1 (TX4 12).2.1 (TX4 12).2.2.1 ∈ G) (hP : va_P D vwCl (wR ad cI cJ cZ σ) H) (hd : decode cc pc = .ok (.getfield idx, 3)) (kk : W p l e R s m args below meth c H locs cells slots Q (F0 m (pc + 3) ls (.ref (ad 9) :: rest))) : W p l e R s m args below meth c H locs cells slots Q (F0 m (pc) ls (.ref (ad 0) :: rest)) := CM.get (T := TX4) (N := 23) (ref := "") E hP 0 rfl rfl inG_X4 12 (by decide) hl rfl hd kk
theorem gt_X4_fieldIs (E : Cx p s m args c cc nL own x0 D (t3 cI cJ cZ)) (hl : Cond.fieldLink own idx (TX4 13).1 (TX4 13).2.1 (TX4 13).2.2.1 ∈ G) (hP : va_P D vwCl (wR ad cI cJ cZ σ) H) (hd : decode cc pc = .ok (.getfield idx, 3)) (kk : W p l e R s m args below meth c H locs cells slots Q (F0 m (pc + 3) ls (.ref (ad 10) :: rest))) : W p l e R s m args below meth c H locs cells slots Q (F0 m (pc) ls (.ref (ad 0) :: rest)) := CM.get (T := TX4) (N := 23) (ref := "") E hP 0 rfl rfl inG_X4 13 (by decide) hl rfl hd kk
theorem gt_X4_field (E : Cx p s m args c cc nL own x0 D (t3 cI cJ cZ)) (hl : Cond.fieldLink own idx (TX4 14).1 (TX4 14).2.1 (TX4 14).2.2.1 ∈ G) (hP : va_P D vwCl (wR ad cI cJ cZ σ) H) (hd : decode cc pc = .ok (.getfield idx, 3)) (kk : W p l e R s m args below meth c H locs cells slots Q (F0 m (pc + 3) ls (.ref (ad 11) :: rest))) : W p l e R s m args below meth c H locs cells slots Q (F0 m (pc) ls (.ref (ad 0) :: rest)) := CM.get (T := TX4) (N := 23) (ref := "") E hP 0 rfl rfl inG_X4 14 (by decide) hl rfl hd kk
theorem gt_X4_frames (E : Cx p s m args c cc nL own x0 D (t3 cI cJ cZ)) (hl : Cond.fieldLink own idx (TX4 15).1 (TX4 15).2.1 (TX4 15).2.2.1 ∈ G) (hP : va_P D vwCl (wR ad cI cJ cZ σ) H) (hd : decode cc pc = .ok (.getfield idx, 3)) (kk : W p l e R s m args below meth c H locs cells slots Q (F0 m (pc + 3) ls (.int (nI (gmfr σ)) :: rest))) : W p l e R s m args below meth c H locs cells slots Q (F0 m (pc) ls (.ref (ad 0) :: rest)) := CM.get (T := TX4) (N := 23) (ref := "") E hP 0 rfl rfl inG_X4 15 (by decide) hl rfl hd kk
theorem pt_X4_frames {v : Nat} (E : Cx p s m args c cc nL own x0 D (t3 cI cJ cZ)) (hl : Cond.fieldLink own idx (TX4 15).1 (TX4 15).2.1 (TX4 15).2.2.1 ∈ G) (hP : va_P D vwCl (wR ad cI cJ cZ σ) H) (hD : ∀ τ, va_D A (wR ad cI cJ cZ τ)) (hS : va_S A H0 H locs) (hd : decode cc pc = .ok (.putfield idx, 3)) (kk : ∀ (H1 : Heap) (locs1 : List Loc), va_P D vwCl (wR ad cI cJ cZ (smfr σ v)) H1 → va_S A H0 H1 locs1 → W p l e R s m args below meth c H1 locs1 cells slots Q (F0 m (pc + 3) ls (rest))) : W p l e R s m args below meth c H locs cells slots Q (F0 m (pc) ls (.int (nI (v)) :: .ref (ad 0) :: rest)) := CM.put (T := TX4) (N := 23) (ty := .int) E hP (hD σ) hS 0 rfl rfl inG_X4 tyX4 tyX4_ok nmX4 15 (by decide) hl rfl (by decide +kernel) rfl rfl (Nat.le_of_ble_eq_true rfl) rfl hd (fun H1 l1 h1 _ h3 => kk H1 l1 h1 h3)
theorem gt_X4_body (E : Cx p s m args c cc nL own x0 D (t3 cI cJ cZ)) (hl : Cond.fieldLink own idx (TX4 16).1 (TX4 16).2.1 (TX4 16).2.2.1 ∈ G) (hP : va_P D vwCl (wR ad cI cJ cZ σ) H) (hd : decode cc pc = .ok (.getfield idx, 3)) (kk : W p l e R s m args below meth c H locs cells slots Q (F0 m (pc + 3) ls (.ref (ad 12) :: rest))) : W p l e R s m args below meth c H locs cells slots Q (F0 m (pc) ls (.ref (ad 0) :: rest)) := CM.get (T := TX4) (N := 23) (ref := "") E hP 0 rfl rfl inG_X4 16 (by decide) hl rfl hd kk
theorem gt_X4_place (E : Cx p s m args c cc nL own x0 D (t3 cI cJ cZ)) (hl : Cond.fieldLink own idx (TX4 17).1 (TX4 17).2.1 (TX4 17).2.2.1 ∈ G) (hP : va_P D vwCl (wR ad cI cJ cZ σ) H) (hd : decode cc pc = .ok (.getfield idx, 3)) (kk : W p l e R s m args below meth c H locs cells slots Q (F0 m (pc + 3) ls (.ref (ad 13) :: rest))) : W p l e R s m args below meth c H locs cells slots Q (F0 m (pc) ls (.ref (ad 0) :: rest)) := CM.get (T := TX4) (N := 23) (ref := "") E hP 0 rfl rfl inG_X4 17 (by decide) hl rfl hd kk
theorem gt_X4_wants (E : Cx p s m args c cc nL own x0 D (t3 cI cJ cZ)) (hl : Cond.fieldLink own idx (TX4 18).1 (TX4 18).2.1 (TX4 18).2.2.1 ∈ G) (hP : va_P D vwCl (wR ad cI cJ cZ σ) H) (hd : decode cc pc = .ok (.getfield idx, 3)) (kk : W p l e R s m args below meth c H locs cells slots Q (F0 m (pc + 3) ls (.ref (ad 14) :: rest))) : W p l e R s m args below meth c H locs cells slots Q (F0 m (pc) ls (.ref (ad 0) :: rest)) := CM.get (T := TX4) (N := 23) (ref := "") E hP 0 rfl rfl inG_X4 18 (by decide) hl rfl hd kk
theorem gt_X4_is (E : Cx p s m args c cc nL own x0 D (t3 cI cJ cZ)) (hl : Cond.fieldLink own idx (TX4 19).1 (TX4 19).2.1 (TX4 19).2.2.1 ∈ G) (hP : va_P D vwCl (wR ad cI cJ cZ σ) H) (hd : decode cc pc = .ok (.getfield idx, 3)) (kk : W p l e R s m args below meth c H locs cells slots Q (F0 m (pc + 3) ls (.ref (ad 15) :: rest))) : W p l e R s m args below meth c H locs cells slots Q (F0 m (pc) ls (.ref (ad 0) :: rest)) := CM.get (T := TX4) (N := 23) (ref := "") E hP 0 rfl rfl inG_X4 19 (by decide) hl rfl hd kk
theorem gt_X4_value (E : Cx p s m args c cc nL own x0 D (t3 cI cJ cZ)) (hl : Cond.fieldLink own idx (TX4 20).1 (TX4 20).2.1 (TX4 20).2.2.1 ∈ G) (hP : va_P D vwCl (wR ad cI cJ cZ σ) H) (hd : decode cc pc = .ok (.getfield idx, 3)) (kk : W p l e R s m args below meth c H locs cells slots Q (F0 m (pc + 3) ls (.ref (ad 16) :: rest))) : W p l e R s m args below meth c H locs cells slots Q (F0 m (pc) ls (.ref (ad 0) :: rest)) := CM.get (T := TX4) (N := 23) (ref := "") E hP 0 rfl rfl inG_X4 20 (by decide) hl rfl hd kk
theorem gt_X4_outs (E : Cx p s m args c cc nL own x0 D (t3 cI cJ cZ)) (hl : Cond.fieldLink own idx (TX4 21).1 (TX4 21).2.1 (TX4 21).2.2.1 ∈ G) (hP : va_P D vwCl (wR ad cI cJ cZ σ) H) (hd : decode cc pc = .ok (.getfield idx, 3)) (kk : W p l e R s m args below meth c H locs cells slots Q (F0 m (pc + 3) ls (.ref (ad 17) :: rest))) : W p l e R s m args below meth c H locs cells slots Q (F0 m (pc) ls (.ref (ad 0) :: rest)) := CM.get (T := TX4) (N := 23) (ref := "") E hP 0 rfl rfl inG_X4 21 (by decide) hl rfl hd kk
theorem gt_X4_counts (E : Cx p s m args c cc nL own x0 D (t3 cI cJ cZ)) (hl : Cond.fieldLink own idx (TX4 22).1 (TX4 22).2.1 (TX4 22).2.2.1 ∈ G) (hP : va_P D vwCl (wR ad cI cJ cZ σ) H) (hd : decode cc pc = .ok (.getfield idx, 3)) (kk : W p l e R s m args below meth c H locs cells slots Q (F0 m (pc + 3) ls (.ref (ad 18) :: rest))) : W p l e R s m args below meth c H locs cells slots Q (F0 m (pc) ls (.ref (ad 0) :: rest)) := CM.get (T := TX4) (N := 23) (ref := "") E hP 0 rfl rfl inG_X4 22 (by decide) hl rfl hd kk
theorem ld_MS_pa {i : Nat} (E : Cx p s m args c cc nL own x0 D (t3 cI cJ cZ)) (hP : va_P D vwCl (wR ad cI cJ cZ σ) H) (hi : i < 6) (hd : decode cc pc = .ok (.iaload, 1)) (kk : W p l e R s m args below meth c H locs cells slots Q (F0 m (pc + 1) ls (.int (oI (gmpa σ i)) :: rest))) : W p l e R s m args below meth c H locs cells slots Q (F0 m (pc) ls (.int (nI i) :: .ref (ad 1) :: rest)) := by
  refine va_iald E.1.1 E.1.2.1 E.2 hP 1 0 rfl rfl (vp_in_nI hi (by decide)) hd ?_
  rw [nI_clamp (Nat.lt_trans hi (by decide))]
  exact kk
theorem as_MS_pa {i : Nat} {v : Option Nat} (E : Cx p s m args c cc nL own x0 D (t3 cI cJ cZ)) (hP : va_P D vwCl (wR ad cI cJ cZ σ) H) (hD : ∀ τ, va_D A (wR ad cI cJ cZ τ)) (hS : va_S A H0 H locs) (hi : i < 6) (hd : decode cc pc = .ok (.iastore, 1)) (kk : ∀ (H1 : Heap) (locs1 : List Loc), va_P D vwCl (wR ad cI cJ cZ (smpa σ (va_up (gmpa σ) i v))) H1 → va_S A H0 H1 locs1 → W p l e R s m args below meth c H1 locs1 cells slots Q (F0 m (pc + 1) ls (rest))) : W p l e R s m args below meth c H locs cells slots Q (F0 m (pc) ls (.int (oI (v)) :: .int (nI i) :: .ref (ad 1) :: rest)) := by
  refine va_iast E.1.1 E.1.2.1 E.2 hP (hD σ) hS 1 0 rfl rfl (vp_in_nI hi (by decide)) hd (fun H1 l1 h1 _ h3 => kk H1 l1 ?_ h3)
  have e9 : upd (fun i => oI (gmpa σ i)) (nI i).toNatClampNeg (oI (v)) = fun j => oI (va_up (gmpa σ) i v j) := by
    funext j
    rw [nI_clamp (Nat.lt_trans hi (by decide))]
    unfold upd va_up
    split <;> rfl
  rw [e9] at h1
  exact h1
theorem ld_MS_my {i : Nat} (E : Cx p s m args c cc nL own x0 D (t3 cI cJ cZ)) (hP : va_P D vwCl (wR ad cI cJ cZ σ) H) (hi : i < 24) (hd : decode cc pc = .ok (.iaload, 1)) (kk : W p l e R s m args below meth c H locs cells slots Q (F0 m (pc + 1) ls (.int (nI (gmmy σ i)) :: rest))) : W p l e R s m args below meth c H locs cells slots Q (F0 m (pc) ls (.int (nI i) :: .ref (ad 2) :: rest)) := by
  refine va_iald E.1.1 E.1.2.1 E.2 hP 2 0 rfl rfl (vp_in_nI hi (by decide)) hd ?_
  rw [nI_clamp (Nat.lt_trans hi (by decide))]
  exact kk
theorem as_MS_my {i : Nat} {v : Nat} (E : Cx p s m args c cc nL own x0 D (t3 cI cJ cZ)) (hP : va_P D vwCl (wR ad cI cJ cZ σ) H) (hD : ∀ τ, va_D A (wR ad cI cJ cZ τ)) (hS : va_S A H0 H locs) (hi : i < 24) (hd : decode cc pc = .ok (.iastore, 1)) (kk : ∀ (H1 : Heap) (locs1 : List Loc), va_P D vwCl (wR ad cI cJ cZ (smmy σ (va_up (gmmy σ) i v))) H1 → va_S A H0 H1 locs1 → W p l e R s m args below meth c H1 locs1 cells slots Q (F0 m (pc + 1) ls (rest))) : W p l e R s m args below meth c H locs cells slots Q (F0 m (pc) ls (.int (nI (v)) :: .int (nI i) :: .ref (ad 2) :: rest)) := by
  refine va_iast E.1.1 E.1.2.1 E.2 hP (hD σ) hS 2 0 rfl rfl (vp_in_nI hi (by decide)) hd (fun H1 l1 h1 _ h3 => kk H1 l1 ?_ h3)
  have e9 : upd (fun i => nI (gmmy σ i)) (nI i).toNatClampNeg (nI (v)) = fun j => nI (va_up (gmmy σ) i v j) := by
    funext j
    rw [nI_clamp (Nat.lt_trans hi (by decide))]
    unfold upd va_up
    split <;> rfl
  rw [e9] at h1
  exact h1
theorem ld_MS_cd {i : Nat} (E : Cx p s m args c cc nL own x0 D (t3 cI cJ cZ)) (hP : va_P D vwCl (wR ad cI cJ cZ σ) H) (hi : i < 960) (hd : decode cc pc = .ok (.iaload, 1)) (kk : W p l e R s m args below meth c H locs cells slots Q (F0 m (pc + 1) ls (.int (gmcd σ i) :: rest))) : W p l e R s m args below meth c H locs cells slots Q (F0 m (pc) ls (.int (nI i) :: .ref (ad 3) :: rest)) := by
  refine va_iald E.1.1 E.1.2.1 E.2 hP 3 0 rfl rfl (vp_in_nI hi (by decide)) hd ?_
  rw [nI_clamp (Nat.lt_trans hi (by decide))]
  exact kk
theorem as_MS_cd {i : Nat} {v : Int32} (E : Cx p s m args c cc nL own x0 D (t3 cI cJ cZ)) (hP : va_P D vwCl (wR ad cI cJ cZ σ) H) (hD : ∀ τ, va_D A (wR ad cI cJ cZ τ)) (hS : va_S A H0 H locs) (hi : i < 960) (hd : decode cc pc = .ok (.iastore, 1)) (kk : ∀ (H1 : Heap) (locs1 : List Loc), va_P D vwCl (wR ad cI cJ cZ (smcd σ (va_up (gmcd σ) i v))) H1 → va_S A H0 H1 locs1 → W p l e R s m args below meth c H1 locs1 cells slots Q (F0 m (pc + 1) ls (rest))) : W p l e R s m args below meth c H locs cells slots Q (F0 m (pc) ls (.int (v) :: .int (nI i) :: .ref (ad 3) :: rest)) := by
  refine va_iast E.1.1 E.1.2.1 E.2 hP (hD σ) hS 3 0 rfl rfl (vp_in_nI hi (by decide)) hd (fun H1 l1 h1 _ h3 => kk H1 l1 ?_ h3)
  have e9 : upd (fun i => gmcd σ i) (nI i).toNatClampNeg (v) = fun j => va_up (gmcd σ) i v j := by
    funext j
    rw [nI_clamp (Nat.lt_trans hi (by decide))]
    unfold upd va_up
    split <;> rfl
  rw [e9] at h1
  exact h1
theorem ld_MS_md {i : Nat} (E : Cx p s m args c cc nL own x0 D (t3 cI cJ cZ)) (hP : va_P D vwCl (wR ad cI cJ cZ σ) H) (hi : i < 6) (hd : decode cc pc = .ok (.baload, 1)) (kk : W p l e R s m args below meth c H locs cells slots Q (F0 m (pc + 1) ls (.int (bI (gmmd σ i)) :: rest))) : W p l e R s m args below meth c H locs cells slots Q (F0 m (pc) ls (.int (nI i) :: .ref (ad 4) :: rest)) := by
  refine va_zald E.1.1 E.1.2.1 E.2 hP 4 2 rfl rfl (vp_in_nI hi (by decide)) hd ?_
  rw [nI_clamp (Nat.lt_trans hi (by decide))]
  exact kk
theorem as_MS_md {i : Nat} {v : Bool} (E : Cx p s m args c cc nL own x0 D (t3 cI cJ cZ)) (hP : va_P D vwCl (wR ad cI cJ cZ σ) H) (hD : ∀ τ, va_D A (wR ad cI cJ cZ τ)) (hS : va_S A H0 H locs) (hi : i < 6) (hd : decode cc pc = .ok (.bastore, 1)) (kk : ∀ (H1 : Heap) (locs1 : List Loc), va_P D vwCl (wR ad cI cJ cZ (smmd σ (va_up (gmmd σ) i v))) H1 → va_S A H0 H1 locs1 → W p l e R s m args below meth c H1 locs1 cells slots Q (F0 m (pc + 1) ls (rest))) : W p l e R s m args below meth c H locs cells slots Q (F0 m (pc) ls (.int (bI (v)) :: .int (nI i) :: .ref (ad 4) :: rest)) := by
  refine va_zast E.1.1 E.1.2.1 E.2 hP (hD σ) hS 4 2 rfl rfl (vp_in_nI hi (by decide)) hd (fun H1 l1 h1 _ h3 => kk H1 l1 ?_ h3)
  have e9 : upd (fun i => bI (gmmd σ i)) (nI i).toNatClampNeg (vp_nar .boolean (bI (v))) = fun j => bI (va_up (gmmd σ) i v j) := by
    funext j
    rw [nI_clamp (Nat.lt_trans hi (by decide)), bI_nar]
    unfold upd va_up
    split <;> rfl
  rw [e9] at h1
  exact h1
theorem ld_MS_rd {i : Nat} (E : Cx p s m args c cc nL own x0 D (t3 cI cJ cZ)) (hP : va_P D vwCl (wR ad cI cJ cZ σ) H) (hi : i < 24) (hd : decode cc pc = .ok (.baload, 1)) (kk : W p l e R s m args below meth c H locs cells slots Q (F0 m (pc + 1) ls (.int (bI (gmrd σ i)) :: rest))) : W p l e R s m args below meth c H locs cells slots Q (F0 m (pc) ls (.int (nI i) :: .ref (ad 5) :: rest)) := by
  refine va_zald E.1.1 E.1.2.1 E.2 hP 5 2 rfl rfl (vp_in_nI hi (by decide)) hd ?_
  rw [nI_clamp (Nat.lt_trans hi (by decide))]
  exact kk
theorem as_MS_rd {i : Nat} {v : Bool} (E : Cx p s m args c cc nL own x0 D (t3 cI cJ cZ)) (hP : va_P D vwCl (wR ad cI cJ cZ σ) H) (hD : ∀ τ, va_D A (wR ad cI cJ cZ τ)) (hS : va_S A H0 H locs) (hi : i < 24) (hd : decode cc pc = .ok (.bastore, 1)) (kk : ∀ (H1 : Heap) (locs1 : List Loc), va_P D vwCl (wR ad cI cJ cZ (smrd σ (va_up (gmrd σ) i v))) H1 → va_S A H0 H1 locs1 → W p l e R s m args below meth c H1 locs1 cells slots Q (F0 m (pc + 1) ls (rest))) : W p l e R s m args below meth c H locs cells slots Q (F0 m (pc) ls (.int (bI (v)) :: .int (nI i) :: .ref (ad 5) :: rest)) := by
  refine va_zast E.1.1 E.1.2.1 E.2 hP (hD σ) hS 5 2 rfl rfl (vp_in_nI hi (by decide)) hd (fun H1 l1 h1 _ h3 => kk H1 l1 ?_ h3)
  have e9 : upd (fun i => bI (gmrd σ i)) (nI i).toNatClampNeg (vp_nar .boolean (bI (v))) = fun j => bI (va_up (gmrd σ) i v j) := by
    funext j
    rw [nI_clamp (Nat.lt_trans hi (by decide)), bI_nar]
    unfold upd va_up
    split <;> rfl
  rw [e9] at h1
  exact h1
theorem ld_MS_ch {i : Nat} (E : Cx p s m args c cc nL own x0 D (t3 cI cJ cZ)) (hP : va_P D vwCl (wR ad cI cJ cZ σ) H) (hi : i < 24) (hd : decode cc pc = .ok (.baload, 1)) (kk : W p l e R s m args below meth c H locs cells slots Q (F0 m (pc + 1) ls (.int (bI (gmch σ i)) :: rest))) : W p l e R s m args below meth c H locs cells slots Q (F0 m (pc) ls (.int (nI i) :: .ref (ad 6) :: rest)) := by
  refine va_zald E.1.1 E.1.2.1 E.2 hP 6 2 rfl rfl (vp_in_nI hi (by decide)) hd ?_
  rw [nI_clamp (Nat.lt_trans hi (by decide))]
  exact kk
theorem as_MS_ch {i : Nat} {v : Bool} (E : Cx p s m args c cc nL own x0 D (t3 cI cJ cZ)) (hP : va_P D vwCl (wR ad cI cJ cZ σ) H) (hD : ∀ τ, va_D A (wR ad cI cJ cZ τ)) (hS : va_S A H0 H locs) (hi : i < 24) (hd : decode cc pc = .ok (.bastore, 1)) (kk : ∀ (H1 : Heap) (locs1 : List Loc), va_P D vwCl (wR ad cI cJ cZ (smch σ (va_up (gmch σ) i v))) H1 → va_S A H0 H1 locs1 → W p l e R s m args below meth c H1 locs1 cells slots Q (F0 m (pc + 1) ls (rest))) : W p l e R s m args below meth c H locs cells slots Q (F0 m (pc) ls (.int (bI (v)) :: .int (nI i) :: .ref (ad 6) :: rest)) := by
  refine va_zast E.1.1 E.1.2.1 E.2 hP (hD σ) hS 6 2 rfl rfl (vp_in_nI hi (by decide)) hd (fun H1 l1 h1 _ h3 => kk H1 l1 ?_ h3)
  have e9 : upd (fun i => bI (gmch σ i)) (nI i).toNatClampNeg (vp_nar .boolean (bI (v))) = fun j => bI (va_up (gmch σ) i v j) := by
    funext j
    rw [nI_clamp (Nat.lt_trans hi (by decide)), bI_nar]
    unfold upd va_up
    split <;> rfl
  rw [e9] at h1
  exact h1
theorem ld_MS_si {i : Nat} (E : Cx p s m args c cc nL own x0 D (t3 cI cJ cZ)) (hP : va_P D vwCl (wR ad cI cJ cZ σ) H) (hi : i < 240) (hd : decode cc pc = .ok (.iaload, 1)) (kk : W p l e R s m args below meth c H locs cells slots Q (F0 m (pc + 1) ls (.int (nI (gmsi σ i)) :: rest))) : W p l e R s m args below meth c H locs cells slots Q (F0 m (pc) ls (.int (nI i) :: .ref (ad 7) :: rest)) := by
  refine va_iald E.1.1 E.1.2.1 E.2 hP 7 0 rfl rfl (vp_in_nI hi (by decide)) hd ?_
  rw [nI_clamp (Nat.lt_trans hi (by decide))]
  exact kk
theorem as_MS_si {i : Nat} {v : Nat} (E : Cx p s m args c cc nL own x0 D (t3 cI cJ cZ)) (hP : va_P D vwCl (wR ad cI cJ cZ σ) H) (hD : ∀ τ, va_D A (wR ad cI cJ cZ τ)) (hS : va_S A H0 H locs) (hi : i < 240) (hd : decode cc pc = .ok (.iastore, 1)) (kk : ∀ (H1 : Heap) (locs1 : List Loc), va_P D vwCl (wR ad cI cJ cZ (smsi σ (va_up (gmsi σ) i v))) H1 → va_S A H0 H1 locs1 → W p l e R s m args below meth c H1 locs1 cells slots Q (F0 m (pc + 1) ls (rest))) : W p l e R s m args below meth c H locs cells slots Q (F0 m (pc) ls (.int (nI (v)) :: .int (nI i) :: .ref (ad 7) :: rest)) := by
  refine va_iast E.1.1 E.1.2.1 E.2 hP (hD σ) hS 7 0 rfl rfl (vp_in_nI hi (by decide)) hd (fun H1 l1 h1 _ h3 => kk H1 l1 ?_ h3)
  have e9 : upd (fun i => nI (gmsi σ i)) (nI i).toNatClampNeg (nI (v)) = fun j => nI (va_up (gmsi σ) i v j) := by
    funext j
    rw [nI_clamp (Nat.lt_trans hi (by decide))]
    unfold upd va_up
    split <;> rfl
  rw [e9] at h1
  exact h1
theorem ld_MS_ho {i : Nat} (E : Cx p s m args c cc nL own x0 D (t3 cI cJ cZ)) (hP : va_P D vwCl (wR ad cI cJ cZ σ) H) (hi : i < 6) (hd : decode cc pc = .ok (.baload, 1)) (kk : W p l e R s m args below meth c H locs cells slots Q (F0 m (pc + 1) ls (.int (bI (gmho σ i)) :: rest))) : W p l e R s m args below meth c H locs cells slots Q (F0 m (pc) ls (.int (nI i) :: .ref (ad 8) :: rest)) := by
  refine va_zald E.1.1 E.1.2.1 E.2 hP 8 2 rfl rfl (vp_in_nI hi (by decide)) hd ?_
  rw [nI_clamp (Nat.lt_trans hi (by decide))]
  exact kk
theorem as_MS_ho {i : Nat} {v : Bool} (E : Cx p s m args c cc nL own x0 D (t3 cI cJ cZ)) (hP : va_P D vwCl (wR ad cI cJ cZ σ) H) (hD : ∀ τ, va_D A (wR ad cI cJ cZ τ)) (hS : va_S A H0 H locs) (hi : i < 6) (hd : decode cc pc = .ok (.bastore, 1)) (kk : ∀ (H1 : Heap) (locs1 : List Loc), va_P D vwCl (wR ad cI cJ cZ (smho σ (va_up (gmho σ) i v))) H1 → va_S A H0 H1 locs1 → W p l e R s m args below meth c H1 locs1 cells slots Q (F0 m (pc + 1) ls (rest))) : W p l e R s m args below meth c H locs cells slots Q (F0 m (pc) ls (.int (bI (v)) :: .int (nI i) :: .ref (ad 8) :: rest)) := by
  refine va_zast E.1.1 E.1.2.1 E.2 hP (hD σ) hS 8 2 rfl rfl (vp_in_nI hi (by decide)) hd (fun H1 l1 h1 _ h3 => kk H1 l1 ?_ h3)
  have e9 : upd (fun i => bI (gmho σ i)) (nI i).toNatClampNeg (vp_nar .boolean (bI (v))) = fun j => bI (va_up (gmho σ) i v j) := by
    funext j
    rw [nI_clamp (Nat.lt_trans hi (by decide)), bI_nar]
    unfold upd va_up
    split <;> rfl
  rw [e9] at h1
  exact h1
theorem ld_MS_cl {i : Nat} (E : Cx p s m args c cc nL own x0 D (t3 cI cJ cZ)) (hP : va_P D vwCl (wR ad cI cJ cZ σ) H) (hi : i < 420) (hd : decode cc pc = .ok (.iaload, 1)) (kk : W p l e R s m args below meth c H locs cells slots Q (F0 m (pc + 1) ls (.int (nI (gmcl σ i)) :: rest))) : W p l e R s m args below meth c H locs cells slots Q (F0 m (pc) ls (.int (nI i) :: .ref (ad 9) :: rest)) := by
  refine va_iald E.1.1 E.1.2.1 E.2 hP 9 0 rfl rfl (vp_in_nI hi (by decide)) hd ?_
  rw [nI_clamp (Nat.lt_trans hi (by decide))]
  exact kk
theorem as_MS_cl {i : Nat} {v : Nat} (E : Cx p s m args c cc nL own x0 D (t3 cI cJ cZ)) (hP : va_P D vwCl (wR ad cI cJ cZ σ) H) (hD : ∀ τ, va_D A (wR ad cI cJ cZ τ)) (hS : va_S A H0 H locs) (hi : i < 420) (hd : decode cc pc = .ok (.iastore, 1)) (kk : ∀ (H1 : Heap) (locs1 : List Loc), va_P D vwCl (wR ad cI cJ cZ (smcl σ (va_up (gmcl σ) i v))) H1 → va_S A H0 H1 locs1 → W p l e R s m args below meth c H1 locs1 cells slots Q (F0 m (pc + 1) ls (rest))) : W p l e R s m args below meth c H locs cells slots Q (F0 m (pc) ls (.int (nI (v)) :: .int (nI i) :: .ref (ad 9) :: rest)) := by
  refine va_iast E.1.1 E.1.2.1 E.2 hP (hD σ) hS 9 0 rfl rfl (vp_in_nI hi (by decide)) hd (fun H1 l1 h1 _ h3 => kk H1 l1 ?_ h3)
  have e9 : upd (fun i => nI (gmcl σ i)) (nI i).toNatClampNeg (nI (v)) = fun j => nI (va_up (gmcl σ) i v j) := by
    funext j
    rw [nI_clamp (Nat.lt_trans hi (by decide))]
    unfold upd va_up
    split <;> rfl
  rw [e9] at h1
  exact h1
theorem ld_MS_fI {i : Nat} (E : Cx p s m args c cc nL own x0 D (t3 cI cJ cZ)) (hP : va_P D vwCl (wR ad cI cJ cZ σ) H) (hi : i < 1260) (hd : decode cc pc = .ok (.baload, 1)) (kk : W p l e R s m args below meth c H locs cells slots Q (F0 m (pc + 1) ls (.int (bI (gmfI σ i)) :: rest))) : W p l e R s m args below meth c H locs cells slots Q (F0 m (pc) ls (.int (nI i) :: .ref (ad 10) :: rest)) := by
  refine va_zald E.1.1 E.1.2.1 E.2 hP 10 2 rfl rfl (vp_in_nI hi (by decide)) hd ?_
  rw [nI_clamp (Nat.lt_trans hi (by decide))]
  exact kk
theorem as_MS_fI {i : Nat} {v : Bool} (E : Cx p s m args c cc nL own x0 D (t3 cI cJ cZ)) (hP : va_P D vwCl (wR ad cI cJ cZ σ) H) (hD : ∀ τ, va_D A (wR ad cI cJ cZ τ)) (hS : va_S A H0 H locs) (hi : i < 1260) (hd : decode cc pc = .ok (.bastore, 1)) (kk : ∀ (H1 : Heap) (locs1 : List Loc), va_P D vwCl (wR ad cI cJ cZ (smfI σ (va_up (gmfI σ) i v))) H1 → va_S A H0 H1 locs1 → W p l e R s m args below meth c H1 locs1 cells slots Q (F0 m (pc + 1) ls (rest))) : W p l e R s m args below meth c H locs cells slots Q (F0 m (pc) ls (.int (bI (v)) :: .int (nI i) :: .ref (ad 10) :: rest)) := by
  refine va_zast E.1.1 E.1.2.1 E.2 hP (hD σ) hS 10 2 rfl rfl (vp_in_nI hi (by decide)) hd (fun H1 l1 h1 _ h3 => kk H1 l1 ?_ h3)
  have e9 : upd (fun i => bI (gmfI σ i)) (nI i).toNatClampNeg (vp_nar .boolean (bI (v))) = fun j => bI (va_up (gmfI σ) i v j) := by
    funext j
    rw [nI_clamp (Nat.lt_trans hi (by decide)), bI_nar]
    unfold upd va_up
    split <;> rfl
  rw [e9] at h1
  exact h1
theorem ld_MS_fV {i : Nat} (E : Cx p s m args c cc nL own x0 D (t3 cI cJ cZ)) (hP : va_P D vwCl (wR ad cI cJ cZ σ) H) (hi : i < 1260) (hd : decode cc pc = .ok (.iaload, 1)) (kk : W p l e R s m args below meth c H locs cells slots Q (F0 m (pc + 1) ls (.int (gmfV σ i) :: rest))) : W p l e R s m args below meth c H locs cells slots Q (F0 m (pc) ls (.int (nI i) :: .ref (ad 11) :: rest)) := by
  refine va_iald E.1.1 E.1.2.1 E.2 hP 11 0 rfl rfl (vp_in_nI hi (by decide)) hd ?_
  rw [nI_clamp (Nat.lt_trans hi (by decide))]
  exact kk
theorem as_MS_fV {i : Nat} {v : Int32} (E : Cx p s m args c cc nL own x0 D (t3 cI cJ cZ)) (hP : va_P D vwCl (wR ad cI cJ cZ σ) H) (hD : ∀ τ, va_D A (wR ad cI cJ cZ τ)) (hS : va_S A H0 H locs) (hi : i < 1260) (hd : decode cc pc = .ok (.iastore, 1)) (kk : ∀ (H1 : Heap) (locs1 : List Loc), va_P D vwCl (wR ad cI cJ cZ (smfV σ (va_up (gmfV σ) i v))) H1 → va_S A H0 H1 locs1 → W p l e R s m args below meth c H1 locs1 cells slots Q (F0 m (pc + 1) ls (rest))) : W p l e R s m args below meth c H locs cells slots Q (F0 m (pc) ls (.int (v) :: .int (nI i) :: .ref (ad 11) :: rest)) := by
  refine va_iast E.1.1 E.1.2.1 E.2 hP (hD σ) hS 11 0 rfl rfl (vp_in_nI hi (by decide)) hd (fun H1 l1 h1 _ h3 => kk H1 l1 ?_ h3)
  have e9 : upd (fun i => gmfV σ i) (nI i).toNatClampNeg (v) = fun j => va_up (gmfV σ) i v j := by
    funext j
    rw [nI_clamp (Nat.lt_trans hi (by decide))]
    unfold upd va_up
    split <;> rfl
  rw [e9] at h1
  exact h1
theorem ld_MS_bo {i : Nat} (E : Cx p s m args c cc nL own x0 D (t3 cI cJ cZ)) (hP : va_P D vwCl (wR ad cI cJ cZ σ) H) (hi : i < 13) (hd : decode cc pc = .ok (.iaload, 1)) (kk : W p l e R s m args below meth c H locs cells slots Q (F0 m (pc + 1) ls (.int (nI (gmbo σ i)) :: rest))) : W p l e R s m args below meth c H locs cells slots Q (F0 m (pc) ls (.int (nI i) :: .ref (ad 12) :: rest)) := by
  refine va_iald E.1.1 E.1.2.1 E.2 hP 12 0 rfl rfl (vp_in_nI hi (by decide)) hd ?_
  rw [nI_clamp (Nat.lt_trans hi (by decide))]
  exact kk
theorem as_MS_bo {i : Nat} {v : Nat} (E : Cx p s m args c cc nL own x0 D (t3 cI cJ cZ)) (hP : va_P D vwCl (wR ad cI cJ cZ σ) H) (hD : ∀ τ, va_D A (wR ad cI cJ cZ τ)) (hS : va_S A H0 H locs) (hi : i < 13) (hd : decode cc pc = .ok (.iastore, 1)) (kk : ∀ (H1 : Heap) (locs1 : List Loc), va_P D vwCl (wR ad cI cJ cZ (smbo σ (va_up (gmbo σ) i v))) H1 → va_S A H0 H1 locs1 → W p l e R s m args below meth c H1 locs1 cells slots Q (F0 m (pc + 1) ls (rest))) : W p l e R s m args below meth c H locs cells slots Q (F0 m (pc) ls (.int (nI (v)) :: .int (nI i) :: .ref (ad 12) :: rest)) := by
  refine va_iast E.1.1 E.1.2.1 E.2 hP (hD σ) hS 12 0 rfl rfl (vp_in_nI hi (by decide)) hd (fun H1 l1 h1 _ h3 => kk H1 l1 ?_ h3)
  have e9 : upd (fun i => nI (gmbo σ i)) (nI i).toNatClampNeg (nI (v)) = fun j => nI (va_up (gmbo σ) i v j) := by
    funext j
    rw [nI_clamp (Nat.lt_trans hi (by decide))]
    unfold upd va_up
    split <;> rfl
  rw [e9] at h1
  exact h1
theorem ld_MS_pl {i : Nat} (E : Cx p s m args c cc nL own x0 D (t3 cI cJ cZ)) (hP : va_P D vwCl (wR ad cI cJ cZ σ) H) (hi : i < 13) (hd : decode cc pc = .ok (.iaload, 1)) (kk : W p l e R s m args below meth c H locs cells slots Q (F0 m (pc + 1) ls (.int (nI (gmpl σ i)) :: rest))) : W p l e R s m args below meth c H locs cells slots Q (F0 m (pc) ls (.int (nI i) :: .ref (ad 13) :: rest)) := by
  refine va_iald E.1.1 E.1.2.1 E.2 hP 13 0 rfl rfl (vp_in_nI hi (by decide)) hd ?_
  rw [nI_clamp (Nat.lt_trans hi (by decide))]
  exact kk
theorem as_MS_pl {i : Nat} {v : Nat} (E : Cx p s m args c cc nL own x0 D (t3 cI cJ cZ)) (hP : va_P D vwCl (wR ad cI cJ cZ σ) H) (hD : ∀ τ, va_D A (wR ad cI cJ cZ τ)) (hS : va_S A H0 H locs) (hi : i < 13) (hd : decode cc pc = .ok (.iastore, 1)) (kk : ∀ (H1 : Heap) (locs1 : List Loc), va_P D vwCl (wR ad cI cJ cZ (smpl σ (va_up (gmpl σ) i v))) H1 → va_S A H0 H1 locs1 → W p l e R s m args below meth c H1 locs1 cells slots Q (F0 m (pc + 1) ls (rest))) : W p l e R s m args below meth c H locs cells slots Q (F0 m (pc) ls (.int (nI (v)) :: .int (nI i) :: .ref (ad 13) :: rest)) := by
  refine va_iast E.1.1 E.1.2.1 E.2 hP (hD σ) hS 13 0 rfl rfl (vp_in_nI hi (by decide)) hd (fun H1 l1 h1 _ h3 => kk H1 l1 ?_ h3)
  have e9 : upd (fun i => nI (gmpl σ i)) (nI i).toNatClampNeg (nI (v)) = fun j => nI (va_up (gmpl σ) i v j) := by
    funext j
    rw [nI_clamp (Nat.lt_trans hi (by decide))]
    unfold upd va_up
    split <;> rfl
  rw [e9] at h1
  exact h1
theorem ld_MS_wa {i : Nat} (E : Cx p s m args c cc nL own x0 D (t3 cI cJ cZ)) (hP : va_P D vwCl (wR ad cI cJ cZ σ) H) (hi : i < 13) (hd : decode cc pc = .ok (.iaload, 1)) (kk : W p l e R s m args below meth c H locs cells slots Q (F0 m (pc + 1) ls (.int (nI (gmwa σ i)) :: rest))) : W p l e R s m args below meth c H locs cells slots Q (F0 m (pc) ls (.int (nI i) :: .ref (ad 14) :: rest)) := by
  refine va_iald E.1.1 E.1.2.1 E.2 hP 14 0 rfl rfl (vp_in_nI hi (by decide)) hd ?_
  rw [nI_clamp (Nat.lt_trans hi (by decide))]
  exact kk
theorem as_MS_wa {i : Nat} {v : Nat} (E : Cx p s m args c cc nL own x0 D (t3 cI cJ cZ)) (hP : va_P D vwCl (wR ad cI cJ cZ σ) H) (hD : ∀ τ, va_D A (wR ad cI cJ cZ τ)) (hS : va_S A H0 H locs) (hi : i < 13) (hd : decode cc pc = .ok (.iastore, 1)) (kk : ∀ (H1 : Heap) (locs1 : List Loc), va_P D vwCl (wR ad cI cJ cZ (smwa σ (va_up (gmwa σ) i v))) H1 → va_S A H0 H1 locs1 → W p l e R s m args below meth c H1 locs1 cells slots Q (F0 m (pc + 1) ls (rest))) : W p l e R s m args below meth c H locs cells slots Q (F0 m (pc) ls (.int (nI (v)) :: .int (nI i) :: .ref (ad 14) :: rest)) := by
  refine va_iast E.1.1 E.1.2.1 E.2 hP (hD σ) hS 14 0 rfl rfl (vp_in_nI hi (by decide)) hd (fun H1 l1 h1 _ h3 => kk H1 l1 ?_ h3)
  have e9 : upd (fun i => nI (gmwa σ i)) (nI i).toNatClampNeg (nI (v)) = fun j => nI (va_up (gmwa σ) i v j) := by
    funext j
    rw [nI_clamp (Nat.lt_trans hi (by decide))]
    unfold upd va_up
    split <;> rfl
  rw [e9] at h1
  exact h1
theorem ld_MS_is {i : Nat} (E : Cx p s m args c cc nL own x0 D (t3 cI cJ cZ)) (hP : va_P D vwCl (wR ad cI cJ cZ σ) H) (hi : i < 78) (hd : decode cc pc = .ok (.baload, 1)) (kk : W p l e R s m args below meth c H locs cells slots Q (F0 m (pc + 1) ls (.int (bI (gmis σ i)) :: rest))) : W p l e R s m args below meth c H locs cells slots Q (F0 m (pc) ls (.int (nI i) :: .ref (ad 15) :: rest)) := by
  refine va_zald E.1.1 E.1.2.1 E.2 hP 15 2 rfl rfl (vp_in_nI hi (by decide)) hd ?_
  rw [nI_clamp (Nat.lt_trans hi (by decide))]
  exact kk
theorem as_MS_is {i : Nat} {v : Bool} (E : Cx p s m args c cc nL own x0 D (t3 cI cJ cZ)) (hP : va_P D vwCl (wR ad cI cJ cZ σ) H) (hD : ∀ τ, va_D A (wR ad cI cJ cZ τ)) (hS : va_S A H0 H locs) (hi : i < 78) (hd : decode cc pc = .ok (.bastore, 1)) (kk : ∀ (H1 : Heap) (locs1 : List Loc), va_P D vwCl (wR ad cI cJ cZ (smis σ (va_up (gmis σ) i v))) H1 → va_S A H0 H1 locs1 → W p l e R s m args below meth c H1 locs1 cells slots Q (F0 m (pc + 1) ls (rest))) : W p l e R s m args below meth c H locs cells slots Q (F0 m (pc) ls (.int (bI (v)) :: .int (nI i) :: .ref (ad 15) :: rest)) := by
  refine va_zast E.1.1 E.1.2.1 E.2 hP (hD σ) hS 15 2 rfl rfl (vp_in_nI hi (by decide)) hd (fun H1 l1 h1 _ h3 => kk H1 l1 ?_ h3)
  have e9 : upd (fun i => bI (gmis σ i)) (nI i).toNatClampNeg (vp_nar .boolean (bI (v))) = fun j => bI (va_up (gmis σ) i v j) := by
    funext j
    rw [nI_clamp (Nat.lt_trans hi (by decide)), bI_nar]
    unfold upd va_up
    split <;> rfl
  rw [e9] at h1
  exact h1
theorem ld_MS_va {i : Nat} (E : Cx p s m args c cc nL own x0 D (t3 cI cJ cZ)) (hP : va_P D vwCl (wR ad cI cJ cZ σ) H) (hi : i < 78) (hd : decode cc pc = .ok (.iaload, 1)) (kk : W p l e R s m args below meth c H locs cells slots Q (F0 m (pc + 1) ls (.int (gmva σ i) :: rest))) : W p l e R s m args below meth c H locs cells slots Q (F0 m (pc) ls (.int (nI i) :: .ref (ad 16) :: rest)) := by
  refine va_iald E.1.1 E.1.2.1 E.2 hP 16 0 rfl rfl (vp_in_nI hi (by decide)) hd ?_
  rw [nI_clamp (Nat.lt_trans hi (by decide))]
  exact kk
theorem as_MS_va {i : Nat} {v : Int32} (E : Cx p s m args c cc nL own x0 D (t3 cI cJ cZ)) (hP : va_P D vwCl (wR ad cI cJ cZ σ) H) (hD : ∀ τ, va_D A (wR ad cI cJ cZ τ)) (hS : va_S A H0 H locs) (hi : i < 78) (hd : decode cc pc = .ok (.iastore, 1)) (kk : ∀ (H1 : Heap) (locs1 : List Loc), va_P D vwCl (wR ad cI cJ cZ (smva σ (va_up (gmva σ) i v))) H1 → va_S A H0 H1 locs1 → W p l e R s m args below meth c H1 locs1 cells slots Q (F0 m (pc + 1) ls (rest))) : W p l e R s m args below meth c H locs cells slots Q (F0 m (pc) ls (.int (v) :: .int (nI i) :: .ref (ad 16) :: rest)) := by
  refine va_iast E.1.1 E.1.2.1 E.2 hP (hD σ) hS 16 0 rfl rfl (vp_in_nI hi (by decide)) hd (fun H1 l1 h1 _ h3 => kk H1 l1 ?_ h3)
  have e9 : upd (fun i => gmva σ i) (nI i).toNatClampNeg (v) = fun j => va_up (gmva σ) i v j := by
    funext j
    rw [nI_clamp (Nat.lt_trans hi (by decide))]
    unfold upd va_up
    split <;> rfl
  rw [e9] at h1
  exact h1
theorem ld_MS_ou {i : Nat} (E : Cx p s m args c cc nL own x0 D (t3 cI cJ cZ)) (hP : va_P D vwCl (wR ad cI cJ cZ σ) H) (hi : i < 40) (hd : decode cc pc = .ok (.iaload, 1)) (kk : W p l e R s m args below meth c H locs cells slots Q (F0 m (pc + 1) ls (.int (gmou σ i) :: rest))) : W p l e R s m args below meth c H locs cells slots Q (F0 m (pc) ls (.int (nI i) :: .ref (ad 17) :: rest)) := by
  refine va_iald E.1.1 E.1.2.1 E.2 hP 17 0 rfl rfl (vp_in_nI hi (by decide)) hd ?_
  rw [nI_clamp (Nat.lt_trans hi (by decide))]
  exact kk
theorem as_MS_ou {i : Nat} {v : Int32} (E : Cx p s m args c cc nL own x0 D (t3 cI cJ cZ)) (hP : va_P D vwCl (wR ad cI cJ cZ σ) H) (hD : ∀ τ, va_D A (wR ad cI cJ cZ τ)) (hS : va_S A H0 H locs) (hi : i < 40) (hd : decode cc pc = .ok (.iastore, 1)) (kk : ∀ (H1 : Heap) (locs1 : List Loc), va_P D vwCl (wR ad cI cJ cZ (smou σ (va_up (gmou σ) i v))) H1 → va_S A H0 H1 locs1 → W p l e R s m args below meth c H1 locs1 cells slots Q (F0 m (pc + 1) ls (rest))) : W p l e R s m args below meth c H locs cells slots Q (F0 m (pc) ls (.int (v) :: .int (nI i) :: .ref (ad 17) :: rest)) := by
  refine va_iast E.1.1 E.1.2.1 E.2 hP (hD σ) hS 17 0 rfl rfl (vp_in_nI hi (by decide)) hd (fun H1 l1 h1 _ h3 => kk H1 l1 ?_ h3)
  have e9 : upd (fun i => gmou σ i) (nI i).toNatClampNeg (v) = fun j => va_up (gmou σ) i v j := by
    funext j
    rw [nI_clamp (Nat.lt_trans hi (by decide))]
    unfold upd va_up
    split <;> rfl
  rw [e9] at h1
  exact h1
theorem ld_MS_ct {i : Nat} (E : Cx p s m args c cc nL own x0 D (t3 cI cJ cZ)) (hP : va_P D vwCl (wR ad cI cJ cZ σ) H) (hi : i < 6) (hd : decode cc pc = .ok (.iaload, 1)) (kk : W p l e R s m args below meth c H locs cells slots Q (F0 m (pc + 1) ls (.int (nI (gmct σ i)) :: rest))) : W p l e R s m args below meth c H locs cells slots Q (F0 m (pc) ls (.int (nI i) :: .ref (ad 18) :: rest)) := by
  refine va_iald E.1.1 E.1.2.1 E.2 hP 18 0 rfl rfl (vp_in_nI hi (by decide)) hd ?_
  rw [nI_clamp (Nat.lt_trans hi (by decide))]
  exact kk
theorem as_MS_ct {i : Nat} {v : Nat} (E : Cx p s m args c cc nL own x0 D (t3 cI cJ cZ)) (hP : va_P D vwCl (wR ad cI cJ cZ σ) H) (hD : ∀ τ, va_D A (wR ad cI cJ cZ τ)) (hS : va_S A H0 H locs) (hi : i < 6) (hd : decode cc pc = .ok (.iastore, 1)) (kk : ∀ (H1 : Heap) (locs1 : List Loc), va_P D vwCl (wR ad cI cJ cZ (smct σ (va_up (gmct σ) i v))) H1 → va_S A H0 H1 locs1 → W p l e R s m args below meth c H1 locs1 cells slots Q (F0 m (pc + 1) ls (rest))) : W p l e R s m args below meth c H locs cells slots Q (F0 m (pc) ls (.int (nI (v)) :: .int (nI i) :: .ref (ad 18) :: rest)) := by
  refine va_iast E.1.1 E.1.2.1 E.2 hP (hD σ) hS 18 0 rfl rfl (vp_in_nI hi (by decide)) hd (fun H1 l1 h1 _ h3 => kk H1 l1 ?_ h3)
  have e9 : upd (fun i => nI (gmct σ i)) (nI i).toNatClampNeg (nI (v)) = fun j => nI (va_up (gmct σ) i v j) := by
    funext j
    rw [nI_clamp (Nat.lt_trans hi (by decide))]
    unfold upd va_up
    split <;> rfl
  rw [e9] at h1
  exact h1
end RMS
