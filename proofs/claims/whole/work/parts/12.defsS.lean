theorem ts_nf9 {x : Bool} (h : ¬ x = false) : x = true := by cases x with
  | true => rfl
  | false => exact absurd rfl h
def fillF {α : Type} (f : Nat → α) (a b : Nat) (v : α) : Nat → α := fun i => if a ≤ i ∧ i < b then v else f i
theorem fillF_0 {α : Type} (f : Nat → α) (a : Nat) (v : α) : fillF f a a v = f := by
  funext i
  unfold fillF
  rw [if_neg (by omega)]
theorem fillF_up {α : Type} (f : Nat → α) {a k : Nat} (v : α) (h : a ≤ k) : va_up (fillF f a k v) k v = fillF f a (k + 1) v := by
  funext i
  unfold va_up fillF
  by_cases e : i = k
  · subst e
    rw [if_pos rfl, if_pos ⟨h, Nat.lt_succ_self i⟩]
  · rw [if_neg e]
    by_cases h2 : a ≤ i ∧ i < k
    · rw [if_pos h2, if_pos ⟨h2.1, by omega⟩]
    · rw [if_neg h2, if_neg (by omega)]
theorem nI_xor (a b : Nat) : nI a ^^^ nI b = nI (a ^^^ b) := by
  apply Int32.toBitVec_inj.1
  show BitVec.ofNat 32 a ^^^ BitVec.ofNat 32 b = BitVec.ofNat 32 (a ^^^ b)
  apply BitVec.eq_of_getLsbD_eq
  intro i hi
  simp [hi]
section NV3
variable {p : Program} {l : Launch} {e : Env} {R : Room} {s : State} {m : MethodId} {args : Array Value} {below : List Frame} {meth : Method} {c : Code} {H : Heap} {locs : List Loc} {cells slots : Nat} {Q : State → Prop}
variable {cc : ByteArray} {nL pc : Nat} {own : String} {x0 : Cond} {D : va_G} {tys : List (ClassId × FieldType)} {ls : Array Slot} {rest : List Value} {off : Int} {tgt a b : Nat}
theorem nv_ixor (E : Cx p s m args c cc nL own x0 D tys) (hd : decode cc pc = .ok (.ixor, 1)) (k : W p l e R s m args below meth c H locs cells slots Q (F0 m (pc + 1) ls (.int (nI (a ^^^ b)) :: rest))) : W p l e R s m args below meth c H locs cells slots Q (F0 m pc ls (.int (nI b) :: .int (nI a) :: rest)) := by
  refine lv_ixor E.1.1 E.1.2.1 hd ?_
  rw [nI_xor]
  exact k
end NV3
theorem tgtF_lt {P : Nat → Option Nat} {L : Nat → Nat} {q : Nat} (hP : ∀ i k, P i = some k → k < 6) (hq : q < 4) : ∀ (f : Nat) (o : Option Nat), (∀ j, o = some j → j < 6) → ∀ k, tgtF P L q f o = some k → k < 24 := by
  intro f
  induction f with
  | zero => intro o _ k h; cases o <;> cases h
  | succ f ih =>
    intro o ho k h
    cases o with
    | none => cases h
    | some a =>
      have ha := ho a rfl
      unfold tgtF at h
      by_cases h0 : 0 < L (a * 4 + q)
      · rw [if_pos h0] at h
        cases h
        omega
      · rw [if_neg h0] at h
        exact ih (P a) (fun j hj => hP a j hj) k h
def tgC (σ : CS) (t q : Nat) : Option Nat := tgtF (gcP σ) (gcL σ) q 6 (some t)
theorem tgC_lt {σ : CS} (hI : PI σ) {t q : Nat} (ht : t < 6) (hq : q < 4) {k : Nat} (h : tgC σ t q = some k) : k < 24 := tgtF_lt hI.1 hq 6 (some t) (fun j hj => by cases hj; exact ht) k h
def tsF (σ : CS) (t q : Nat) : Nat := match tgC σ t q with
  | none => 0
  | some k => 1 <<< k
/-- the sets are sets of classes, bodies and selectors -/
def BI (σ : CS) : Prop := gcma σ < 64 ∧ gcre σ < 16777216 ∧ gcca σ < 16
theorem shl_lt {k n : Nat} (h : k < n) : 1 <<< k < 2 ^ n := by
  rw [Nat.shiftLeft_eq, Nat.one_mul]
  exact Nat.pow_lt_pow_right (by decide) h
theorem or_lt6 {a k : Nat} (h : a < 64) (hk : k < 6) : a ||| 1 <<< k < 64 := Nat.or_lt_two_pow (n := 6) h (shl_lt hk)
theorem or_lt4 {a k : Nat} (h : a < 16) (hk : k < 4) : a ||| 1 <<< k < 16 := Nat.or_lt_two_pow (n := 4) h (shl_lt hk)
theorem tsF_lt {σ : CS} (hI : PI σ) {t q : Nat} (ht : t < 6) (hq : q < 4) : tsF σ t q < 16777216 := by
  unfold tsF
  cases h : tgC σ t q with
  | none => exact (by decide : (0 : Nat) < 16777216)
  | some k => exact shl_lt (n := 24) (tgC_lt hI ht hq h)
theorem or_lt24 {a b : Nat} (h : a < 16777216) (hb : b < 16777216) : a ||| b < 16777216 := Nat.or_lt_two_pow (n := 24) h hb
def rbS (b k : Nat) (τ : CS) : CS := if gcK τ (b * 10 + k) = 4 then scma τ (gcma τ ||| 1 <<< yN τ (b * 10 + k)) else if gcK τ (b * 10 + k) = 7 then scca τ (gcca τ ||| 1 <<< zN τ (b * 10 + k)) else τ
def rbF (b : Nat) (σ : CS) : CS := itN (rbS b) (gcL σ b) 0 σ
def rsS (fr b : Nat) (τ : CS) : CS := if fr.testBit b = true then rbF b τ else τ
def rsF (fr : Nat) (σ : CS) : CS := itN (rsS fr) 24 0 σ
def rtS (t q : Nat) (τ : CS) : CS := if (gcma τ).testBit t = true then (if (gcca τ).testBit q = true then scre τ (gcre τ ||| tsF τ t q) else τ) else τ
def rtF (σ : CS) : CS := itN (fun t τ => itN (rtS t) 4 0 τ) 6 0 σ
def frL : Nat → Nat → CS → CS
  | 0, _, τ => τ
  | n + 1, rd, τ => if rd = gcre τ then τ else frL n (gcre τ) (rtF (rsF (gcre τ &&& (rd ^^^ 4294967295)) τ))
def fr0 (σ : CS) : CS := scre (scca (scma σ 1) 0) (tsF σ 0 0)
def frF (σ : CS) : CS := frL 24 0 (fr0 σ)
/-- all that the shaping's own methods keep: the program -/
def Kp (σ τ : CS) : Prop := PI τ ∧ WI τ ∧ BI τ ∧ gcL τ = gcL σ ∧ gcP τ = gcP σ ∧ gcK τ = gcK σ ∧ gcX τ = gcX σ ∧ gcY τ = gcY σ ∧ gcZ τ = gcZ σ ∧ gcn τ = gcn σ
theorem itN_inv {α : Type} {f : Nat → α → α} (I : α → Prop) {N : Nat} (h : ∀ k x, k < N → I x → I (f k x)) : ∀ (n k : Nat) (x : α), k + n ≤ N → I x → I (itN f n k x) := by
  intro n
  induction n with
  | zero => intro k x _ hx; exact hx
  | succ n ih => intro k x hk hx; exact ih (k + 1) _ (by omega) (h k x (by omega) hx)
theorem Kp_rf {σ : CS} (h1 : PI σ) (h2 : WI σ) (h3 : BI σ) : Kp σ σ := ⟨h1, h2, h3, rfl, rfl, rfl, rfl, rfl, rfl, rfl⟩
theorem Kp_ma {σ τ : CS} {v : Nat} (h : Kp σ τ) (hv : v < 64) : Kp σ (scma τ v) := ⟨h.1, h.2.1, ⟨hv, h.2.2.1.2⟩, h.2.2.2⟩
theorem Kp_ca {σ τ : CS} {v : Nat} (h : Kp σ τ) (hv : v < 16) : Kp σ (scca τ v) := ⟨h.1, h.2.1, ⟨h.2.2.1.1, h.2.2.1.2.1, hv⟩, h.2.2.2⟩
theorem Kp_re {σ τ : CS} {v : Nat} (h : Kp σ τ) (hv : v < 16777216) : Kp σ (scre τ v) := ⟨h.1, h.2.1, ⟨h.2.2.1.1, hv, h.2.2.1.2.2⟩, h.2.2.2⟩
theorem Kp_V {σ τ : CS} {v : Nat → Nat} (h : Kp σ τ) : Kp σ (scV τ v) := h
theorem Kp_CV {σ τ : CS} {v : Nat → Nat} (h : Kp σ τ) : Kp σ (scCV τ v) := h
theorem Kp_rb {σ τ : CS} {b k : Nat} (h : Kp σ τ) : Kp σ (rbS b k τ) := by
  unfold rbS
  by_cases h4 : gcK τ (b * 10 + k) = 4
  · rw [if_pos h4]
    exact Kp_ma h (or_lt6 h.2.2.1.1 (WI_y h.2.1 (by omega)).2)
  · rw [if_neg h4]
    by_cases h7 : gcK τ (b * 10 + k) = 7
    · rw [if_pos h7]
      exact Kp_ca h (or_lt4 h.2.2.1.2.2 (WI_z4 h.2.1 h7).2)
    · rw [if_neg h7]
      exact h
theorem Kp_rbF {σ τ : CS} {b : Nat} (h : Kp σ τ) : Kp σ (rbF b τ) := itN_inv (Kp σ) (N := gcL τ b) (fun k x _ hx => Kp_rb hx) _ _ _ (by omega) h
theorem Kp_rs {σ τ : CS} {fr b : Nat} (h : Kp σ τ) : Kp σ (rsS fr b τ) := by
  unfold rsS
  by_cases h4 : fr.testBit b = true
  · rw [if_pos h4]; exact Kp_rbF h
  · rw [if_neg h4]; exact h
theorem Kp_rsF {σ τ : CS} {fr : Nat} (h : Kp σ τ) : Kp σ (rsF fr τ) := itN_inv (Kp σ) (N := 24) (fun k x _ hx => Kp_rs hx) _ _ _ (by omega) h
theorem Kp_rt {σ τ : CS} {t q : Nat} (ht : t < 6) (hq : q < 4) (h : Kp σ τ) : Kp σ (rtS t q τ) := by
  unfold rtS
  by_cases h4 : (gcma τ).testBit t = true
  · rw [if_pos h4]
    by_cases h5 : (gcca τ).testBit q = true
    · rw [if_pos h5]; exact Kp_re h (or_lt24 h.2.2.1.2.1 (tsF_lt h.1 ht hq))
    · rw [if_neg h5]; exact h
  · rw [if_neg h4]; exact h
theorem Kp_rt4 {σ τ : CS} {t : Nat} (ht : t < 6) (h : Kp σ τ) : Kp σ (itN (rtS t) 4 0 τ) := itN_inv (Kp σ) (N := 4) (fun k x hk hx => Kp_rt ht hk hx) _ _ _ (by omega) h
theorem Kp_rtF {σ τ : CS} (h : Kp σ τ) : Kp σ (rtF τ) := itN_inv (Kp σ) (N := 6) (fun k x hk hx => Kp_rt4 hk hx) _ _ _ (by omega) h
theorem Kp_fr0 {σ : CS} (h1 : PI σ) (h2 : WI σ) : Kp σ (fr0 σ) := ⟨h1, h2, ⟨(by decide : (1 : Nat) < 64), tsF_lt h1 (by decide) (by decide), (by decide : (0 : Nat) < 16)⟩, rfl, rfl, rfl, rfl, rfl, rfl, rfl⟩
theorem fresh_lt {a b : Nat} (h : a < 16777216) : a &&& b < 16777216 := Nat.lt_of_le_of_lt Nat.and_le_left h
theorem Kp_frL {σ : CS} : ∀ (n rd : Nat) (τ : CS), Kp σ τ → Kp σ (frL n rd τ) := by
  intro n
  induction n with
  | zero => intro rd τ h; exact h
  | succ n ih =>
    intro rd τ h
    unfold frL
    by_cases e : rd = gcre τ
    · rw [if_pos e]; exact h
    · rw [if_neg e]; exact ih _ _ (Kp_rtF (Kp_rsF h))
theorem Kp_frF {σ : CS} (h1 : PI σ) (h2 : WI σ) : Kp σ (frF σ) := Kp_frL _ _ _ (Kp_fr0 h1 h2)
def vcL (σ : CS) (q : Nat) : Nat → Nat → Option Nat → Nat
  | 0, _, o => match o with
    | none => 4
    | some b => if fitF (gcL σ) (gcK σ) b = true then 3 else 2
  | n + 1, c, o => match (if (gcma σ).testBit c = true then tgC σ c q else none) with
    | none => vcL σ q n (c + 1) o
    | some t => match o with
      | none => vcL σ q n (c + 1) (some t)
      | some b => if b = t then vcL σ q n (c + 1) (some t) else 1
def vcF (σ : CS) (q : Nat) : Nat := vcL σ q 6 0 none
def woS (σ : CS) (b k w : Nat) : Nat := if gcK σ (b * 10 + k) = 6 then w ||| 1 <<< yN σ (b * 10 + k) else if gcK σ (b * 10 + k) = 7 then w ||| (1 <<< yN σ (b * 10 + k) ||| 32) else if gcK σ (b * 10 + k) = 11 then w ||| 1 <<< gcX σ (b * 10 + k) else w
def woF (σ : CS) (b : Nat) : Nat := itN (woS σ b) (gcL σ b) 0 0
def hoS (σ : CS) (b k h : Nat) : Nat := if gcK σ (b * 10 + k) = 1 then (if h.testBit (yN σ (b * 10 + k)) = true then h ||| 1 <<< gcX σ (b * 10 + k) else h) else h
def hoR (σ : CS) (b : Nat) (_ : Nat) (h : Nat) : Nat := itN (hoS σ b) (gcL σ b) 0 h
def hoF (σ : CS) (b r : Nat) : Nat := itN (hoR σ b) 5 1 (1 <<< r)
def jdS (b w k : Nat) (τ : CS) : CS := if gcK τ (b * 10 + k) = 7 then scV τ (va_up (gcV τ) (b * 10 + k) (gcCV τ (zN τ (b * 10 + k)))) else if gcK τ (b * 10 + k) = 4 then scV τ (va_up (gcV τ) (b * 10 + k) (if hoF τ b (gcX τ (b * 10 + k)) &&& w = 0 then 5 else 6)) else τ
def jdF (b : Nat) (σ : CS) : CS := itN (jdS b (woF σ b)) (gcL σ b) 0 σ
theorem Kp_jd {σ τ : CS} {b w k : Nat} (h : Kp σ τ) : Kp σ (jdS b w k τ) := by
  unfold jdS
  by_cases h4 : gcK τ (b * 10 + k) = 7
  · rw [if_pos h4]; exact h
  · rw [if_neg h4]
    by_cases h7 : gcK τ (b * 10 + k) = 4
    · rw [if_pos h7]; exact h
    · rw [if_neg h7]; exact h
theorem Kp_jdF {σ τ : CS} {b : Nat} (h : Kp σ τ) : Kp σ (jdF b τ) := itN_inv (Kp σ) (N := gcL τ b) (fun k x _ hx => Kp_jd hx) _ _ _ (by omega) h
def jaS (b : Nat) (τ : CS) : CS := if (gcre τ).testBit b = true then jdF b τ else τ
def cvS (q : Nat) (τ : CS) : CS := scCV τ (va_up (gcCV τ) q (vcF τ q))
def rnF (σ : CS) : CS := itN jaS 24 0 (itN cvS 4 0 (frF (scV σ (fillF (gcV σ) 0 240 0))))
theorem wo_lt {σ : CS} (hI : PI σ) (hW : WI σ) {b k w : Nat} (h : w < 64) : woS σ b k w < 64 := by
  unfold woS
  by_cases h6 : gcK σ (b * 10 + k) = 6
  · rw [if_pos h6]; exact or_lt6 h (WI_y hW (by omega)).2
  · rw [if_neg h6]
    by_cases h7 : gcK σ (b * 10 + k) = 7
    · rw [if_pos h7]; exact Nat.or_lt_two_pow (n := 6) h (Nat.or_lt_two_pow (shl_lt (WI_y hW (by omega)).2) (by decide))
    · rw [if_neg h7]
      by_cases h8 : gcK σ (b * 10 + k) = 11
      · rw [if_pos h8]; exact or_lt6 h (hI.2.2.2.1 _)
      · rw [if_neg h8]; exact h
theorem ho_lt {σ : CS} (hI : PI σ) {b k w : Nat} (h : w < 64) : hoS σ b k w < 64 := by
  unfold hoS
  by_cases h6 : gcK σ (b * 10 + k) = 1
  · rw [if_pos h6]
    by_cases h7 : w.testBit (yN σ (b * 10 + k)) = true
    · rw [if_pos h7]; exact or_lt6 h (hI.2.2.2.1 _)
    · rw [if_neg h7]; exact h
  · rw [if_neg h6]; exact h
theorem hoR_lt {σ : CS} (hI : PI σ) {b k w : Nat} (h : w < 64) : hoR σ b k w < 64 := itN_inv (fun x => x < 64) (N := gcL σ b) (fun k x _ hx => ho_lt hI hx) _ _ _ (by omega) h
theorem hoF_lt {σ : CS} (hI : PI σ) {b r : Nat} (h : r < 6) : hoF σ b r < 64 := itN_inv (fun x => x < 64) (N := 6) (fun k x _ hx => hoR_lt hI hx) _ _ _ (by omega) (shl_lt h)
theorem woF_lt {σ : CS} (hI : PI σ) (hW : WI σ) {b : Nat} : woF σ b < 64 := itN_inv (fun x => x < 64) (N := gcL σ b) (fun k x _ hx => wo_lt hI hW hx) _ _ _ (by omega) (by decide)
/-- the number that Integer.bitCount answers -/
def bcS1 (x : Int32) : Int32 := x - ((x.toUInt32 >>> ((nI 1).toUInt32 &&& Int32.toUInt32 31)).toInt32 &&& 1431655765)
def bcS2 (x : Int32) : Int32 := (x &&& 858993459) + ((x.toUInt32 >>> ((nI 2).toUInt32 &&& Int32.toUInt32 31)).toInt32 &&& 858993459)
def bcS3 (x : Int32) : Int32 := (x + (x.toUInt32 >>> ((nI 4).toUInt32 &&& Int32.toUInt32 31)).toInt32) &&& 252645135
def bcS4 (x : Int32) : Int32 := x + (x.toUInt32 >>> ((nI 8).toUInt32 &&& Int32.toUInt32 31)).toInt32
def bcS5 (x : Int32) : Int32 := x + (x.toUInt32 >>> ((nI 16).toUInt32 &&& Int32.toUInt32 31)).toInt32
def bcF (x : Int32) : Int32 := bcS5 (bcS4 (bcS3 (bcS2 (bcS1 x)))) &&& nI 63
