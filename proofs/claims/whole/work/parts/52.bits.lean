/-! Integer.bitCount of a set of at most 24 -/
def B3 (a b c : Nat) : Nat := a + 256 * (b + 256 * c)
theorem and_sp {a m : Nat} (y k : Nat) (ha : a < 256) (hm : m < 256) : (a + 256 * y) &&& (m + 256 * k) = (a &&& m) + 256 * (y &&& k) := by
  have hl : a &&& m < 2 ^ 8 := Nat.lt_of_le_of_lt Nat.and_le_left ha
  apply Nat.eq_of_testBit_eq
  intro i
  rw [Nat.testBit_and, show a + 256 * y = 2 ^ 8 * y + a from (by omega), show m + 256 * k = 2 ^ 8 * k + m from (by omega), show (a &&& m) + 256 * (y &&& k) = 2 ^ 8 * (y &&& k) + (a &&& m) from (by omega), Nat.testBit_two_pow_mul_add _ ha, Nat.testBit_two_pow_mul_add _ hm, Nat.testBit_two_pow_mul_add _ hl, Nat.testBit_and, Nat.testBit_and]
  split <;> rfl
theorem and_B3 {a b c m : Nat} (ha : a < 256) (hb : b < 256) (hc : c < 256) (hm : m < 256) : B3 a b c &&& (m + 256 * (m + 256 * (m + 256 * m))) = B3 (a &&& m) (b &&& m) (c &&& m) := by
  unfold B3
  rw [and_sp _ _ ha hm, and_sp _ _ hb hm]
  have := and_sp 0 m hc hm
  rw [Nat.mul_zero, Nat.add_zero, Nat.zero_and, Nat.mul_zero, Nat.add_zero] at this
  rw [this]
def f1 (a : Nat) : Nat := a - ((a / 2) &&& 85)
def f2 (a : Nat) : Nat := (a &&& 51) + ((a / 4) &&& 51)
def f3 (a : Nat) : Nat := (a + a / 16) &&& 15
theorem f1_t : ∀ a, a < 256 → ∀ t, t < 2 → (a / 2 + 128 * t) &&& 85 = (a / 2) &&& 85 := by decide +kernel
theorem f2_t : ∀ a, a < 256 → ∀ t, t < 4 → (a / 4 + 64 * t) &&& 51 = (a / 4) &&& 51 := by decide +kernel
theorem f3_t : ∀ a, a < 69 → ∀ t, t < 5 → (a + a / 16 + 16 * t) &&& 15 = (a + a / 16) &&& 15 := by decide +kernel
theorem f12_le : ∀ a, a < 256 → f1 a < 256 ∧ f2 (f1 a) < 69 ∧ f2 (f1 a) % 16 < 5 := by decide +kernel
theorem f_pc : ∀ a, a < 256 → f3 (f2 (f1 a)) = pcF a.testBit 8 := by decide +kernel
theorem pcF_le (f : Nat → Bool) : ∀ n, pcF f n ≤ n := by
  intro n
  induction n with
  | zero => exact Nat.le_refl 0
  | succ n ih => unfold pcF; split <;> omega
theorem pcF_sp (f : Nat → Bool) (m : Nat) : ∀ n, pcF f (m + n) = pcF f m + pcF (fun i => f (m + i)) n := by
  intro n
  induction n with
  | zero => rfl
  | succ n ih =>
    show pcF f (m + n) + (if f (m + n) = true then 1 else 0) = pcF f m + (pcF (fun i => f (m + i)) n + (if f (m + n) = true then 1 else 0))
    rw [ih]; omega
theorem pcF_eq {f g : Nat → Bool} : ∀ n, (∀ i, i < n → f i = g i) → pcF f n = pcF g n := by
  intro n
  induction n with
  | zero => intro _; rfl
  | succ n ih =>
    intro h
    unfold pcF
    rw [ih (fun i hi => h i (by omega)), h n (by omega)]
theorem pcF_B {a : Nat} (y n : Nat) (ha : a < 256) : pcF (a + 256 * y).testBit (8 + n) = pcF a.testBit 8 + pcF y.testBit n := by
  rw [pcF_sp]
  have e : ∀ j, (a + 256 * y).testBit j = if j < 8 then a.testBit j else y.testBit (j - 8) := fun j => by
    rw [show a + 256 * y = 2 ^ 8 * y + a from (by omega), Nat.testBit_two_pow_mul_add _ ha]
  rw [pcF_eq 8 (fun i hi => by rw [e, if_pos hi]), pcF_eq n (f := fun i => (a + 256 * y).testBit (8 + i)) (g := y.testBit) (fun i hi => by
    show (a + 256 * y).testBit (8 + i) = _
    rw [e, if_neg (by omega), Nat.add_sub_cancel_left])]
theorem bc1 {a b c : Nat} (ha : a < 256) (hb : b < 256) (hc : c < 256) : bcS1 (nI (B3 a b c)) = nI (B3 (f1 a) (f1 b) (f1 c)) := by
  have hB : B3 a b c < 16777216 := by unfold B3; omega
  have e : B3 a b c >>> 1 = B3 (a / 2 + 128 * (b % 2)) (b / 2 + 128 * (c % 2)) (c / 2 + 128 * 0) := by
    rw [Nat.shiftRight_eq_div_pow]
    unfold B3
    omega
  have l1 : (a / 2) &&& 85 ≤ a / 2 := Nat.and_le_left
  have l2 : (b / 2) &&& 85 ≤ b / 2 := Nat.and_le_left
  have l3 : (c / 2) &&& 85 ≤ c / 2 := Nat.and_le_left
  unfold bcS1
  rw [nI_ushr (by omega) (by decide), show (1431655765 : Int32) = nI 1431655765 from rfl, nI_and, e, show (1431655765 : Nat) = 85 + 256 * (85 + 256 * (85 + 256 * 85)) from rfl, and_B3 (by omega) (by omega) (by omega) (by decide), f1_t a ha _ (by omega), f1_t b hb _ (by omega), f1_t c hc _ (by omega), pk_sub (by unfold B3; omega)]
  refine congrArg nI ?_
  unfold f1 B3
  omega
theorem bc2 {a b c : Nat} (ha : a < 256) (hb : b < 256) (hc : c < 256) : bcS2 (nI (B3 a b c)) = nI (B3 (f2 a) (f2 b) (f2 c)) := by
  have hB : B3 a b c < 16777216 := by unfold B3; omega
  have e : B3 a b c >>> 2 = B3 (a / 4 + 64 * (b % 4)) (b / 4 + 64 * (c % 4)) (c / 4 + 64 * 0) := by
    rw [Nat.shiftRight_eq_div_pow]
    unfold B3
    omega
  unfold bcS2
  rw [nI_ushr (by omega) (by decide), show (858993459 : Int32) = nI 858993459 from rfl, nI_and, nI_and, e, show (858993459 : Nat) = 51 + 256 * (51 + 256 * (51 + 256 * 51)) from rfl, and_B3 ha hb hc (by decide), and_B3 (by omega) (by omega) (by omega) (by decide), f2_t a ha _ (by omega), f2_t b hb _ (by omega), f2_t c hc _ (by omega), nI_add]
  refine congrArg nI ?_
  unfold f2 B3
  omega
theorem bc3 {a b c : Nat} (ha : a < 69) (hb : b < 69) (hc : c < 69) (hb2 : b % 16 < 5) (hc2 : c % 16 < 5) : bcS3 (nI (B3 a b c)) = nI (B3 (f3 a) (f3 b) (f3 c)) := by
  have hB : B3 a b c < 16777216 := by unfold B3; omega
  have e : B3 a b c + B3 a b c >>> 4 = B3 (a + a / 16 + 16 * (b % 16)) (b + b / 16 + 16 * (c % 16)) (c + c / 16 + 16 * 0) := by
    rw [Nat.shiftRight_eq_div_pow]
    unfold B3
    omega
  unfold bcS3
  rw [nI_ushr (by omega) (by decide), nI_add, show (252645135 : Int32) = nI 252645135 from rfl, nI_and, e, show (252645135 : Nat) = 15 + 256 * (15 + 256 * (15 + 256 * 15)) from rfl, and_B3 (by omega) (by omega) (by omega) (by decide), f3_t a ha _ hb2, f3_t b hb _ hc2, f3_t c hc _ (by omega)]
  rfl
theorem bc45 {a b c : Nat} (ha : a < 16) (hb : b < 16) (hc : c < 16) : bcS5 (bcS4 (nI (B3 a b c))) &&& nI 63 = nI (a + b + c) := by
  have hB : B3 a b c < 16777216 := by unfold B3; omega
  have e : B3 a b c + B3 a b c >>> 8 = B3 (a + b) (b + c) c := by
    rw [Nat.shiftRight_eq_div_pow]
    unfold B3
    omega
  have e2 : B3 (a + b) (b + c) c + B3 (a + b) (b + c) c >>> 16 = B3 (a + b + c) (b + c) c := by
    rw [Nat.shiftRight_eq_div_pow]
    unfold B3
    omega
  unfold bcS4 bcS5
  rw [nI_ushr (by omega) (by decide), nI_add, e, nI_ushr (by unfold B3; omega) (by decide), nI_add, e2, nI_and]
  refine congrArg nI ?_
  have := Nat.and_two_pow_sub_one_eq_mod (B3 (a + b + c) (b + c) c) 6
  rw [show (63 : Nat) = 2 ^ 6 - 1 from rfl, this]
  unfold B3
  omega
theorem f_lt {a : Nat} (ha : a < 256) : f3 (f2 (f1 a)) < 16 := by
  rw [f_pc a ha]
  have := pcF_le a.testBit 8
  omega
theorem bc_eq {n : Nat} (h : n < 16777216) : bcF (nI n) = nI (pcF n.testBit 24) := by
  have hn : n = B3 (n % 256) (n / 256 % 256) (n / 65536) := by unfold B3; omega
  have ha : n % 256 < 256 := by omega
  have hb : n / 256 % 256 < 256 := by omega
  have hc : n / 65536 < 256 := by omega
  obtain ⟨a, ea⟩ : ∃ z, z = n % 256 := ⟨_, rfl⟩
  obtain ⟨b, eb⟩ : ∃ z, z = n / 256 % 256 := ⟨_, rfl⟩
  obtain ⟨c, ec⟩ : ∃ z, z = n / 65536 := ⟨_, rfl⟩
  rw [← ea, ← eb, ← ec] at hn
  rw [← ea] at ha
  rw [← eb] at hb
  rw [← ec] at hc
  obtain ⟨p1, p2, p3⟩ := f12_le a ha
  obtain ⟨q1, q2, q3⟩ := f12_le b hb
  obtain ⟨r1, r2, r3⟩ := f12_le c hc
  unfold bcF
  rw [hn, bc1 ha hb hc, bc2 p1 q1 r1, bc3 p2 q2 r2 q3 r3, bc45 (f_lt ha) (f_lt hb) (f_lt hc), f_pc a ha, f_pc b hb, f_pc c hc]
  refine congrArg nI ?_
  unfold B3
  rw [show (24 : Nat) = 8 + (8 + 8) from rfl, pcF_B _ _ ha, pcF_B _ _ hb]
  omega
/-! reach -/
theorem or_it {f : Nat → Nat → Nat} {g : Nat → Bool} {s : Nat} (hf : ∀ k w, f k w = w ||| (if g k = true then 1 <<< (s + k) else 0)) : ∀ (n k w i : Nat), (itN f n k w).testBit i = (w.testBit i || (decide (s + k ≤ i ∧ i < s + k + n) && g (i - s))) := by
  intro n
  induction n with
  | zero =>
    intro k w i
    show w.testBit i = _
    rw [decide_eq_false (by omega), Bool.false_and, Bool.or_false]
  | succ n ih =>
    intro k w i
    show (itN f n (k + 1) (f k w)).testBit i = _
    rw [ih, hf, Nat.testBit_or, Bool.or_assoc]
    refine congrArg _ ?_
    by_cases e : i = s + k
    · subst e
      rw [decide_eq_false (by omega), Bool.false_and, Bool.or_false, decide_eq_true (by omega), Bool.true_and, Nat.add_sub_cancel_left]
      cases hg : g k with
      | true => rw [if_pos rfl, Nat.one_shiftLeft, Nat.testBit_two_pow, decide_eq_true rfl]
      | false => rw [if_neg (by decide), Nat.zero_testBit]
    · have e2 : (if g k = true then 1 <<< (s + k) else 0).testBit i = false := by
        split
        · rw [Nat.one_shiftLeft, Nat.testBit_two_pow, decide_eq_false (fun z => e z.symm)]
        · rw [Nat.zero_testBit]
      rw [e2, Bool.false_or]
      by_cases h : s + k ≤ i ∧ i < s + k + (n + 1)
      · rw [decide_eq_true h, decide_eq_true (by omega)]
      · rw [decide_eq_false h, decide_eq_false (by omega)]
theorem rc_eq {c : CS} {ρ : MS} (h1 : ∀ i, i < 6 → gmmd ρ i = (gcma c).testBit i) (h2 : ∀ b, b < 24 → gmrd ρ b = (gcre c).testBit b) (hm : gcma c < 64) (hr : gcre c < 16777216) : rcF ρ = gcma c ||| gcre c <<< 8 := by
  apply Nat.eq_of_testBit_eq
  intro i
  unfold rcF
  rw [or_it (f := rrS ρ) (g := gmrd ρ) (s := 8) (fun k w => rfl), or_it (f := rcS ρ) (g := gmmd ρ) (s := 0) (fun k w => by unfold rcS; rw [Nat.zero_add]), Nat.zero_testBit, Bool.false_or, Nat.testBit_or, Nat.testBit_shiftLeft]
  have e1 : (decide (0 + 0 ≤ i ∧ i < 0 + 0 + 6) && gmmd ρ (i - 0)) = (gcma c).testBit i := by
    by_cases hi : i < 6
    · rw [decide_eq_true (by omega), Bool.true_and, Nat.sub_zero, h1 i hi]
    · rw [decide_eq_false (by omega), Bool.false_and]
      cases e : (gcma c).testBit i with
      | false => rfl
      | true => exact absurd (tb_lt (n := 6) hm e) hi
  have e2 : (decide (8 + 0 ≤ i ∧ i < 8 + 0 + 24) && gmrd ρ (i - 8)) = (decide (i ≥ 8) && (gcre c).testBit (i - 8)) := by
    by_cases hi : 8 ≤ i
    · rw [decide_eq_true (show i ≥ 8 from hi), Bool.true_and]
      by_cases hj : i - 8 < 24
      · rw [decide_eq_true (by omega), Bool.true_and, h2 _ hj]
      · rw [decide_eq_false (by omega), Bool.false_and]
        cases e : (gcre c).testBit (i - 8) with
        | false => rfl
        | true => exact absurd (tb_lt (n := 24) hr e) hj
    · rw [decide_eq_false (by omega), decide_eq_false (by omega), Bool.false_and, Bool.false_and]
  rw [e1, e2]
/-! the law's invariant, and shape -/
def BR (c : CS) (ρ : MS) : Prop := (∀ i, i < 6 → gmmd ρ i = (gcma c).testBit i) ∧ (∀ b, b < 24 → gmrd ρ b = (gcre c).testBit b) ∧ gcma c < 64 ∧ gcre c < 16777216
def LI (c : CS) (ρ : MS) : Prop := XZ c ρ ∧ RI c ∧ BR c ρ
theorem shape_top {c : CS} {ρ : MS} (h : LI c ρ) : LI (rnF c) (shZ ρ).2 ∧ bcF (nI (gcre (rnF c))) = nI (shZ ρ).1 := by
  obtain ⟨hX, hR, hB⟩ := h
  have hI := hR.1.1
  have hW := hR.1.2
  have hPR := hX.2.1
  obtain ⟨τ, hτ, s1, s2, s3⟩ := ver_c hI hW hR.2.1
  have zc : Zc c (rnF c) := sc_rn (SC_Z c) (Zc_rf c)
  have pc : Pc c (rnF c) := sc_rn (SC_P c) (Pc_rf c)
  have zm : Zm ρ (shZ ρ).2 := sm_shZ (SM_Z ρ) (Zm_rf ρ)
  have pm : Pm ρ (shZ ρ).2 := sm_shZ (SM_P ρ) (Pm_rf ρ)
  have pw : Pm ρ (shW ρ) := sm_shW (SM_P ρ) (Pm_rf ρ)
  obtain ⟨d, hd⟩ : ∃ z, z = scV c (fillF (gcV c) 0 240 0) := ⟨_, rfl⟩
  have pd : Pc c d := by rw [hd]; exact Pc_rf c
  rw [← hd] at hτ
  have hId := PI_P ⟨hI, hW⟩ pd
  have hPd : PR d ρ := PR_of hPR pd (Pm_rf ρ)
  have fx := fix_eq hId.1 hId.2 hPd
  have pt : Pc d τ := by rw [hτ]; exact sc_frF (SC_P d) (Pc_rf d)
  have hB2 := (Kp_frF hId.1 hId.2).2.2.1
  rw [← hτ] at fx hB2
  have hIt := PI_P hId pt
  have hPt : PR τ (shW ρ) := PR_of hPd pt pw
  obtain ⟨w1, w2⟩ := shW_chsi ρ
  have vm := ver_m hIt.1 hIt.2 hPt fx.1 fx.2 (fun i => by rw [w2]; exact hX.2.2.2 i)
  have e0 : shZ ρ = itN shO 24 0 (0, shW ρ) := rfl
  rw [← e0] at vm
  obtain ⟨m1, m2, m3, m4⟩ := vm
  refine ⟨⟨⟨RZ_of hX.1 zc zm, PR_of hPR pc pm, ?_, m3⟩, RI_Z hR pc zc s2, ?_⟩, ?_⟩
  · intro b k hk
    rw [pc.2.1] at hk
    have hb : b < 24 := by
      apply Nat.lt_of_not_le
      intro hb
      have h5 := hPR.2.2.2.2.1 b (by have := hI.2.2.2.2; omega)
      omega
    rw [s3 b k hb hk]
    have hkt : k < gcL τ b := by rw [pt.2.1, pd.2.1]; exact hk
    unfold siF
    rw [m2.2.2.1, m2.2.2.2, w1 b hb, fx.2 b hb, m4 b k hb hkt]
    by_cases hr : (gcre τ).testBit b = true
    · rw [if_pos ⟨hr, rfl⟩]
    · rw [if_neg (fun z => hr z.1)]
      unfold vtF
      rw [if_neg hr]
  · unfold BR
    rw [s1.2.1, s1.2.2, m2.2.1, m2.2.2.1]
    exact ⟨fx.1, fx.2, hB2.1, hB2.2.1⟩
  · rw [s1.2.2, m1]
    exact bc_eq hB2.2.1
