/-! which classes are made and which bodies reached: both sides find the least closed sets -/
theorem tb_or1 (a k i : Nat) : (a ||| 1 <<< k).testBit i = true ↔ a.testBit i = true ∨ i = k := by
  rw [Nat.testBit_or, Nat.one_shiftLeft, Nat.testBit_two_pow, Bool.or_eq_true, decide_eq_true_eq]
  exact ⟨fun h => h.elim Or.inl (fun e => Or.inr e.symm), fun h => h.elim Or.inl (fun e => Or.inr e.symm)⟩
theorem tb_ts (σ : CS) (t q i : Nat) : (tsF σ t q).testBit i = true ↔ tgC σ t q = some i := by
  unfold tsF
  cases h : tgC σ t q with
  | none => simp
  | some k =>
    simp only []
    rw [Nat.one_shiftLeft, Nat.testBit_two_pow, decide_eq_true_eq]
    exact ⟨fun e => by rw [e], fun e => Option.some.inj e⟩
theorem tb_lt {a n i : Nat} (h : a < 2 ^ n) (hi : a.testBit i = true) : i < n := by
  apply Nat.lt_of_not_le
  intro hn
  rw [Nat.testBit_lt_two_pow (Nat.lt_of_lt_of_le h (Nat.pow_le_pow_right (by decide) hn))] at hi
  cases hi
def Cl (σ : CS) (M R : Nat → Prop) : Prop := M 0 ∧ (∀ b, tgC σ 0 0 = some b → R b) ∧ (∀ b k, R b → k < gcL σ b → gcK σ (b * 10 + k) = 4 → M (yN σ (b * 10 + k))) ∧ (∀ b k t u, R b → k < gcL σ b → gcK σ (b * 10 + k) = 7 → t < 6 → M t → tgC σ t (zN σ (b * 10 + k)) = some u → R u)
theorem Kp_y {σ τ : CS} (h : Kp σ τ) (p : Nat) : yN τ p = yN σ p := by unfold yN; rw [h.2.2.2.2.2.2.2.1]
theorem Kp_z {σ τ : CS} (h : Kp σ τ) (p : Nat) : zN τ p = zN σ p := by unfold zN; rw [h.2.2.2.2.2.2.2.2.1]
theorem Kp_K {σ τ : CS} (h : Kp σ τ) : gcK τ = gcK σ := h.2.2.2.2.2.1
theorem Kp_L {σ τ : CS} (h : Kp σ τ) : gcL τ = gcL σ := h.2.2.2.1
theorem Kp_tg {σ τ : CS} (h : Kp σ τ) (t q : Nat) : tgC τ t q = tgC σ t q := by unfold tgC; rw [h.2.2.2.1, h.2.2.2.2.1]
/-- what the class has found lies in every closed pair of sets -/
def Sd (σ : CS) (M R : Nat → Prop) (τ : CS) : Prop := (∀ i, (gcma τ).testBit i = true → M i) ∧ (∀ b, (gcre τ).testBit b = true → R b) ∧ (∀ q, (gcca τ).testBit q = true → ∃ b k, R b ∧ k < gcL σ b ∧ gcK σ (b * 10 + k) = 7 ∧ zN σ (b * 10 + k) = q)
theorem Sd_rb {σ τ : CS} {M R : Nat → Prop} {b k : Nat} (hC : Cl σ M R) (hP : Kp σ τ) (h : Sd σ M R τ) (hb : R b) (hk : k < gcL σ b) : Sd σ M R (rbS b k τ) := by
  unfold rbS
  rw [Kp_K hP]
  by_cases h4 : gcK σ (b * 10 + k) = 4
  · rw [if_pos h4]
    refine ⟨fun i hi => ?_, h.2.1, h.2.2⟩
    rw [gs_ma_ma, tb_or1] at hi
    rcases hi with hi | hi
    · exact h.1 i hi
    · rw [hi, Kp_y hP]; exact hC.2.2.1 b k hb hk h4
  · rw [if_neg h4]
    by_cases h7 : gcK σ (b * 10 + k) = 7
    · rw [if_pos h7]
      refine ⟨h.1, h.2.1, fun q hq => ?_⟩
      rw [gs_ca_ca, tb_or1] at hq
      rcases hq with hq | hq
      · exact h.2.2 q hq
      · exact ⟨b, k, hb, hk, h7, by rw [hq, Kp_z hP]⟩
    · rw [if_neg h7]; exact h
theorem Sd_rs {σ τ : CS} {M R : Nat → Prop} {fr b : Nat} (hC : Cl σ M R) (hf : ∀ b, fr.testBit b = true → R b) (h : Kp σ τ ∧ Sd σ M R τ) : Kp σ (rsS fr b τ) ∧ Sd σ M R (rsS fr b τ) := by
  unfold rsS
  by_cases h1 : fr.testBit b = true
  · rw [if_pos h1]
    unfold rbF
    rw [Kp_L h.1]
    exact itN_inv (fun x => Kp σ x ∧ Sd σ M R x) (N := gcL σ b) (fun k x hk hx => ⟨Kp_rb hx.1, Sd_rb hC hx.1 hx.2 (hf b h1) hk⟩) _ 0 τ (by omega) h
  · rw [if_neg h1]; exact h
theorem Sd_rsF {σ τ : CS} {M R : Nat → Prop} {fr : Nat} (hC : Cl σ M R) (hf : ∀ b, fr.testBit b = true → R b) (h : Kp σ τ ∧ Sd σ M R τ) : Kp σ (rsF fr τ) ∧ Sd σ M R (rsF fr τ) := itN_inv (fun x => Kp σ x ∧ Sd σ M R x) (N := 24) (fun k x _ hx => Sd_rs hC hf hx) 24 0 τ (by omega) h
theorem Sd_rt {σ τ : CS} {M R : Nat → Prop} {t q : Nat} (hC : Cl σ M R) (ht : t < 6) (hq : q < 4) (h : Kp σ τ ∧ Sd σ M R τ) : Kp σ (rtS t q τ) ∧ Sd σ M R (rtS t q τ) := by
  refine ⟨Kp_rt ht hq h.1, ?_⟩
  unfold rtS
  by_cases h1 : (gcma τ).testBit t = true
  · rw [if_pos h1]
    by_cases h2 : (gcca τ).testBit q = true
    · rw [if_pos h2]
      refine ⟨h.2.1, fun i hi => ?_, h.2.2.2⟩
      rw [gs_re_re, Nat.testBit_or, Bool.or_eq_true, tb_ts, Kp_tg h.1] at hi
      rcases hi with hi | hi
      · exact h.2.2.1 i hi
      · obtain ⟨b, k, g1, g2, g3, g4⟩ := h.2.2.2 q h2
        exact hC.2.2.2 b k t i g1 g2 g3 ht (h.2.1 t h1) (by rw [g4]; exact hi)
    · rw [if_neg h2]; exact h.2
  · rw [if_neg h1]; exact h.2
theorem Sd_rtF {σ τ : CS} {M R : Nat → Prop} (hC : Cl σ M R) (h : Kp σ τ ∧ Sd σ M R τ) : Kp σ (rtF τ) ∧ Sd σ M R (rtF τ) := itN_inv (fun x => Kp σ x ∧ Sd σ M R x) (N := 6) (fun t x ht hx => itN_inv (fun x => Kp σ x ∧ Sd σ M R x) (N := 4) (fun q y hq hy => Sd_rt hC ht hq hy) 4 0 x (by omega) hx) 6 0 τ (by omega) h
theorem Sd_frL {σ : CS} {M R : Nat → Prop} (hC : Cl σ M R) : ∀ (n rd : Nat) (τ : CS), Kp σ τ ∧ Sd σ M R τ → Sd σ M R (frL n rd τ) := by
  intro n
  induction n with
  | zero => intro rd τ h; exact h.2
  | succ n ih =>
    intro rd τ h
    unfold frL
    by_cases e : rd = gcre τ
    · rw [if_pos e]; exact h.2
    · rw [if_neg e]
      refine ih _ _ (Sd_rtF hC (Sd_rsF hC (fun b hb => ?_) h))
      rw [Nat.testBit_and, Bool.and_eq_true] at hb
      exact h.2.2.1 b hb.1
theorem Sd_frF {σ : CS} {M R : Nat → Prop} (hI : PI σ) (hW : WI σ) (hC : Cl σ M R) : Sd σ M R (frF σ) := by
  refine Sd_frL hC 24 0 (fr0 σ) ⟨Kp_fr0 hI hW, ?_⟩
  unfold fr0
  refine ⟨fun i hi => ?_, fun b hb => ?_, fun q hq => ?_⟩
  · rw [gs_ma_re, gs_ma_ca, gs_ma_ma, show (1 : Nat) = 2 ^ 0 from rfl, Nat.testBit_two_pow, decide_eq_true_eq] at hi
    rw [← hi]; exact hC.1
  · rw [gs_re_re, tb_ts] at hb
    exact hC.2.1 b hb
  · rw [gs_ca_re, gs_ca_ca, Nat.zero_testBit] at hq
    cases hq
/-! the class's sets are closed -/
def R1 (σ τ : CS) (b k : Nat) : Prop := (gcK σ (b * 10 + k) = 4 → (gcma τ).testBit (yN σ (b * 10 + k)) = true) ∧ (gcK σ (b * 10 + k) = 7 → (gcca τ).testBit (zN σ (b * 10 + k)) = true)
def Mo (τ π : CS) : Prop := (∀ i, (gcma τ).testBit i = true → (gcma π).testBit i = true) ∧ (∀ i, (gcca τ).testBit i = true → (gcca π).testBit i = true) ∧ (∀ i, (gcre τ).testBit i = true → (gcre π).testBit i = true)
theorem Mo_rf (τ : CS) : Mo τ τ := ⟨fun _ h => h, fun _ h => h, fun _ h => h⟩
theorem Mo_tr {a b c : CS} (h : Mo a b) (k : Mo b c) : Mo a c := ⟨fun i q => k.1 i (h.1 i q), fun i q => k.2.1 i (h.2.1 i q), fun i q => k.2.2 i (h.2.2 i q)⟩
theorem R1_mo {σ τ π : CS} {b k : Nat} (h : Mo τ π) (r : R1 σ τ b k) : R1 σ π b k := ⟨fun e => h.1 _ (r.1 e), fun e => h.2.1 _ (r.2 e)⟩
theorem Mo_rb {σ τ : CS} {b k : Nat} (hP : Kp σ τ) : Mo τ (rbS b k τ) ∧ gcre (rbS b k τ) = gcre τ ∧ R1 σ (rbS b k τ) b k := by
  unfold rbS
  rw [Kp_K hP, Kp_y hP, Kp_z hP]
  by_cases h4 : gcK σ (b * 10 + k) = 4
  · rw [if_pos h4]
    refine ⟨⟨fun i hi => ?_, fun _ h => h, fun _ h => h⟩, rfl, fun _ => ?_, fun e => by omega⟩
    · rw [gs_ma_ma, tb_or1]; exact Or.inl hi
    · rw [gs_ma_ma, tb_or1]; exact Or.inr rfl
  · rw [if_neg h4]
    by_cases h7 : gcK σ (b * 10 + k) = 7
    · rw [if_pos h7]
      refine ⟨⟨fun _ h => h, fun i hi => ?_, fun _ h => h⟩, rfl, fun e => by omega, fun _ => ?_⟩
      · rw [gs_ca_ca, tb_or1]; exact Or.inl hi
      · rw [gs_ca_ca, tb_or1]; exact Or.inr rfl
    · rw [if_neg h7]
      exact ⟨Mo_rf τ, rfl, fun e => absurd e h4, fun e => absurd e h7⟩
theorem Mo_rs {σ τ : CS} {fr b : Nat} (hP : Kp σ τ) : Kp σ (rsS fr b τ) ∧ Mo τ (rsS fr b τ) ∧ gcre (rsS fr b τ) = gcre τ ∧ (fr.testBit b = true → ∀ k, k < gcL σ b → R1 σ (rsS fr b τ) b k) := by
  unfold rsS
  by_cases h1 : fr.testBit b = true
  · rw [if_pos h1]
    unfold rbF
    rw [Kp_L hP]
    have q := itN_ind (fun k x => Kp σ x ∧ Mo τ x ∧ gcre x = gcre τ ∧ ∀ j, j < k → R1 σ x b j) (f := rbS b) (N := gcL σ b) (fun k x hk hx => by
      have m := Mo_rb (b := b) (k := k) hx.1
      refine ⟨Kp_rb hx.1, Mo_tr hx.2.1 m.1, m.2.1.trans hx.2.2.1, fun j hj => ?_⟩
      by_cases e : j = k
      · rw [e]; exact m.2.2
      · exact R1_mo m.1 (hx.2.2.2 j (by omega))) (gcL σ b) 0 τ (by omega) ⟨hP, Mo_rf τ, rfl, fun j hj => absurd hj (Nat.not_lt_zero _)⟩
    rw [Nat.zero_add] at q
    exact ⟨q.1, q.2.1, q.2.2.1, fun _ => q.2.2.2⟩
  · rw [if_neg h1]
    exact ⟨hP, Mo_rf τ, rfl, fun e => absurd e h1⟩
theorem Mo_rsF {σ τ : CS} {fr : Nat} (hP : Kp σ τ) : Kp σ (rsF fr τ) ∧ Mo τ (rsF fr τ) ∧ gcre (rsF fr τ) = gcre τ ∧ (∀ b, b < 24 → fr.testBit b = true → ∀ k, k < gcL σ b → R1 σ (rsF fr τ) b k) := by
  have q := itN_ind (fun b x => Kp σ x ∧ Mo τ x ∧ gcre x = gcre τ ∧ ∀ j, j < b → fr.testBit j = true → ∀ k, k < gcL σ j → R1 σ x j k) (f := rsS fr) (N := 24) (fun b x hb hx => by
    have m := Mo_rs (fr := fr) (b := b) hx.1
    refine ⟨m.1, Mo_tr hx.2.1 m.2.1, m.2.2.1.trans hx.2.2.1, fun j hj hf k hk => ?_⟩
    by_cases e : j = b
    · subst e; exact m.2.2.2 hf k hk
    · exact R1_mo m.2.1 (hx.2.2.2 j (by omega) hf k hk)) 24 0 τ (by omega) ⟨hP, Mo_rf τ, rfl, fun j hj => absurd hj (Nat.not_lt_zero _)⟩
  exact q
theorem Mo_rt {σ τ : CS} {t q : Nat} (ht : t < 6) (hq : q < 4) (hP : Kp σ τ) : Kp σ (rtS t q τ) ∧ Mo τ (rtS t q τ) ∧ gcma (rtS t q τ) = gcma τ ∧ gcca (rtS t q τ) = gcca τ ∧ ((gcma τ).testBit t = true → (gcca τ).testBit q = true → ∀ u, tgC σ t q = some u → (gcre (rtS t q τ)).testBit u = true) := by
  refine ⟨Kp_rt ht hq hP, ?_⟩
  unfold rtS
  by_cases h1 : (gcma τ).testBit t = true
  · rw [if_pos h1]
    by_cases h2 : (gcca τ).testBit q = true
    · rw [if_pos h2]
      refine ⟨⟨fun _ h => h, fun _ h => h, fun i hi => ?_⟩, rfl, rfl, fun _ _ u hu => ?_⟩
      · rw [gs_re_re, Nat.testBit_or, hi]; rfl
      · rw [gs_re_re, Nat.testBit_or, (tb_ts τ t q u).mpr (by rw [Kp_tg hP]; exact hu), Bool.or_true]
    · rw [if_neg h2]; exact ⟨Mo_rf τ, rfl, rfl, fun _ e => absurd e h2⟩
  · rw [if_neg h1]; exact ⟨Mo_rf τ, rfl, rfl, fun e => absurd e h1⟩
theorem Mo_rt4 {σ τ : CS} {t : Nat} (ht : t < 6) (hP : Kp σ τ) : Kp σ (itN (rtS t) 4 0 τ) ∧ Mo τ (itN (rtS t) 4 0 τ) ∧ gcma (itN (rtS t) 4 0 τ) = gcma τ ∧ gcca (itN (rtS t) 4 0 τ) = gcca τ ∧ (∀ q, q < 4 → (gcma τ).testBit t = true → (gcca τ).testBit q = true → ∀ u, tgC σ t q = some u → (gcre (itN (rtS t) 4 0 τ)).testBit u = true) := by
  have q := itN_ind (fun k x => Kp σ x ∧ Mo τ x ∧ gcma x = gcma τ ∧ gcca x = gcca τ ∧ (∀ q, q < k → (gcma τ).testBit t = true → (gcca τ).testBit q = true → ∀ u, tgC σ t q = some u → (gcre x).testBit u = true)) (f := rtS t) (N := 4) (fun k x hk hx => by
    have m := Mo_rt ht hk hx.1
    refine ⟨m.1, Mo_tr hx.2.1 m.2.1, m.2.2.1.trans hx.2.2.1, m.2.2.2.1.trans hx.2.2.2.1, fun j hj a1 a2 u hu => ?_⟩
    by_cases e : j = k
    · subst e; exact m.2.2.2.2 (by rw [hx.2.2.1]; exact a1) (by rw [hx.2.2.2.1]; exact a2) u hu
    · exact m.2.1.2.2 u (hx.2.2.2.2 j (by omega) a1 a2 u hu)) 4 0 τ (by omega) ⟨hP, Mo_rf τ, rfl, rfl, fun j hj => absurd hj (Nat.not_lt_zero _)⟩
  exact q
theorem Mo_rtF {σ τ : CS} (hP : Kp σ τ) : Kp σ (rtF τ) ∧ Mo τ (rtF τ) ∧ gcma (rtF τ) = gcma τ ∧ gcca (rtF τ) = gcca τ ∧ (∀ t q, t < 6 → q < 4 → (gcma τ).testBit t = true → (gcca τ).testBit q = true → ∀ u, tgC σ t q = some u → (gcre (rtF τ)).testBit u = true) := by
  have q := itN_ind (fun k x => Kp σ x ∧ Mo τ x ∧ gcma x = gcma τ ∧ gcca x = gcca τ ∧ (∀ t, t < k → ∀ q, q < 4 → (gcma τ).testBit t = true → (gcca τ).testBit q = true → ∀ u, tgC σ t q = some u → (gcre x).testBit u = true)) (f := fun t τ => itN (rtS t) 4 0 τ) (N := 6) (fun k x hk hx => by
    have m := Mo_rt4 hk hx.1
    refine ⟨m.1, Mo_tr hx.2.1 m.2.1, m.2.2.1.trans hx.2.2.1, m.2.2.2.1.trans hx.2.2.2.1, fun j hj q hq a1 a2 u hu => ?_⟩
    by_cases e : j = k
    · subst e; exact m.2.2.2.2 q hq (by rw [hx.2.2.1]; exact a1) (by rw [hx.2.2.2.1]; exact a2) u hu
    · exact m.2.1.2.2 u (hx.2.2.2.2 j (by omega) q hq a1 a2 u hu)) 6 0 τ (by omega) ⟨hP, Mo_rf τ, rfl, rfl, fun j hj => absurd hj (Nat.not_lt_zero _)⟩
  exact ⟨q.1, q.2.1, q.2.2.1, q.2.2.2.1, fun t k ht hk => q.2.2.2.2 t ht k hk⟩
theorem cF_le2 {f g : Nat → Bool} : ∀ n, (∀ i, i < n → f i = true → g i = true) → cF g n ≤ cF f n := by
  intro n
  induction n with
  | zero => intro _; exact Nat.le_refl 0
  | succ n ih =>
    intro h
    have q := ih (fun i hi => h i (by omega))
    unfold cF
    by_cases e : f n = true
    · rw [if_pos e, if_pos (h n (by omega) e)]; omega
    · rw [if_neg e]; split <;> omega
theorem cF_lt {f g : Nat → Bool} {k : Nat} : ∀ n, (∀ i, i < n → f i = true → g i = true) → k < n → g k = true → f k = false → cF g n < cF f n := by
  intro n
  induction n with
  | zero => intro _ h; omega
  | succ n ih =>
    intro h hk hg hf
    unfold cF
    by_cases e : k = n
    · subst e
      have q := cF_le2 k (fun i hi => h i (by omega))
      rw [if_pos hg, hf]
      simp
      omega
    · have q := ih (fun i hi => h i (by omega)) (by omega) hg hf
      by_cases e2 : f n = true
      · rw [if_pos e2, if_pos (h n (by omega) e2)]; omega
      · rw [if_neg e2]; split <;> omega
theorem cF_all {f : Nat → Bool} : ∀ n, cF f n = 0 → ∀ i, i < n → f i = true := by
  intro n
  induction n with
  | zero => intro _ i hi; omega
  | succ n ih =>
    intro h i hi
    unfold cF at h
    by_cases e : f n = true
    · by_cases e2 : i = n
      · rw [e2]; exact e
      · exact ih (by omega) i (by omega)
    · rw [if_neg e] at h; omega
theorem cF_tb {a b : Nat} (ha : a < 16777216) (hb : b < 16777216) (h : ∀ i, a.testBit i = true → b.testBit i = true) (hne : a ≠ b) : cF b.testBit 24 < cF a.testBit 24 := by
  have hex : ∃ i, b.testBit i = true ∧ a.testBit i = false := Classical.byContradiction fun hn => hne (Nat.eq_of_testBit_eq fun i => by
    cases h1 : a.testBit i with
    | true => rw [h i h1]
    | false =>
      cases h2 : b.testBit i with
      | false => rfl
      | true => exact absurd ⟨i, h2, h1⟩ hn)
  obtain ⟨i, h1, h2⟩ := hex
  exact cF_lt 24 (fun j _ hj => h j hj) (tb_lt (n := 24) hb h1) h1 h2
theorem Cl_of {σ τ : CS} (hP : Kp σ τ) (h1 : ∀ b, (gcre τ).testBit b = true → ∀ k, k < gcL σ b → R1 σ τ b k) (h2 : ∀ t q, t < 6 → q < 4 → (gcma τ).testBit t = true → (gcca τ).testBit q = true → ∀ u, tgC σ t q = some u → (gcre τ).testBit u = true) (h3 : (gcma τ).testBit 0 = true) (h4 : ∀ b, tgC σ 0 0 = some b → (gcre τ).testBit b = true) : Cl σ (fun i => (gcma τ).testBit i = true) (fun b => (gcre τ).testBit b = true) := by
  refine ⟨h3, h4, fun b k hb hk e => (h1 b hb k hk).1 e, fun b k t u hb hk e ht hm hu => ?_⟩
  have hz : zN σ (b * 10 + k) < 4 := by
    have := (WI_z4 hP.2.1 (p := b * 10 + k) (by rw [Kp_K hP]; exact e)).2
    rw [Kp_z hP] at this
    exact this
  exact h2 t (zN σ (b * 10 + k)) ht hz hm ((h1 b hb k hk).2 e) u hu
theorem fresh_tb {a rd i : Nat} (hi : i < 32) : (a &&& (rd ^^^ 4294967295)).testBit i = true ↔ a.testBit i = true ∧ ¬ rd.testBit i = true := by
  rw [Nat.testBit_and, Nat.testBit_xor, show (4294967295 : Nat) = 2 ^ 32 - 1 from rfl, Nat.testBit_two_pow_sub_one, decide_eq_true hi, Bool.and_eq_true]
  cases rd.testBit i <;> simp
theorem Cl_frL {σ : CS} : ∀ (n rd : Nat) (τ : CS), Kp σ τ → rd < 16777216 → (∀ b, rd.testBit b = true → ∀ k, k < gcL σ b → R1 σ τ b k) → (∀ b, rd.testBit b = true → (gcre τ).testBit b = true) → (∀ t q, t < 6 → q < 4 → (gcma τ).testBit t = true → (gcca τ).testBit q = true → ∀ u, tgC σ t q = some u → (gcre τ).testBit u = true) → cF rd.testBit 24 ≤ n → (gcma τ).testBit 0 = true → (∀ b, tgC σ 0 0 = some b → (gcre τ).testBit b = true) → Cl σ (fun i => (gcma (frL n rd τ)).testBit i = true) (fun b => (gcre (frL n rd τ)).testBit b = true) := by
  intro n
  induction n with
  | zero =>
    intro rd τ hP hrd h1 h2 h3 hc h5 h6
    refine Cl_of hP (fun b hb => h1 b ?_) h3 h5 h6
    exact cF_all 24 (Nat.le_zero.mp hc) b (tb_lt (n := 24) hP.2.2.1.2.1 hb)
  | succ n ih =>
    intro rd τ hP hrd h1 h2 h3 hc h5 h6
    unfold frL
    by_cases e : rd = gcre τ
    · rw [if_pos e]
      exact Cl_of hP (fun b hb => h1 b (by rw [e]; exact hb)) h3 h5 h6
    · rw [if_neg e]
      have a := Mo_rsF (fr := gcre τ &&& (rd ^^^ 4294967295)) hP
      have b := Mo_rtF a.1
      have m := Mo_tr a.2.1 b.2.1
      have hlt := cF_tb hrd hP.2.2.1.2.1 h2 e
      refine ih (gcre τ) _ b.1 hP.2.2.1.2.1 (fun j hj k hk => ?_) m.2.2 ?_ (by omega) (m.1 0 h5) (fun j hj => m.2.2 j (h6 j hj))
      · by_cases hr : rd.testBit j = true
        · exact R1_mo m (h1 j hr k hk)
        · have hj24 := tb_lt (n := 24) hP.2.2.1.2.1 hj
          exact R1_mo b.2.1 (a.2.2.2 j hj24 ((fresh_tb (by omega)).mpr ⟨hj, hr⟩) k hk)
      · intro t q ht hq g1 g2 u hu
        rw [b.2.2.1] at g1
        rw [b.2.2.2.1] at g2
        exact b.2.2.2.2 t q ht hq g1 g2 u hu
theorem Cl_frF {σ : CS} (hI : PI σ) (hW : WI σ) : Cl σ (fun i => (gcma (frF σ)).testBit i = true) (fun b => (gcre (frF σ)).testBit b = true) := by
  refine Cl_frL 24 0 (fr0 σ) (Kp_fr0 hI hW) (by decide) (fun b hb => by rw [Nat.zero_testBit] at hb; cases hb) (fun b hb => by rw [Nat.zero_testBit] at hb; cases hb) ?_ (cF_le _ _) ?_ ?_
  · unfold fr0
    intro t q _ _ _ g2
    rw [gs_ca_re, gs_ca_ca, Nat.zero_testBit] at g2
    cases g2
  · unfold fr0
    rw [gs_ma_re, gs_ma_ca, gs_ma_ma]
    rfl
  · unfold fr0
    intro b hb
    rw [gs_re_re, tb_ts]
    exact hb
