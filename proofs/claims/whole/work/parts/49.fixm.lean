/-! the reference's sets: in every closed pair, and closed -/
def Sm (M R : Nat → Prop) (τ : MS) : Prop := (∀ i, i < 6 → gmmd τ i = true → M i) ∧ (∀ b, b < 24 → gmrd τ b = true → R b)
def Ex (c : CS) (R : Nat → Prop) (q : Nat) : Prop := ∃ b k, R b ∧ k < gcL c b ∧ gcK c (b * 10 + k) = 7 ∧ zN c (b * 10 + k) = q
theorem sm_PR (c : CS) : SM (PR c) := ⟨fun _ _ h => h, fun _ _ h => h, fun _ _ h => h, fun _ _ h => h, fun _ _ h => h, fun _ _ h => h⟩
theorem up_t {f : Nat → Bool} {k i : Nat} (h : va_up f k true i = true) : f i = true ∨ i = k := by
  unfold va_up at h
  by_cases e : i = k
  · exact Or.inr e
  · rw [if_neg e] at h; exact Or.inl h
theorem t_up {f : Nat → Bool} (k : Nat) {i : Nat} (h : f i = true) : va_up f k true i = true := va_up_i f k true i (fun z => z = true) rfl h
theorem Sm_ra {c : CS} {M R : Nat → Prop} {q k : Nat} {s : Bool × MS} (hC : Cl c M R) (hq4 : q < 4) (hq : Ex c R q) (hk : k < 6) (h : PR c s.2 ∧ Sm M R s.2) : PR c (raS q k s).2 ∧ Sm M R (raS q k s).2 := by
  refine ⟨sm_ra (sm_PR c) h.1, ?_⟩
  unfold raS
  by_cases hm : gmmd s.2 k = true
  · rw [if_pos hm, ← tg_eq h.1 k hq4]
    cases ht : tgC c k q with
    | none => exact h.2
    | some u =>
      simp only []
      split
      · exact h.2
      · refine ⟨h.2.1, fun b hb hr => ?_⟩
        rcases up_t hr with hr | hr
        · exact h.2.2 b hb hr
        · obtain ⟨b0, k0, g1, g2, g3, g4⟩ := hq
          rw [hr]
          exact hC.2.2.2 b0 k0 k u g1 g2 g3 hk (h.2.1 k hk hm) (by rw [g4]; exact ht)
  · rw [if_neg hm]; exact h.2
theorem Sm_raF {c : CS} {M R : Nat → Prop} {q : Nat} {τ : MS} (hC : Cl c M R) (hq4 : q < 4) (hq : Ex c R q) (h : PR c τ ∧ Sm M R τ) : PR c (raF q τ).2 ∧ Sm M R (raF q τ).2 := itN_inv (fun s : Bool × MS => PR c s.2 ∧ Sm M R s.2) (N := 6) (fun k x hk hx => Sm_ra hC hq4 hq hk hx) 6 0 (false, τ) (by omega) h
theorem Sm_gr {c : CS} {M R : Nat → Prop} {b k : Nat} {s : Bool × MS} (hI : PI c) (hW : WI c) (hC : Cl c M R) (hb : R b) (hk : k < gcL c b) (h : PR c s.2 ∧ Sm M R s.2) : PR c (grS b k s).2 ∧ Sm M R (grS b k s).2 := by
  refine ⟨sm_gr (sm_PR c) h.1, ?_⟩
  have e0 := kM_eq h.1 hI (10 * b + k)
  have e1 := yM_eq h.1 (10 * b + k)
  have e2 := zM_eq h.1 (10 * b + k)
  rw [show 10 * b + k = b * 10 + k from (by omega)] at e0 e1 e2
  unfold grS
  rw [show 10 * b + k = b * 10 + k from (by omega), e0, e1, e2]
  by_cases h4 : gcK c (b * 10 + k) = 4
  · rw [if_pos h4]
    split
    · exact h.2
    · refine ⟨fun i hi hm => ?_, h.2.2⟩
      rcases up_t hm with hm | hm
      · exact h.2.1 i hi hm
      · rw [hm]; exact hC.2.2.1 b k hb hk h4
  · rw [if_neg h4]
    by_cases h7 : gcK c (b * 10 + k) = 7
    · rw [if_pos h7]
      exact (Sm_raF hC (WI_z4 hW h7).2 ⟨b, k, hb, hk, h7, rfl⟩ h).2
    · rw [if_neg h7]; exact h.2
theorem Sm_ps {c : CS} {M R : Nat → Prop} {b : Nat} {s : Bool × MS} (hI : PI c) (hW : WI c) (hC : Cl c M R) (hb : b < 24) (h : PR c s.2 ∧ Sm M R s.2) : PR c (psS b s).2 ∧ Sm M R (psS b s).2 := by
  unfold psS
  by_cases hr : gmrd s.2 b = true
  · rw [if_pos hr]
    have hR := h.2.2 b hb hr
    have eL := h.1.2.1
    exact itN_inv (fun s : Bool × MS => PR c s.2 ∧ Sm M R s.2) (N := gmmy s.2 b) (fun k x hk hx => Sm_gr hI hW hC hR (by rw [eL]; exact hk) hx) _ 0 (false, s.2) (by omega) h
  · rw [if_neg hr]; exact h
theorem Sm_psF {c : CS} {M R : Nat → Prop} {τ : MS} (hI : PI c) (hW : WI c) (hC : Cl c M R) (h : PR c τ ∧ Sm M R τ) : PR c (psF τ).2 ∧ Sm M R (psF τ).2 := itN_inv (fun s : Bool × MS => PR c s.2 ∧ Sm M R s.2) (N := 24) (fun k x hk hx => Sm_ps hI hW hC hk hx) 24 0 (false, τ) (by omega) h
theorem Sm_wh {c : CS} {M R : Nat → Prop} (hI : PI c) (hW : WI c) (hC : Cl c M R) : ∀ (n : Nat) (x : Bool) (τ : MS), PR c τ ∧ Sm M R τ → Sm M R (whL n x τ) := by
  intro n
  induction n with
  | zero => intro x τ h; exact h.2
  | succ n ih =>
    intro x τ h
    unfold whL
    split
    · exact ih _ _ (Sm_psF hI hW hC h)
    · exact h.2
theorem s12_get (ρ : MS) : gmmd (sh2 (sh1 ρ)) = gen0 (gmmd ρ) 6 (fun j => decide (j = 0)) ∧ gmrd (sh2 (sh1 ρ)) = gen0 (gmrd ρ) 24 (fun _ => false) ∧ gmch (sh2 (sh1 ρ)) = gen0 (gmch ρ) 24 (fun _ => false) := by
  have e1 : gmmd (sh1 ρ) = gen0 (gmmd ρ) 6 (fun j => decide (j = 0)) := by unfold sh1; rw [hs_md_md]
  have e2 : gmrd (sh1 ρ) = gmrd ρ := by unfold sh1; rw [hs_rd_md, hs_rd_th]
  have e3 : gmch (sh1 ρ) = gmch ρ := by unfold sh1; rw [hs_ch_md, hs_ch_th]
  obtain ⟨π, hπ⟩ : ∃ z, z = sh1 ρ := ⟨_, rfl⟩
  rw [← hπ] at e1 e2 e3 ⊢
  unfold sh2
  rw [hs_md_ch, hs_md_rd, hs_rd_ch, hs_rd_rd, hs_ch_ch, e1, e2, e3]
  exact ⟨rfl, rfl, rfl⟩
theorem PR_s12 {c : CS} {ρ : MS} (h : PR c ρ) : PR c (sh2 (sh1 ρ)) := (sm_PR c).2.2.1 _ _ ((sm_PR c).2.1 _ _ ((sm_PR c).1 _ _ ((sm_PR c).2.2.2.2.2 _ _ h)))
theorem gen0_lt {α : Type} (f g : Nat → α) {k i : Nat} (h : i < k) : gen0 f k g i = g i := by unfold gen0; rw [if_pos h]
theorem Sm_shW {c : CS} {ρ : MS} {M R : Nat → Prop} (hI : PI c) (hW : WI c) (hC : Cl c M R) (h : PR c ρ) : Sm M R (shW ρ) := by
  refine Sm_wh hI hW hC 31 true _ ⟨sm_s3 (sm_PR c) h, ?_⟩
  have hp := PR_s12 h
  obtain ⟨g1, g2, g3⟩ := s12_get ρ
  obtain ⟨π, hπ⟩ : ∃ z, z = sh2 (sh1 ρ) := ⟨_, rfl⟩
  rw [← hπ] at g1 g2 g3 hp ⊢
  have h1 : ∀ i, i < 6 → gmmd π i = true → M i := fun i hi hm => by
    rw [g1, gen0_lt _ _ hi, decide_eq_true_eq] at hm
    rw [hm]; exact hC.1
  have h2 : ∀ b, b < 24 → gmrd π b = false := fun b hb => by rw [g2, gen0_lt _ _ hb]
  unfold sh3
  rw [← tg_eq hp 0 (by decide)]
  cases ht : tgC c 0 0 with
  | none => exact ⟨h1, fun b hb hr => by rw [h2 b hb] at hr; cases hr⟩
  | some u =>
    refine ⟨h1, fun b hb hr => ?_⟩
    rcases up_t hr with hr | hr
    · rw [h2 b hb] at hr; cases hr
    · rw [hr]; exact hC.2.1 u ht
/-! closed: a pass that says 'no more' found nothing -/
def Q1 (τ : MS) (q j : Nat) : Prop := gmmd τ j = true → ∀ u, tgM τ j q = some u → gmrd τ u = true
theorem ra_q {q : Nat} : ∀ (n k : Nat) (s : Bool × MS), (itN (raS q) n k s).1 = false → s.1 = false ∧ itN (raS q) n k s = s ∧ ∀ j, k ≤ j → j < k + n → Q1 s.2 q j := by
  intro n
  induction n with
  | zero => intro k s h; exact ⟨h, rfl, fun j h1 h2 => by omega⟩
  | succ n ih =>
    intro k s h
    obtain ⟨a1, a2, a3⟩ := ih (k + 1) (raS q k s) h
    have hs : raS q k s = s ∧ Q1 s.2 q k := by
      unfold raS at a1 ⊢
      by_cases hm : gmmd s.2 k = true
      · rw [if_pos hm] at a1 ⊢
        cases ht : tgM s.2 k q with
        | none => exact ⟨rfl, fun _ u hu => by rw [ht] at hu; cases hu⟩
        | some b =>
          rw [ht] at a1
          by_cases hr : gmrd s.2 b = true
          · simp only [if_pos hr]
            exact ⟨trivial, fun _ u hu => by rw [ht] at hu; cases hu; exact hr⟩
          · simp only [if_neg hr] at a1
            cases a1
      · rw [if_neg hm]
        exact ⟨rfl, fun e => absurd e hm⟩
    rw [hs.1] at a1 a2 a3
    refine ⟨a1, ?_, fun j h1 h2 => ?_⟩
    · show itN (raS q) n (k + 1) (raS q k s) = s
      rw [hs.1]; exact a2
    · by_cases e : j = k
      · rw [e]; exact hs.2
      · exact a3 j (by omega) (by omega)
def Q2 (τ : MS) (b j : Nat) : Prop := (kM τ (10 * b + j) = 4 → gmmd τ (yM τ (10 * b + j)) = true) ∧ (kM τ (10 * b + j) = 7 → ∀ t, t < 6 → Q1 τ (zM τ (10 * b + j)) t)
theorem gr_q {b : Nat} : ∀ (n k : Nat) (s : Bool × MS), (itN (grS b) n k s).1 = false → s.1 = false ∧ itN (grS b) n k s = s ∧ ∀ j, k ≤ j → j < k + n → Q2 s.2 b j := by
  intro n
  induction n with
  | zero => intro k s h; exact ⟨h, rfl, fun j h1 h2 => by omega⟩
  | succ n ih =>
    intro k s h
    obtain ⟨a1, a2, a3⟩ := ih (k + 1) (grS b k s) h
    have hs : grS b k s = s ∧ Q2 s.2 b k := by
      unfold grS at a1 ⊢
      by_cases h4 : kM s.2 (10 * b + k) = 4
      · rw [if_pos h4] at a1 ⊢
        by_cases hm : gmmd s.2 (yM s.2 (10 * b + k)) = true
        · rw [if_pos hm]
          exact ⟨rfl, fun _ => hm, fun e => by omega⟩
        · rw [if_neg hm] at a1; cases a1
      · rw [if_neg h4] at a1 ⊢
        by_cases h7 : kM s.2 (10 * b + k) = 7
        · rw [if_pos h7] at a1 ⊢
          have a1 : ((raF (zM s.2 (10 * b + k)) s.2).1 || s.1) = false := a1
          rw [Bool.or_eq_false_iff] at a1
          obtain ⟨q1, q2, q3⟩ := ra_q 6 0 (false, s.2) a1.1
          have q2 : raF (zM s.2 (10 * b + k)) s.2 = (false, s.2) := q2
          rw [q2]
          refine ⟨?_, fun e => absurd e h4, fun _ t ht => q3 t (Nat.zero_le _) (by omega)⟩
          show (false || s.1, s.2) = s
          rw [Bool.false_or]
        · rw [if_neg h7]
          exact ⟨rfl, fun e => absurd e h4, fun e => absurd e h7⟩
    rw [hs.1] at a1 a2 a3
    refine ⟨a1, ?_, fun j h1 h2 => ?_⟩
    · show itN (grS b) n (k + 1) (grS b k s) = s
      rw [hs.1]; exact a2
    · by_cases e : j = k
      · rw [e]; exact hs.2
      · exact a3 j (by omega) (by omega)
def Q3 (τ : MS) (b : Nat) : Prop := gmrd τ b = true → ∀ k, k < gmmy τ b → Q2 τ b k
theorem ps_q : ∀ (n k : Nat) (s : Bool × MS), (itN psS n k s).1 = false → s.1 = false ∧ itN psS n k s = s ∧ ∀ j, k ≤ j → j < k + n → Q3 s.2 j := by
  intro n
  induction n with
  | zero => intro k s h; exact ⟨h, rfl, fun j h1 h2 => by omega⟩
  | succ n ih =>
    intro k s h
    obtain ⟨a1, a2, a3⟩ := ih (k + 1) (psS k s) h
    have hs : psS k s = s ∧ Q3 s.2 k := by
      unfold psS at a1 ⊢
      by_cases hr : gmrd s.2 k = true
      · rw [if_pos hr] at a1 ⊢
        have a1 : ((grF k s.2).1 || s.1) = false := a1
        rw [Bool.or_eq_false_iff] at a1
        obtain ⟨q1, q2, q3⟩ := gr_q (gmmy s.2 k) 0 (false, s.2) a1.1
        have q2 : grF k s.2 = (false, s.2) := q2
        rw [q2]
        refine ⟨?_, fun _ j hj => q3 j (Nat.zero_le _) (by omega)⟩
        show (false || s.1, s.2) = s
        rw [Bool.false_or]
      · rw [if_neg hr]
        exact ⟨rfl, fun e => absurd e hr⟩
    rw [hs.1] at a1 a2 a3
    refine ⟨a1, ?_, fun j h1 h2 => ?_⟩
    · show itN psS n (k + 1) (psS k s) = s
      rw [hs.1]; exact a2
    · by_cases e : j = k
      · rw [e]; exact hs.2
      · exact a3 j (by omega) (by omega)
theorem wh_q {σ : MS} : ∀ (n : Nat) (x : Bool) (τ : MS), Kr σ τ → (x = true → cnt τ < n) → (x = false → ∀ b, b < 24 → Q3 τ b) → ∀ b, b < 24 → Q3 (whL n x τ) b := by
  intro n
  induction n with
  | zero =>
    intro x τ _ h1 h2
    cases x with
    | true => exact absurd (h1 rfl) (Nat.not_lt_zero _)
    | false => exact h2 rfl
  | succ n ih =>
    intro x τ hK h1 h2
    cases x with
    | false => exact h2 rfl
    | true =>
      show ∀ b, b < 24 → Q3 (whL n (psF τ).1 (psF τ).2) b
      have hD := Dn_psF hK
      refine ih _ _ hD.1 (fun e => Nat.lt_of_lt_of_le (hD.2.2 e) (Nat.le_of_lt_succ (h1 rfl))) (fun e => ?_)
      obtain ⟨q1, q2, q3⟩ := ps_q 24 0 (false, τ) e
      have q2 : psF τ = (false, τ) := q2
      rw [q2]
      exact fun b hb => q3 b (Nat.zero_le _) (by omega)
/-- what is in stays in -/
def In0 (c : CS) (τ : MS) : Prop := gmmd τ 0 = true ∧ ∀ b, tgC c 0 0 = some b → gmrd τ b = true
theorem In_ra {c : CS} {q k : Nat} {s : Bool × MS} (h : In0 c s.2) : In0 c (raS q k s).2 := by
  unfold raS
  split
  · exact h
  · split
    · exact h
    · exact ⟨h.1, fun b hb => t_up _ (h.2 b hb)⟩
theorem In_gr {c : CS} {b k : Nat} {s : Bool × MS} (h : In0 c s.2) : In0 c (grS b k s).2 := by
  unfold grS
  split
  · split
    · exact h
    · exact ⟨t_up _ h.1, h.2⟩
  · split
    · exact itN_inv (fun s : Bool × MS => In0 c s.2) (N := 6) (fun k x _ hx => In_ra hx) 6 0 (false, s.2) (by omega) h
    · exact h
theorem In_ps {c : CS} {b : Nat} {s : Bool × MS} (h : In0 c s.2) : In0 c (psS b s).2 := by
  unfold psS
  split
  · exact itN_inv (fun s : Bool × MS => In0 c s.2) (N := gmmy s.2 b) (fun k x _ hx => In_gr hx) _ 0 (false, s.2) (by omega) h
  · exact h
theorem In_wh {c : CS} : ∀ (n : Nat) (x : Bool) (τ : MS), In0 c τ → In0 c (whL n x τ) := by
  intro n
  induction n with
  | zero => intro x τ h; exact h
  | succ n ih =>
    intro x τ h
    unfold whL
    split
    · exact ih _ _ (itN_inv (fun s : Bool × MS => In0 c s.2) (N := 24) (fun k x _ hx => In_ps hx) 24 0 (false, τ) (by omega) h)
    · exact h
theorem In_shW {c : CS} {ρ : MS} (h : PR c ρ) : In0 c (shW ρ) := by
  refine In_wh 31 true _ ?_
  have hp := PR_s12 h
  obtain ⟨g1, g2, g3⟩ := s12_get ρ
  obtain ⟨π, hπ⟩ : ∃ z, z = sh2 (sh1 ρ) := ⟨_, rfl⟩
  rw [← hπ] at g1 g2 g3 hp ⊢
  have h1 : gmmd π 0 = true := by rw [g1]; rfl
  unfold sh3
  rw [← tg_eq hp 0 (by decide)]
  cases ht : tgC c 0 0 with
  | none => exact ⟨h1, fun b hb => by rw [ht] at hb; cases hb⟩
  | some u =>
    refine ⟨h1, fun b hb => ?_⟩
    rw [ht] at hb
    cases hb
    exact va_up_self _ _ _
theorem Cl_shW {c : CS} {ρ : MS} (hI : PI c) (hW : WI c) (h : PR c ρ) : Cl c (fun i => i < 6 ∧ gmmd (shW ρ) i = true) (fun b => b < 24 ∧ gmrd (shW ρ) b = true) := by
  have hp : PR c (shW ρ) := sm_shW (sm_PR c) h
  have hK : Kr ρ (sh3 (sh2 (sh1 ρ))) := by
    have hp3 : PR c (sh3 (sh2 (sh1 ρ))) := sm_s3 (sm_PR c) h
    have hm := sm_s3 (SM_P ρ) (Pm_rf ρ)
    exact ⟨⟨QI_of hp3 hI, CI_of hp3 hI hW⟩, hm.2.1, hm.2.2.2, hm.2.2.1, hm.1⟩
  have hq : ∀ b, b < 24 → Q3 (shW ρ) b := wh_q 31 true _ hK (fun _ => Nat.lt_succ_of_le (cnt_le _)) (fun e => by cases e)
  have hi : In0 c (shW ρ) := In_shW h
  obtain ⟨π, hπ⟩ : ∃ z, z = shW ρ := ⟨_, rfl⟩
  rw [← hπ] at hp hq hi ⊢
  refine ⟨⟨by decide, hi.1⟩, fun b hb => ⟨tgC_lt hI (by decide) (by decide) hb, hi.2 b hb⟩, fun b k hb hk e => ?_, fun b k t u hb hk e ht hm hu => ?_⟩
  · have e0 := kM_eq hp hI (b * 10 + k)
    have e1 := yM_eq hp (b * 10 + k)
    have g := hq b hb.1 hb.2 k (by rw [← hp.2.1]; exact hk)
    unfold Q2 at g
    rw [show 10 * b + k = b * 10 + k from (by omega), e0, e1] at g
    exact ⟨(WI_y hW (p := b * 10 + k) (by omega)).2, g.1 e⟩
  · have e0 := kM_eq hp hI (b * 10 + k)
    have e2 := zM_eq hp (b * 10 + k)
    have g := hq b hb.1 hb.2 k (by rw [← hp.2.1]; exact hk)
    unfold Q2 at g
    rw [show 10 * b + k = b * 10 + k from (by omega), e0, e2] at g
    have hz := (WI_z4 hW e).2
    exact ⟨tgC_lt hI ht hz hu, g.2 e t ht hm.2 u (by rw [← tg_eq hp t hz]; exact hu)⟩
/-- both sides find the same -/
theorem fix_eq {c : CS} {ρ : MS} (hI : PI c) (hW : WI c) (h : PR c ρ) : (∀ i, i < 6 → gmmd (shW ρ) i = (gcma (frF c)).testBit i) ∧ (∀ b, b < 24 → gmrd (shW ρ) b = (gcre (frF c)).testBit b) := by
  have s1 := Sd_frF hI hW (Cl_shW hI hW h)
  have s2 := Sm_shW hI hW (Cl_frF hI hW) h
  refine ⟨fun i hi => ?_, fun b hb => ?_⟩
  · rw [Bool.eq_iff_iff]
    exact ⟨fun e => s2.1 i hi e, fun e => (s1.1 i e).2⟩
  · rw [Bool.eq_iff_iff]
    exact ⟨fun e => s2.2 b hb e, fun e => (s1.2.1 b e).2⟩
