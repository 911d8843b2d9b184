/-! the verdicts: both sides say the same of every operation -/
def SF (Q : CS → Prop) : Prop := (∀ τ v, Q τ → Q (scma τ v)) ∧ (∀ τ v, Q τ → Q (scca τ v)) ∧ (∀ τ v, Q τ → Q (scre τ v))
theorem sf_rb {Q : CS → Prop} (h : SF Q) {b k : Nat} {τ : CS} (q : Q τ) : Q (rbS b k τ) := by
  unfold rbS
  split
  · exact h.1 _ _ q
  · split
    · exact h.2.1 _ _ q
    · exact q
theorem sf_rs {Q : CS → Prop} (h : SF Q) {fr b : Nat} {τ : CS} (q : Q τ) : Q (rsS fr b τ) := by
  unfold rsS
  split
  · exact itN_inv Q (N := gcL τ b) (fun k x _ hx => sf_rb h hx) _ _ _ (by omega) q
  · exact q
theorem sf_rt {Q : CS → Prop} (h : SF Q) {t k : Nat} {τ : CS} (q : Q τ) : Q (rtS t k τ) := by
  unfold rtS
  split
  · split
    · exact h.2.2 _ _ q
    · exact q
  · exact q
theorem sf_rtF {Q : CS → Prop} (h : SF Q) {τ : CS} (q : Q τ) : Q (rtF τ) := itN_inv Q (N := 6) (fun t x _ hx => itN_inv Q (N := 4) (fun k y _ hy => sf_rt h hy) 4 0 x (by omega) hx) 6 0 τ (by omega) q
theorem sf_rsF {Q : CS → Prop} (h : SF Q) {fr : Nat} {τ : CS} (q : Q τ) : Q (rsF fr τ) := itN_inv Q (N := 24) (fun k x _ hx => sf_rs h hx) 24 0 τ (by omega) q
theorem sf_frL {Q : CS → Prop} (h : SF Q) : ∀ (n rd : Nat) (τ : CS), Q τ → Q (frL n rd τ) := by
  intro n
  induction n with
  | zero => intro rd τ q; exact q
  | succ n ih =>
    intro rd τ q
    unfold frL
    split
    · exact q
    · exact ih _ _ (sf_rtF h (sf_rsF h q))
theorem sf_frF {Q : CS → Prop} (h : SF Q) {τ : CS} (q : Q τ) : Q (frF τ) := sf_frL h _ _ _ (h.2.2 _ _ (h.2.1 _ _ (h.1 _ _ q)))
theorem V_frF (τ : CS) : gcV (frF τ) = gcV τ := sf_frF (Q := fun x => gcV x = gcV τ) ⟨fun _ _ h => h, fun _ _ h => h, fun _ _ h => h⟩ rfl
/-- the same program and the same sets -/
def Sa (a b : CS) : Prop := Pc a b ∧ gcma b = gcma a ∧ gcre b = gcre a
theorem Sa_rf (a : CS) : Sa a a := ⟨Pc_rf a, rfl, rfl⟩
theorem Sa_V {a b : CS} {f : Nat → Nat} (h : Sa a b) : Sa a (scV b f) := h
theorem Sa_CV {a b : CS} {f : Nat → Nat} (h : Sa a b) : Sa a (scCV b f) := h
theorem Sa_tg {a b : CS} (h : Sa a b) (t q : Nat) : tgC b t q = tgC a t q := by unfold tgC; rw [h.1.1, h.1.2.1]
theorem Sa_vc {a b : CS} (h : Sa a b) (q : Nat) : vcF b q = vcF a q := by
  have key : ∀ n k o, vcL b q n k o = vcL a q n k o := by
    intro n
    induction n with
    | zero =>
      intro k o
      unfold vcL
      rw [h.1.2.1, h.1.2.2.1]
    | succ n ih =>
      intro k o
      unfold vcL
      rw [Sa_tg h, h.2.1]
      simp only [ih]
  exact key 6 0 none
theorem Sa_y {a b : CS} (h : Sa a b) (p : Nat) : yN b p = yN a p := by unfold yN; rw [h.1.2.2.2.2.1]
theorem Sa_z {a b : CS} (h : Sa a b) (p : Nat) : zN b p = zN a p := by unfold zN; rw [h.1.2.2.2.2.2.1]
theorem Sa_wo {a b : CS} (h : Sa a b) (d : Nat) : woF b d = woF a d := by
  have e : woS b d = woS a d := by
    funext k w
    unfold woS
    rw [h.1.2.2.1, h.1.2.2.2.1, Sa_y h]
  unfold woF
  rw [e, h.1.2.1]
theorem Sa_ho {a b : CS} (h : Sa a b) (d r : Nat) : hoF b d r = hoF a d r := by
  have e : hoS b d = hoS a d := by
    funext k w
    unfold hoS
    rw [h.1.2.2.1, h.1.2.2.2.1, Sa_y h]
  have e2 : hoR b d = hoR a d := by
    funext k w
    unfold hoR
    rw [e, h.1.2.1]
  unfold hoF
  rw [e2]
/-- what shaping says of operation k of body b -/
def vtF (τ : CS) (b k : Nat) : Nat := if (gcre τ).testBit b = true then (if gcK τ (b * 10 + k) = 7 then vcF τ (zN τ (b * 10 + k)) else if gcK τ (b * 10 + k) = 4 then (if hoF τ b (gcX τ (b * 10 + k)) &&& woF τ b = 0 then 5 else 6) else 0) else 0
theorem vcL_le (τ : CS) (q : Nat) : ∀ n k o, vcL τ q n k o ≤ 4 := by
  intro n
  induction n with
  | zero =>
    intro k o
    unfold vcL
    split
    · omega
    · split <;> omega
  | succ n ih =>
    intro k o
    unfold vcL
    split
    · exact ih _ _
    · split
      · exact ih _ _
      · split
        · exact ih _ _
        · omega
theorem vtF_le (τ : CS) (b k : Nat) : vtF τ b k ≤ 6 := by
  have h := vcL_le τ (zN τ (b * 10 + k)) 6 0 none
  unfold vtF
  split
  · split
    · show vcL _ _ _ _ _ ≤ 6
      omega
    · split
      · split <;> omega
      · omega
  · omega
theorem cv_get (τ : CS) : Sa τ (itN cvS 4 0 τ) ∧ gcV (itN cvS 4 0 τ) = gcV τ ∧ ∀ q, q < 4 → gcCV (itN cvS 4 0 τ) q = vcF τ q := by
  have q := itN_ind (fun k x => Sa τ x ∧ gcV x = gcV τ ∧ ∀ q, q < k → gcCV x q = vcF τ q) (f := cvS) (N := 4) (fun k x hk hx => by
    unfold cvS
    refine ⟨Sa_CV hx.1, hx.2.1, fun j hj => ?_⟩
    rw [gs_CV_CV, Sa_vc hx.1]
    by_cases e : j = k
    · rw [e, va_up_self]
    · rw [va_up_ne _ _ e]; exact hx.2.2 j (by omega)) 4 0 τ (by omega) ⟨Sa_rf τ, rfl, fun j hj => absurd hj (Nat.not_lt_zero _)⟩
  exact q
/-- one body judged -/
def Jd (τ : CS) (x : CS) : Prop := Sa τ x ∧ (∀ q, q < 4 → gcCV x q = vcF τ q) ∧ (∀ i, gcV x i ≤ 6)
theorem jd_step {τ x : CS} {b k : Nat} (hW : WI τ) (hx : Jd τ x) (h0 : gcV x (b * 10 + k) = 0) (hr : (gcre τ).testBit b = true) : Jd τ (jdS b (woF τ b) k x) ∧ gcV (jdS b (woF τ b) k x) (b * 10 + k) = vtF τ b k ∧ ∀ i, i ≠ b * 10 + k → gcV (jdS b (woF τ b) k x) i = gcV x i := by
  have hle := vtF_le τ b k
  unfold vtF at hle ⊢
  rw [if_pos hr] at hle ⊢
  unfold jdS
  rw [hx.1.1.2.2.1, hx.1.1.2.2.2.1, Sa_z hx.1, Sa_ho hx.1]
  by_cases h7 : gcK τ (b * 10 + k) = 7
  · rw [if_pos h7] at hle
    rw [if_pos h7, if_pos h7, hx.2.1 _ (WI_z4 hW h7).2]
    refine ⟨⟨Sa_V hx.1, hx.2.1, fun i => ?_⟩, ?_, fun i hi => ?_⟩
    · rw [gs_V_V]; exact va_up_i _ _ _ i (fun z => z ≤ 6) hle (hx.2.2 i)
    · rw [gs_V_V, va_up_self]
    · rw [gs_V_V, va_up_ne _ _ hi]
  · rw [if_neg h7] at hle
    rw [if_neg h7, if_neg h7]
    by_cases h4 : gcK τ (b * 10 + k) = 4
    · rw [if_pos h4] at hle
      rw [if_pos h4, if_pos h4]
      refine ⟨⟨Sa_V hx.1, hx.2.1, fun i => ?_⟩, ?_, fun i hi => ?_⟩
      · rw [gs_V_V]; exact va_up_i _ _ _ i (fun z => z ≤ 6) hle (hx.2.2 i)
      · rw [gs_V_V, va_up_self]
      · rw [gs_V_V, va_up_ne _ _ hi]
    · rw [if_neg h4, if_neg h4]
      exact ⟨hx, h0, fun i _ => rfl⟩
theorem jd_body {τ x : CS} {b : Nat} (hI : PI τ) (hW : WI τ) (hx : Jd τ x) (h0 : ∀ i, b * 10 ≤ i → i < b * 10 + 10 → gcV x i = 0) : Jd τ (jaS b x) ∧ (∀ k, k < gcL τ b → gcV (jaS b x) (b * 10 + k) = vtF τ b k) ∧ ∀ i, (i < b * 10 ∨ b * 10 + 10 ≤ i) → gcV (jaS b x) i = gcV x i := by
  have hL := hI.2.1 b
  unfold jaS
  rw [hx.1.2.2]
  by_cases hr : (gcre τ).testBit b = true
  · rw [if_pos hr]
    unfold jdF
    rw [Sa_wo hx.1, hx.1.1.2.1]
    have q := itN_ind (fun k y => Jd τ y ∧ (∀ j, j < k → gcV y (b * 10 + j) = vtF τ b j) ∧ (∀ j, k ≤ j → j < 10 → gcV y (b * 10 + j) = 0) ∧ ∀ i, (i < b * 10 ∨ b * 10 + 10 ≤ i) → gcV y i = gcV x i) (f := jdS b (woF τ b)) (N := gcL τ b) (fun k y hk hy => by
      obtain ⟨a1, a2, a3⟩ := jd_step hW hy.1 (hy.2.2.1 k (Nat.le_refl _) (by omega)) hr
      refine ⟨a1, fun j hj => ?_, fun j hj hj2 => ?_, fun i hi => ?_⟩
      · by_cases e : j = k
        · rw [e]; exact a2
        · rw [a3 _ (by omega)]; exact hy.2.1 j (by omega)
      · rw [a3 _ (by omega)]; exact hy.2.2.1 j (by omega) hj2
      · rw [a3 _ (by omega)]; exact hy.2.2.2 i hi) (gcL τ b) 0 x (by omega) ⟨hx, fun j hj => absurd hj (Nat.not_lt_zero _), fun j _ hj => h0 _ (by omega) (by omega), fun i _ => rfl⟩
    rw [Nat.zero_add] at q
    exact ⟨q.1, q.2.1, q.2.2.2⟩
  · rw [if_neg hr]
    refine ⟨hx, fun k hk => ?_, fun i _ => rfl⟩
    unfold vtF
    rw [if_neg hr]
    exact h0 _ (by omega) (by omega)
/-- the class's verdicts after shaping -/
theorem ver_c {c : CS} (hI : PI c) (hW : WI c) (hV : ∀ i, gcV c i ≤ 6) : ∃ τ, τ = frF (scV c (fillF (gcV c) 0 240 0)) ∧ Sa τ (rnF c) ∧ (∀ i, gcV (rnF c) i ≤ 6) ∧ ∀ b k, b < 24 → k < gcL c b → gcV (rnF c) (b * 10 + k) = vtF τ b k := by
  refine ⟨_, rfl, ?_⟩
  have hP : Pc (scV c (fillF (gcV c) 0 240 0)) (frF (scV c (fillF (gcV c) 0 240 0))) := sc_frF (SC_P _) (Pc_rf _)
  have hv := V_frF (scV c (fillF (gcV c) 0 240 0))
  rw [gs_V_V] at hv
  have hI2 : PI (scV c (fillF (gcV c) 0 240 0)) ∧ WI (scV c (fillF (gcV c) 0 240 0)) := ⟨hI, hW⟩
  have hL : gcL (scV c (fillF (gcV c) 0 240 0)) = gcL c := rfl
  unfold rnF
  obtain ⟨τ, hτ⟩ : ∃ z, z = frF (scV c (fillF (gcV c) 0 240 0)) := ⟨_, rfl⟩
  rw [← hτ] at hP hv ⊢
  obtain ⟨d, hd⟩ : ∃ z, z = scV c (fillF (gcV c) 0 240 0) := ⟨_, rfl⟩
  rw [← hd] at hP hI2 hL
  have hIτ := PI_P hI2 hP
  rw [← hL, ← hP.2.1]
  obtain ⟨g1, g2, g3⟩ := cv_get τ
  obtain ⟨π, hπ⟩ : ∃ z, z = itN cvS 4 0 τ := ⟨_, rfl⟩
  rw [← hπ] at g1 g2 g3 ⊢
  have hz : ∀ i, i < 240 → gcV π i = 0 := fun i hi => by
    rw [g2, hv]; unfold fillF; rw [if_pos ⟨Nat.zero_le _, hi⟩]
  have h6 : ∀ i, gcV π i ≤ 6 := fun i => by
    rw [g2, hv]; unfold fillF; split
    · omega
    · exact hV i
  have q := itN_ind (fun b x => Jd τ x ∧ (∀ a, a < b → ∀ k, k < gcL τ a → gcV x (a * 10 + k) = vtF τ a k) ∧ ∀ i, b * 10 ≤ i → i < 240 → gcV x i = 0) (f := jaS) (N := 24) (fun b x hb hx => by
    obtain ⟨a1, a2, a3⟩ := jd_body (b := b) hIτ.1 hIτ.2 hx.1 (fun i h1 h2 => hx.2.2 i h1 (by omega))
    refine ⟨a1, fun a ha k hk => ?_, fun i h1 h2 => ?_⟩
    · by_cases e : a = b
      · subst e; exact a2 k hk
      · have := hIτ.1.2.1 a
        rw [a3 _ (by omega)]; exact hx.2.1 a (by omega) k hk
    · rw [a3 _ (by omega)]; exact hx.2.2 i (by omega) h2) 24 0 π (by omega) ⟨⟨g1, g3, h6⟩, fun a ha => absurd ha (Nat.not_lt_zero _), fun i _ hi => hz i hi⟩
  rw [Nat.zero_add] at q
  exact ⟨q.1.1, q.1.2.2, fun b k hb hk => q.2.1 b hb k hk⟩
/-! a call's verdict -/
theorem sm_all {c : CS} {ρ : MS} (h : PR c ρ) (hI : PI c) (b : Nat) : ∀ n k x, itN (smS ρ b) n k x = (x && allF (fun k => decide (gcK c (b * 10 + k) ≠ 7) && decide (gcK c (b * 10 + k) ≠ 9)) n k) := by
  intro n
  induction n with
  | zero => intro k x; show x = (x && true); rw [Bool.and_true]
  | succ n ih =>
    intro k x
    show itN (smS ρ b) n (k + 1) (smS ρ b k x) = _
    have e : smS ρ b k x = (x && (decide (gcK c (b * 10 + k) ≠ 7) && decide (gcK c (b * 10 + k) ≠ 9))) := by
      unfold smS
      rw [show 10 * b + k = b * 10 + k from (by omega), kM_eq h hI]
    rw [ih, e, Bool.and_assoc]
    rfl
theorem fit_eq {c : CS} {ρ : MS} (h : PR c ρ) (hI : PI c) (b : Nat) : itN (smS ρ b) (gmmy ρ b) 0 (decide (gmmy ρ b ≤ 3)) = fitF (gcL c) (gcK c) b := by
  rw [sm_all h hI]
  unfold fitF
  rw [h.2.1]
def caE (ρ : MS) (s : Option Nat × Bool) : Nat := match s with
  | (none, _) => 4
  | (some b, x) => if x = true then (if itN (smS ρ b) (gmmy ρ b) 0 (decide (gmmy ρ b ≤ 3)) = true then 3 else 2) else 1
theorem ca_eq0 (ρ : MS) (q : Nat) : caF ρ q = caE ρ (itN (clS ρ q) 6 0 (none, true)) := rfl
theorem cl_f {ρ : MS} {q : Nat} : ∀ n k o, caE ρ (itN (clS ρ q) n k (some o, false)) = 1 := by
  intro n
  induction n with
  | zero => intro k o; rfl
  | succ n ih =>
    intro k o
    show caE ρ (itN (clS ρ q) n (k + 1) (clS ρ q k (some o, false))) = 1
    unfold clS
    split
    · exact ih _ _
    · exact ih _ _
theorem cl_n {ρ : MS} {q k : Nat} {s : Option Nat × Bool} (h : (if gmmd ρ k = true then tgM ρ k q else none) = none) : clS ρ q k s = s := by unfold clS; rw [h]
theorem cl_s0 {ρ : MS} {q k t : Nat} {x : Bool} (h : (if gmmd ρ k = true then tgM ρ k q else none) = some t) : clS ρ q k (none, x) = (some t, x) := by unfold clS; rw [h]
theorem cl_s1 {ρ : MS} {q k t o : Nat} {x : Bool} (h : (if gmmd ρ k = true then tgM ρ k q else none) = some t) : clS ρ q k (some o, x) = (some t, x && decide (t = o)) := by unfold clS; rw [h]
theorem vc_n {c : CS} {q n k : Nat} {o : Option Nat} (h : (if (gcma c).testBit k = true then tgC c k q else none) = none) : vcL c q (n + 1) k o = vcL c q n (k + 1) o := by rw [vcL, h]
theorem vc_s0 {c : CS} {q n k t : Nat} (h : (if (gcma c).testBit k = true then tgC c k q else none) = some t) : vcL c q (n + 1) k none = vcL c q n (k + 1) (some t) := by rw [vcL, h]
theorem vc_s1 {c : CS} {q n k t b : Nat} (h : (if (gcma c).testBit k = true then tgC c k q else none) = some t) : vcL c q (n + 1) k (some b) = if b = t then vcL c q n (k + 1) (some t) else 1 := by rw [vcL, h]
theorem vc_ca {c : CS} {ρ : MS} (h : PR c ρ) (hI : PI c) (hm : ∀ i, i < 6 → gmmd ρ i = (gcma c).testBit i) {q : Nat} (hq : q < 4) : ∀ n k o, k + n ≤ 6 → vcL c q n k o = caE ρ (itN (clS ρ q) n k (o, true)) := by
  intro n
  induction n with
  | zero =>
    intro k o _
    cases o with
    | none => rfl
    | some b =>
      show (if fitF (gcL c) (gcK c) b = true then 3 else 2) = (if itN (smS ρ b) (gmmy ρ b) 0 (decide (gmmy ρ b ≤ 3)) = true then 3 else 2)
      rw [fit_eq h hI]
  | succ n ih =>
    intro k o hk
    show vcL c q (n + 1) k o = caE ρ (itN (clS ρ q) n (k + 1) (clS ρ q k (o, true)))
    have e : (if gmmd ρ k = true then tgM ρ k q else none) = (if (gcma c).testBit k = true then tgC c k q else none) := by rw [hm k (by omega), tg_eq h k hq]
    cases ht : (if (gcma c).testBit k = true then tgC c k q else none) with
    | none =>
      rw [vc_n ht, cl_n (e.trans ht)]
      exact ih (k + 1) o (by omega)
    | some t =>
      cases o with
      | none =>
        rw [vc_s0 ht, cl_s0 (e.trans ht)]
        exact ih (k + 1) (some t) (by omega)
      | some b =>
        rw [vc_s1 ht, cl_s1 (e.trans ht)]
        by_cases e2 : b = t
        · subst e2
          rw [if_pos rfl, decide_eq_true rfl]
          exact ih (k + 1) (some b) (by omega)
        · rw [if_neg e2, decide_eq_false (fun z => e2 z.symm)]
          exact (cl_f n (k + 1) t).symm
theorem ca_eq {c : CS} {ρ : MS} (h : PR c ρ) (hI : PI c) (hm : ∀ i, i < 6 → gmmd ρ i = (gcma c).testBit i) {q : Nat} (hq : q < 4) : caF ρ q = vcF c q := (vc_ca h hI hm hq 6 0 none (by omega)).symm
