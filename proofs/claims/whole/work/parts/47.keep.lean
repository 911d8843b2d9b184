/-! what shaping leaves as it was, on both sides -/
theorem itN_ind {α : Type} {f : Nat → α → α} (I : Nat → α → Prop) {N : Nat} (h : ∀ k x, k < N → I k x → I (k + 1) (f k x)) : ∀ (n k : Nat) (x : α), k + n ≤ N → I k x → I (k + n) (itN f n k x) := by
  intro n
  induction n with
  | zero => intro k x _ hx; exact hx
  | succ n ih =>
    intro k x hk hx
    have q := ih (k + 1) (f k x) (by omega) (h k x (by omega) hx)
    rw [show k + 1 + n = k + (n + 1) from (by omega)] at q
    exact q
def SC (Q : CS → Prop) : Prop := (∀ τ v, Q τ → Q (scma τ v)) ∧ (∀ τ v, Q τ → Q (scca τ v)) ∧ (∀ τ v, Q τ → Q (scre τ v)) ∧ (∀ τ v, Q τ → Q (scV τ v)) ∧ (∀ τ v, Q τ → Q (scCV τ v))
theorem sc_rb {Q : CS → Prop} (h : SC Q) {b k : Nat} {τ : CS} (q : Q τ) : Q (rbS b k τ) := by
  unfold rbS
  split
  · exact h.1 _ _ q
  · split
    · exact h.2.1 _ _ q
    · exact q
theorem sc_rs {Q : CS → Prop} (h : SC Q) {fr b : Nat} {τ : CS} (q : Q τ) : Q (rsS fr b τ) := by
  unfold rsS
  split
  · exact itN_inv Q (N := gcL τ b) (fun k x _ hx => sc_rb h hx) _ _ _ (by omega) q
  · exact q
theorem sc_rt {Q : CS → Prop} (h : SC Q) {t k : Nat} {τ : CS} (q : Q τ) : Q (rtS t k τ) := by
  unfold rtS
  split
  · split
    · exact h.2.2.1 _ _ q
    · exact q
  · exact q
theorem sc_rtF {Q : CS → Prop} (h : SC Q) {τ : CS} (q : Q τ) : Q (rtF τ) := itN_inv Q (N := 6) (fun t x _ hx => itN_inv Q (N := 4) (fun k y _ hy => sc_rt h hy) 4 0 x (by omega) hx) 6 0 τ (by omega) q
theorem sc_rsF {Q : CS → Prop} (h : SC Q) {fr : Nat} {τ : CS} (q : Q τ) : Q (rsF fr τ) := itN_inv Q (N := 24) (fun k x _ hx => sc_rs h hx) 24 0 τ (by omega) q
theorem sc_frL {Q : CS → Prop} (h : SC Q) : ∀ (n rd : Nat) (τ : CS), Q τ → Q (frL n rd τ) := by
  intro n
  induction n with
  | zero => intro rd τ q; exact q
  | succ n ih =>
    intro rd τ q
    unfold frL
    split
    · exact q
    · exact ih _ _ (sc_rtF h (sc_rsF h q))
theorem sc_frF {Q : CS → Prop} (h : SC Q) {τ : CS} (q : Q τ) : Q (frF τ) := sc_frL h _ _ _ (h.2.2.1 _ _ (h.2.1 _ _ (h.1 _ _ q)))
theorem sc_jd {Q : CS → Prop} (h : SC Q) {b w k : Nat} {τ : CS} (q : Q τ) : Q (jdS b w k τ) := by
  unfold jdS
  split
  · exact h.2.2.2.1 _ _ q
  · split
    · exact h.2.2.2.1 _ _ q
    · exact q
theorem sc_ja {Q : CS → Prop} (h : SC Q) {b : Nat} {τ : CS} (q : Q τ) : Q (jaS b τ) := by
  unfold jaS
  split
  · exact itN_inv Q (N := gcL τ b) (fun k x _ hx => sc_jd h hx) _ _ _ (by omega) q
  · exact q
theorem sc_cv {Q : CS → Prop} (h : SC Q) {τ : CS} (q : Q τ) : Q (itN cvS 4 0 τ) := itN_inv Q (N := 4) (fun k x _ hx => h.2.2.2.2 _ _ hx) 4 0 τ (by omega) q
theorem sc_rn {Q : CS → Prop} (h : SC Q) {τ : CS} (q : Q τ) : Q (rnF τ) := itN_inv Q (N := 24) (fun k x _ hx => sc_ja h hx) 24 0 _ (by omega) (sc_cv h (sc_frF h (h.2.2.2.1 _ _ q)))
def SM (Q : MS → Prop) : Prop := (∀ τ v, Q τ → Q (smmd τ v)) ∧ (∀ τ v, Q τ → Q (smrd τ v)) ∧ (∀ τ v, Q τ → Q (smch τ v)) ∧ (∀ τ v, Q τ → Q (smho τ v)) ∧ (∀ τ v, Q τ → Q (smsi τ v)) ∧ (∀ τ v, Q τ → Q (smth τ v))
theorem sm_ra {Q : MS → Prop} (h : SM Q) {q k : Nat} {s : Bool × MS} (hq : Q s.2) : Q (raS q k s).2 := by
  unfold raS
  split
  · exact hq
  · split
    · exact hq
    · exact h.2.1 _ _ hq
theorem sm_raF {Q : MS → Prop} (h : SM Q) {q : Nat} {τ : MS} (hq : Q τ) : Q (raF q τ).2 := itN_inv (fun s : Bool × MS => Q s.2) (N := 6) (fun k x _ hx => sm_ra h hx) 6 0 (false, τ) (by omega) hq
theorem sm_gr {Q : MS → Prop} (h : SM Q) {b k : Nat} {s : Bool × MS} (hq : Q s.2) : Q (grS b k s).2 := by
  unfold grS
  split
  · split
    · exact hq
    · exact h.1 _ _ hq
  · split
    · exact sm_raF h hq
    · exact hq
theorem sm_ps {Q : MS → Prop} (h : SM Q) {b : Nat} {s : Bool × MS} (hq : Q s.2) : Q (psS b s).2 := by
  unfold psS
  split
  · exact itN_inv (fun s : Bool × MS => Q s.2) (N := gmmy s.2 b) (fun k x _ hx => sm_gr h hx) _ 0 (false, s.2) (by omega) hq
  · exact hq
theorem sm_psF {Q : MS → Prop} (h : SM Q) {τ : MS} (hq : Q τ) : Q (psF τ).2 := itN_inv (fun s : Bool × MS => Q s.2) (N := 24) (fun k x _ hx => sm_ps h hx) 24 0 (false, τ) (by omega) hq
theorem sm_wh {Q : MS → Prop} (h : SM Q) : ∀ (n : Nat) (x : Bool) (τ : MS), Q τ → Q (whL n x τ) := by
  intro n
  induction n with
  | zero => intro x τ q; exact q
  | succ n ih =>
    intro x τ q
    unfold whL
    split
    · exact ih _ _ (sm_psF h q)
    · exact q
theorem sm_s3 {Q : MS → Prop} (h : SM Q) {τ : MS} (hq : Q τ) : Q (sh3 (sh2 (sh1 τ))) := by
  have q2 : Q (sh2 (sh1 τ)) := h.2.2.1 _ _ (h.2.1 _ _ (h.1 _ _ (h.2.2.2.2.2 _ _ hq)))
  unfold sh3
  split
  · exact q2
  · exact h.2.1 _ _ q2
theorem sm_shW {Q : MS → Prop} (h : SM Q) {τ : MS} (hq : Q τ) : Q (shW τ) := sm_wh h _ _ _ (sm_s3 h hq)
theorem sm_s2 {Q : MS → Prop} (h : SM Q) {b k : Nat} {τ : MS} (hq : Q τ) : Q (s2S b k τ) := by
  unfold s2S
  split
  · split
    · exact h.2.2.2.1 _ _ hq
    · exact hq
  · exact hq
theorem sm_saG {Q : MS → Prop} (h : SM Q) {b j : Nat} {τ : MS} (hq : Q τ) : Q (saG b j τ) := itN_inv Q (N := 6) (fun k x _ hx => itN_inv Q (N := gmmy x b) (fun k y _ hy => sm_s2 h hy) _ 0 x (by omega) hx) 6 0 _ (by omega) (itN_inv Q (N := 6) (fun k x _ hx => h.2.2.2.1 _ _ hx) 6 0 τ (by omega) hq)
theorem sm_sS {Q : MS → Prop} (h : SM Q) {b k : Nat} {τ : MS} (hq : Q τ) : Q (shS b k τ) := by
  unfold shS
  split
  · exact h.2.2.2.2.1 _ _ hq
  · split
    · exact h.2.2.2.2.1 _ _ (sm_saG h hq)
    · exact h.2.2.2.2.1 _ _ hq
theorem sm_shB {Q : MS → Prop} (h : SM Q) {b : Nat} {τ : MS} (hq : Q τ) : Q (shB b τ) := itN_inv Q (N := gmmy τ b) (fun k x _ hx => sm_sS h hx) _ 0 τ (by omega) hq
theorem sm_shZ {Q : MS → Prop} (h : SM Q) {τ : MS} (hq : Q τ) : Q (shZ τ).2 := by
  have q0 := sm_shW h hq
  unfold shZ
  obtain ⟨u, hu⟩ : ∃ z, z = shW τ := ⟨_, rfl⟩
  rw [← hu] at q0 ⊢
  refine itN_inv (fun s : Nat × MS => Q s.2) (N := 24) (fun k x _ hx => ?_) 24 0 (0, u) (by omega) q0
  exact sm_shB h hx
/-- the run's rows -/
def Zc (c d : CS) : Prop := gcRg d = gcRg c ∧ gcFl d = gcFl c ∧ gcCl d = gcCl c ∧ gcBo d = gcBo c ∧ gcNe d = gcNe c ∧ gcAn d = gcAn c ∧ gcPo d = gcPo c ∧ gcCt d = gcCt c ∧ gcfr d = gcfr c ∧ gcob d = gcob c ∧ gcrm d = gcrm c ∧ gctr d = gctr c ∧ gcsh d = gcsh c
def Zm (c d : MS) : Prop := gmis d = gmis c ∧ gmva d = gmva c ∧ gmfI d = gmfI c ∧ gmfV d = gmfV c ∧ gmcl d = gmcl c ∧ gmbo d = gmbo c ∧ gmpl d = gmpl c ∧ gmwa d = gmwa c ∧ gmou d = gmou c ∧ gmct d = gmct c ∧ gmfr d = gmfr c ∧ gmob d = gmob c ∧ gmrm d = gmrm c
def Pc (c d : CS) : Prop := gcP d = gcP c ∧ gcL d = gcL c ∧ gcK d = gcK c ∧ gcX d = gcX c ∧ gcY d = gcY c ∧ gcZ d = gcZ c ∧ gcn d = gcn c
def Pm (c d : MS) : Prop := gmty d = gmty c ∧ gmmy d = gmmy c ∧ gmpa d = gmpa c ∧ gmcd d = gmcd c
theorem SC_Z (c : CS) : SC (Zc c) := ⟨fun _ _ h => h, fun _ _ h => h, fun _ _ h => h, fun _ _ h => h, fun _ _ h => h⟩
theorem SC_P (c : CS) : SC (Pc c) := ⟨fun _ _ h => h, fun _ _ h => h, fun _ _ h => h, fun _ _ h => h, fun _ _ h => h⟩
theorem SM_Z (c : MS) : SM (Zm c) := ⟨fun _ _ h => h, fun _ _ h => h, fun _ _ h => h, fun _ _ h => h, fun _ _ h => h, fun _ _ h => h⟩
theorem SM_P (c : MS) : SM (Pm c) := ⟨fun _ _ h => h, fun _ _ h => h, fun _ _ h => h, fun _ _ h => h, fun _ _ h => h, fun _ _ h => h⟩
theorem Zc_rf (c : CS) : Zc c c := ⟨rfl, rfl, rfl, rfl, rfl, rfl, rfl, rfl, rfl, rfl, rfl, rfl, rfl⟩
theorem Zm_rf (c : MS) : Zm c c := ⟨rfl, rfl, rfl, rfl, rfl, rfl, rfl, rfl, rfl, rfl, rfl, rfl, rfl⟩
theorem Pc_rf (c : CS) : Pc c c := ⟨rfl, rfl, rfl, rfl, rfl, rfl, rfl⟩
theorem Pm_rf (c : MS) : Pm c c := ⟨rfl, rfl, rfl, rfl⟩
theorem RZ_of {c d : CS} {ρ π : MS} (h : RZ c ρ) (z : Zc c d) (w : Zm ρ π) : RZ d π := by
  obtain ⟨a1, a2, a3, a4, a5, a6, a7, a8, a9, a10, a11, a12, a13⟩ := z
  obtain ⟨b1, b2, b3, b4, b5, b6, b7, b8, b9, b10, b11, b12, b13⟩ := w
  unfold RZ at h ⊢
  rw [a2, a3, a4, a5, a7, a8, a10, a11, b1, b2, b3, b4, b5, b6, b7, b8, b9, b10, b12, b13]
  exact h
theorem PR_of {c d : CS} {ρ π : MS} (h : PR c ρ) (z : Pc c d) (w : Pm ρ π) : PR d π := by
  obtain ⟨a1, a2, a3, a4, a5, a6, a7⟩ := z
  obtain ⟨b1, b2, b3, b4⟩ := w
  unfold PR at h ⊢
  rw [a1, a2, a3, a4, a5, a6, a7, b1, b2, b3, b4]
  exact h
theorem PI_P {c d : CS} (h : PI c ∧ WI c) (z : Pc c d) : PI d ∧ WI d := by
  obtain ⟨a1, a2, a3, a4, a5, a6, a7⟩ := z
  unfold PI WI at h ⊢
  rw [a1, a2, a3, a4, a5, a6, a7]
  exact h
theorem RI_Z {c d : CS} (h : RI c) (p : Pc c d) (z : Zc c d) (hV : ∀ i, gcV d i ≤ 6) : RI d := by
  obtain ⟨h1, h2, h3⟩ := h
  refine ⟨PI_P h1 p, hV, ?_⟩
  obtain ⟨a1, a2, a3, a4, a5, a6, a7, a8, a9, a10, a11, a12, a13⟩ := z
  rw [a1, a2, a3, a4, a5, a6, a8, a9, a10, a11, a12]
  exact h3
