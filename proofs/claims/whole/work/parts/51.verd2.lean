/-! which objects stay in their body -/
theorem z_tb (a : Nat) : a = 0 ↔ ∀ i, a.testBit i = false := ⟨fun h i => by rw [h, Nat.zero_testBit], fun h => Nat.eq_of_testBit_eq fun i => by rw [h i, Nat.zero_testBit]⟩
theorem out1 (h w y : Nat) : (h &&& (w ||| 1 <<< y) = 0) ↔ (h &&& w = 0 ∧ h.testBit y = false) := by
  rw [z_tb, z_tb]
  constructor
  · intro H
    refine ⟨fun i => ?_, ?_⟩
    · have := H i
      rw [Nat.testBit_and, Nat.testBit_or] at this
      rw [Nat.testBit_and]
      cases hh : h.testBit i
      · rfl
      · cases hw : w.testBit i
        · rfl
        · rw [hw, hh] at this; exact this
    · have := H y
      rw [Nat.testBit_and, (tb_or1 w y y).mpr (Or.inr rfl), Bool.and_true] at this
      exact this
  · intro H i
    rw [Nat.testBit_and]
    cases hh : h.testBit i
    · rfl
    · cases hw : (w ||| 1 <<< y).testBit i
      · rfl
      · rcases (tb_or1 w y i).mp hw with e | e
        · have := H.1 i
          rw [Nat.testBit_and, hh, e] at this
          exact this
        · rw [e, H.2] at hh; cases hh
theorem dec1 (h w y : Nat) : decide (h &&& (w ||| 1 <<< y) = 0) = (decide (h &&& w = 0) && !h.testBit y) := by
  rw [Bool.eq_iff_iff, decide_eq_true_eq, out1, Bool.and_eq_true, decide_eq_true_eq, Bool.not_eq_true']
def HoR (h : Nat) (τ : MS) : Prop := ∀ i, i < 6 → gmho τ i = h.testBit i
def SH (Q : MS → Prop) : Prop := ∀ τ v, Q τ → Q (smho τ v)
theorem sh_s2 {Q : MS → Prop} (h : SH Q) {b k : Nat} {τ : MS} (hq : Q τ) : Q (s2S b k τ) := by
  unfold s2S
  split
  · split
    · exact h _ _ hq
    · exact hq
  · exact hq
theorem sh_s2R {Q : MS → Prop} (h : SH Q) {b k : Nat} {τ : MS} (hq : Q τ) : Q (s2R b k τ) := itN_inv Q (N := gmmy τ b) (fun k y _ hy => sh_s2 h hy) _ 0 τ (by omega) hq
theorem sh_sa1 {Q : MS → Prop} (h : SH Q) {b j : Nat} {τ : MS} (hq : Q τ) : Q (sa1 b j τ) := itN_inv Q (N := 6) (fun k x _ hx => h _ _ hx) 6 0 τ (by omega) hq
theorem sh_saG {Q : MS → Prop} (h : SH Q) {b j : Nat} {τ : MS} (hq : Q τ) : Q (saG b j τ) := itN_inv Q (N := 6) (fun k x _ hx => sh_s2R h hx) 6 0 _ (by omega) (sh_sa1 h hq)
theorem SH_PR (c : CS) : SH (PR c) := fun _ _ h => h
theorem ho_step {c : CS} {τ : MS} {b k h : Nat} (hI : PI c) (hW : WI c) (hP : PR c τ) (H : HoR h τ) : HoR (hoS c b k h) (s2S b k τ) := by
  have e0 := kM_eq hP hI (b * 10 + k)
  have e1 := yM_eq hP (b * 10 + k)
  have e2 := xM_eq hP hI (b * 10 + k)
  unfold hoS s2S
  rw [show 10 * b + k = b * 10 + k from (by omega), e0, e1, e2]
  by_cases h1 : gcK c (b * 10 + k) = 1
  · rw [if_pos h1, if_pos h1, H _ (WI_y hW (p := b * 10 + k) (by omega)).2]
    split
    · intro i hi
      rw [hs_ho_ho, Bool.eq_iff_iff, tb_or1]
      unfold va_up
      by_cases e : i = gcX c (b * 10 + k)
      · rw [if_pos e]; exact ⟨fun _ => Or.inr e, fun _ => rfl⟩
      · rw [if_neg e, H i hi]; exact ⟨fun z => Or.inl z, fun z => z.elim id (fun z => absurd z e)⟩
    · exact H
  · rw [if_neg h1, if_neg h1]; exact H
theorem ho_loop {c : CS} {b : Nat} (hI : PI c) (hW : WI c) : ∀ (n k h : Nat) (τ : MS), PR c τ → HoR h τ → HoR (itN (hoS c b) n k h) (itN (s2S b) n k τ) := by
  intro n
  induction n with
  | zero => intro k h τ _ H; exact H
  | succ n ih => intro k h τ hP H; exact ih (k + 1) _ _ (sh_s2 (SH_PR c) hP) (ho_step hI hW hP H)
theorem ho_round {c : CS} {b k j h : Nat} {τ : MS} (hI : PI c) (hW : WI c) (hP : PR c τ) (H : HoR h τ) : HoR (hoR c b j h) (s2R b k τ) := by
  unfold hoR s2R
  rw [← hP.2.1]
  exact ho_loop hI hW _ 0 h τ hP H
theorem ho_rounds {c : CS} {b : Nat} (hI : PI c) (hW : WI c) : ∀ (n k j h : Nat) (τ : MS), PR c τ → HoR h τ → HoR (itN (hoR c b) n j h) (itN (s2R b) n k τ) := by
  intro n
  induction n with
  | zero => intro k j h τ _ H; exact H
  | succ n ih => intro k j h τ hP H; exact ih (k + 1) (j + 1) _ _ (sh_s2R (SH_PR c) hP) (ho_round hI hW hP H)
theorem ho_sub {c : CS} {b j h : Nat} {i : Nat} (hi : h.testBit i = true) : (hoR c b j h).testBit i = true := itN_inv (fun x => x.testBit i = true) (N := gcL c b) (fun k x _ hx => by
  unfold hoS
  split
  · split
    · rw [tb_or1]; exact Or.inl hx
    · exact hx
  · exact hx) _ 0 h (by omega) hi
theorem cF_tb6 {a b : Nat} (hb : b < 64) (h : ∀ i, a.testBit i = true → b.testBit i = true) (hne : a ≠ b) : cF b.testBit 6 < cF a.testBit 6 := by
  have hex : ∃ i, b.testBit i = true ∧ a.testBit i = false := Classical.byContradiction fun hn => hne (Nat.eq_of_testBit_eq fun i => by
    cases h1 : a.testBit i with
    | true => rw [h i h1]
    | false =>
      cases h2 : b.testBit i with
      | false => rfl
      | true => exact absurd ⟨i, h2, h1⟩ hn)
  obtain ⟨i, h1, h2⟩ := hex
  exact cF_lt 6 (fun j _ hj => h j hj) (tb_lt (n := 6) hb h1) h1 h2
theorem hoR_j (c : CS) (b i j h : Nat) : hoR c b i h = hoR c b j h := rfl
theorem ho_it {c : CS} {b h : Nat} (hh : hoR c b 0 h = h) : ∀ n k, itN (hoR c b) n k h = h := by
  intro n
  induction n with
  | zero => intro k; rfl
  | succ n ih =>
    intro k
    show itN (hoR c b) n (k + 1) (hoR c b k h) = h
    rw [hoR_j c b k 0, hh]
    exact ih _
theorem ho_end {c : CS} {b : Nat} (hI : PI c) : ∀ (n k h : Nat), h < 64 → cF h.testBit 6 ≤ n → hoR c b 0 (itN (hoR c b) n k h) = itN (hoR c b) n k h := by
  intro n
  induction n with
  | zero =>
    intro k h hh h0
    show hoR c b 0 h = h
    have ha := cF_all (f := h.testBit) 6 (by omega)
    have hl : hoR c b 0 h < 64 := hoR_lt hI hh
    exact Nat.eq_of_testBit_eq fun i => by
      by_cases hi : i < 6
      · rw [ha i hi, ho_sub (ha i hi)]
      · have e1 : h.testBit i = false := by
          cases e : h.testBit i with
          | false => rfl
          | true => exact absurd (tb_lt (n := 6) hh e) hi
        have e2 : (hoR c b 0 h).testBit i = false := by
          cases e : (hoR c b 0 h).testBit i with
          | false => rfl
          | true => exact absurd (tb_lt (n := 6) hl e) hi
        rw [e1, e2]
  | succ n ih =>
    intro k h hh h0
    show hoR c b 0 (itN (hoR c b) n (k + 1) (hoR c b k h)) = itN (hoR c b) n (k + 1) (hoR c b k h)
    rw [hoR_j c b k 0 h]
    by_cases e : hoR c b 0 h = h
    · rw [e, ho_it e, e]
    · have hl : hoR c b 0 h < 64 := hoR_lt hI hh
      have := cF_tb6 hl (fun i hi => ho_sub (j := 0) (c := c) (b := b) hi) (fun z => e z.symm)
      exact ih _ _ hl (by omega)
theorem sh5 : ∀ r, r < 6 → cF (1 <<< r).testBit 6 ≤ 5 := by decide
theorem itN_last {α : Type} (f : Nat → α → α) : ∀ (n k : Nat) (x : α), itN f (n + 1) k x = f (k + n) (itN f n k x) := by
  intro n
  induction n with
  | zero => intro k x; rfl
  | succ n ih =>
    intro k x
    show itN f (n + 1) (k + 1) (f k x) = f (k + (n + 1)) (itN f n (k + 1) (f k x))
    rw [ih, show k + 1 + n = k + (n + 1) from (by omega)]
theorem sa1_ho (b j : Nat) (τ : MS) {c : CS} (hP : PR c τ) (hI : PI c) : HoR (1 <<< gcX c (b * 10 + j)) (sa1 b j τ) := by
  have q := itN_ind (fun k x => PR c x ∧ ∀ i, i < k → gmho x i = (1 <<< gcX c (b * 10 + j)).testBit i) (f := s1S b j) (N := 6) (fun k x _ hx => by
    refine ⟨hx.1, fun i hi => ?_⟩
    have e2 := xM_eq hx.1 hI (b * 10 + j)
    unfold s1S
    rw [hs_ho_ho, show 10 * b + j = b * 10 + j from (by omega), e2]
    by_cases e : i = k
    · subst e
      rw [va_up_self, Nat.one_shiftLeft, Nat.testBit_two_pow, Bool.eq_iff_iff, decide_eq_true_eq, decide_eq_true_eq]
      exact ⟨fun z => z.symm, fun z => z.symm⟩
    · rw [va_up_ne _ _ e]; exact hx.2 i (by omega)) 6 0 τ (by omega) ⟨hP, fun i hi => absurd hi (Nat.not_lt_zero _)⟩
  exact fun i hi => q.2 i hi
theorem saG_ho {c : CS} {τ : MS} (b j : Nat) (hI : PI c) (hW : WI c) (hP : PR c τ) : HoR (hoF c b (gcX c (b * 10 + j))) (saG b j τ) := by
  have h1 := sa1_ho b j τ hP hI
  have hr := hI.2.2.2.1 (b * 10 + j)
  have h2 := ho_rounds (b := b) hI hW 6 0 1 _ _ (sh_sa1 (SH_PR c) hP) h1
  rw [itN_last, hoR_j c b _ 0, ho_end hI 5 1 _ (shl_lt (n := 6) hr) (sh5 _ hr)] at h2
  exact h2
theorem sa_loop {c : CS} {τ : MS} {b h : Nat} (hI : PI c) (hW : WI c) (hP : PR c τ) (H : HoR h τ) : ∀ (n k w : Nat), itN (s3S τ b) n k (decide (h &&& w = 0)) = decide (h &&& itN (woS c b) n k w = 0) := by
  intro n
  induction n with
  | zero => intro k w; rfl
  | succ n ih =>
    intro k w
    show itN (s3S τ b) n (k + 1) (s3S τ b k (decide (h &&& w = 0))) = decide (h &&& itN (woS c b) n (k + 1) (woS c b k w) = 0)
    rw [← ih]
    refine congrArg _ ?_
    have e0 := kM_eq hP hI (b * 10 + k)
    have e1 := yM_eq hP (b * 10 + k)
    have e2 := xM_eq hP hI (b * 10 + k)
    unfold s3S woS
    rw [show 10 * b + k = b * 10 + k from (by omega), e0, e1, e2]
    by_cases h6 : gcK c (b * 10 + k) = 6
    · rw [if_pos h6, if_pos h6, dec1, H _ (WI_y hW (p := b * 10 + k) (by omega)).2]
    · rw [if_neg h6, if_neg h6]
      by_cases h7 : gcK c (b * 10 + k) = 7
      · rw [if_pos h7, if_pos h7, H _ (WI_y hW (p := b * 10 + k) (by omega)).2, H 5 (by decide), ← Nat.or_assoc, show (32 : Nat) = 1 <<< 5 from rfl, dec1, dec1]
      · rw [if_neg h7, if_neg h7]
        by_cases h8 : gcK c (b * 10 + k) = 11
        · rw [if_pos h8, if_pos h8, dec1, H _ (hI.2.2.2.1 _)]
        · rw [if_neg h8, if_neg h8]
theorem sa_eq {c : CS} {τ : MS} (b j : Nat) (hI : PI c) (hW : WI c) (hP : PR c τ) : saB b j τ = decide (hoF c b (gcX c (b * 10 + j)) &&& woF c b = 0) := by
  have hP2 : PR c (saG b j τ) := sh_saG (SH_PR c) hP
  have H := saG_ho b j hI hW hP
  unfold saB woF
  obtain ⟨π, hπ⟩ : ∃ z, z = saG b j τ := ⟨_, rfl⟩
  rw [← hπ] at hP2 H ⊢
  have q := sa_loop (b := b) hI hW hP2 H (gmmy π b) 0 0
  rw [Nat.and_zero, decide_eq_true rfl] at q
  rw [q, hP2.2.1]
/-! the reference's verdicts -/
def Um (c : CS) (u : MS) (τ : MS) : Prop := PR c τ ∧ gmmd τ = gmmd u ∧ gmrd τ = gmrd u ∧ gmch τ = gmch u
theorem SH_Um (c : CS) (u : MS) : SH (Um c u) := fun _ _ h => h
theorem SH_si (f : Nat → Nat) : SH (fun τ => gmsi τ = f) := fun _ _ h => h
theorem shS_get {c : CS} {u τ : MS} {b k : Nat} (hb : b < 24) (hI : PI c) (hW : WI c) (hm : ∀ i, i < 6 → gmmd u i = (gcma c).testBit i) (hr : ∀ i, i < 24 → gmrd u i = (gcre c).testBit i) (hU : Um c u τ) : Um c u (shS b k τ) ∧ gmsi (shS b k τ) = va_up (gmsi τ) (10 * b + k) (vtF c b k) := by
  have e0 := kM_eq hU.1 hI (b * 10 + k)
  have e1 := zM_eq hU.1 (b * 10 + k)
  have hm2 : ∀ i, i < 6 → gmmd τ i = (gcma c).testBit i := fun i hi => by rw [hU.2.1]; exact hm i hi
  have hG : Um c u (saG b k τ) := sh_saG (SH_Um c u) hU
  have hs : gmsi (saG b k τ) = gmsi τ := sh_saG (SH_si (gmsi τ)) rfl
  have ha := sa_eq b k hI hW hU.1
  have key : ∀ (π : MS) (v : Nat), Um c u π → gmsi π = gmsi τ → Um c u (shP π b k v) ∧ gmsi (shP π b k v) = va_up (gmsi τ) (10 * b + k) (if (gcre c).testBit b = true then v else 0) := fun π v h1 h2 => by
    unfold shP
    refine ⟨h1, ?_⟩
    rw [hs_si_si, h2, h1.2.2.1, hr b hb]
  unfold shS vtF
  rw [show kM τ (10 * b + k) = gcK c (b * 10 + k) from (by rw [show 10 * b + k = b * 10 + k from (by omega)]; exact e0), show zM τ (10 * b + k) = zN c (b * 10 + k) from (by rw [show 10 * b + k = b * 10 + k from (by omega)]; exact e1)]
  by_cases h7 : gcK c (b * 10 + k) = 7
  · rw [if_pos h7, if_pos h7, ca_eq hU.1 hI hm2 (WI_z4 hW h7).2]
    exact key τ _ hU rfl
  · rw [if_neg h7, if_neg h7]
    by_cases h4 : gcK c (b * 10 + k) = 4
    · rw [if_pos h4, if_pos h4, ha]
      have q := key (saG b k τ) (if hoF c b (gcX c (b * 10 + k)) &&& woF c b = 0 then 5 else 6) hG hs
      by_cases hz : hoF c b (gcX c (b * 10 + k)) &&& woF c b = 0
      · rw [if_pos hz] at q
        rw [decide_eq_true hz, if_pos rfl, if_pos hz]
        exact q
      · rw [if_neg hz] at q
        rw [decide_eq_false hz, if_neg (by decide), if_neg hz]
        exact q
    · rw [if_neg h4, if_neg h4]
      have q := key τ 0 hU rfl
      exact q
def pcF (f : Nat → Bool) : Nat → Nat
  | 0 => 0
  | n + 1 => pcF f n + (if f n = true then 1 else 0)
theorem ver_m {c : CS} {u : MS} (hI : PI c) (hW : WI c) (hP : PR c u) (hm : ∀ i, i < 6 → gmmd u i = (gcma c).testBit i) (hr : ∀ i, i < 24 → gmrd u i = (gcre c).testBit i) (h6 : ∀ i, gmsi u i ≤ 6) : (itN shO 24 0 (0, u)).1 = pcF (gcre c).testBit 24 ∧ Um c u (itN shO 24 0 (0, u)).2 ∧ (∀ i, gmsi (itN shO 24 0 (0, u)).2 i ≤ 6) ∧ ∀ b k, b < 24 → k < gcL c b → gmsi (itN shO 24 0 (0, u)).2 (10 * b + k) = vtF c b k := by
  have q := itN_ind (fun b (s : Nat × MS) => s.1 = pcF (gcre c).testBit b ∧ Um c u s.2 ∧ (∀ i, gmsi s.2 i ≤ 6) ∧ ∀ a k, a < b → k < gcL c a → gmsi s.2 (10 * a + k) = vtF c a k) (f := shO) (N := 24) (fun b s hb hs => by
    obtain ⟨n, τ⟩ := s
    obtain ⟨s1, s2, s3, s4⟩ := hs
    have s1 : n = _ := s1
    have s2 : Um c u τ := s2
    have s3 : ∀ i, gmsi τ i ≤ 6 := s3
    have s4 : ∀ a k, a < b → k < gcL c a → gmsi τ (10 * a + k) = vtF c a k := s4
    have e : (shO b (n, τ)).1 = n + (if gmrd τ b = true then 1 else 0) := rfl
    have e2 : (shO b (n, τ)).2 = itN (shS b) (gmmy τ b) 0 τ := rfl
    rw [e, e2, s2.2.2.1, hr b hb, s1, ← s2.1.2.1]
    have w := itN_ind (fun k x => Um c u x ∧ (∀ i, gmsi x i ≤ 6) ∧ (∀ j, j < k → gmsi x (10 * b + j) = vtF c b j) ∧ ∀ i, i < 10 * b → gmsi x i = gmsi τ i) (f := shS b) (N := gcL c b) (fun k x hk hx => by
      obtain ⟨a1, a2⟩ := shS_get (k := k) hb hI hW hm hr hx.1
      rw [a2]
      refine ⟨a1, fun i => va_up_i _ _ _ i (fun z => z ≤ 6) (vtF_le ..) (hx.2.1 i), fun j hj => ?_, fun i hi => ?_⟩
      · by_cases e : j = k
        · rw [e, va_up_self]
        · rw [va_up_ne _ _ (by omega)]; exact hx.2.2.1 j (by omega)
      · rw [va_up_ne _ _ (by omega)]; exact hx.2.2.2 i hi) (gcL c b) 0 τ (by omega) ⟨s2, s3, fun j hj => absurd hj (Nat.not_lt_zero _), fun i _ => rfl⟩
    rw [Nat.zero_add] at w
    refine ⟨rfl, w.1, w.2.1, fun a k ha hk => ?_⟩
    by_cases ea : a = b
    · subst ea; exact w.2.2.1 k hk
    · have := hI.2.1 a
      rw [w.2.2.2 _ (by omega)]; exact s4 a k (by omega) hk) 24 0 (0, u) (by omega) ⟨rfl, ⟨hP, rfl, rfl, rfl⟩, h6, fun a k ha => absurd ha (Nat.not_lt_zero _)⟩
  rw [Nat.zero_add] at q
  exact q
def SN (Q : MS → Prop) : Prop := (∀ τ v, Q τ → Q (smmd τ v)) ∧ (∀ τ v, Q τ → Q (smrd τ v))
theorem sn_ra {Q : MS → Prop} (h : SN Q) {q k : Nat} {s : Bool × MS} (hq : Q s.2) : Q (raS q k s).2 := by
  unfold raS
  split
  · exact hq
  · split
    · exact hq
    · exact h.2 _ _ hq
theorem sn_gr {Q : MS → Prop} (h : SN Q) {b k : Nat} {s : Bool × MS} (hq : Q s.2) : Q (grS b k s).2 := by
  unfold grS
  split
  · split
    · exact hq
    · exact h.1 _ _ hq
  · split
    · exact itN_inv (fun s : Bool × MS => Q s.2) (N := 6) (fun k x _ hx => sn_ra h hx) 6 0 (false, s.2) (by omega) hq
    · exact hq
theorem sn_ps {Q : MS → Prop} (h : SN Q) {b : Nat} {s : Bool × MS} (hq : Q s.2) : Q (psS b s).2 := by
  unfold psS
  split
  · exact itN_inv (fun s : Bool × MS => Q s.2) (N := gmmy s.2 b) (fun k x _ hx => sn_gr h hx) _ 0 (false, s.2) (by omega) hq
  · exact hq
theorem sn_wh {Q : MS → Prop} (h : SN Q) : ∀ (n : Nat) (x : Bool) (τ : MS), Q τ → Q (whL n x τ) := by
  intro n
  induction n with
  | zero => intro x τ q; exact q
  | succ n ih =>
    intro x τ q
    unfold whL
    split
    · exact ih _ _ (itN_inv (fun s : Bool × MS => Q s.2) (N := 24) (fun k x _ hx => sn_ps h hx) 24 0 (false, τ) (by omega) q)
    · exact q
theorem shW_chsi (ρ : MS) : (∀ b, b < 24 → gmch (shW ρ) b = false) ∧ gmsi (shW ρ) = gmsi ρ := by
  refine sn_wh (Q := fun x => (∀ b, b < 24 → gmch x b = false) ∧ gmsi x = gmsi ρ) ⟨fun _ _ h => h, fun _ _ h => h⟩ 31 true _ ?_
  obtain ⟨g1, g2, g3⟩ := s12_get ρ
  have g4 : gmsi (sh2 (sh1 ρ)) = gmsi ρ := by
    have e : gmsi (sh1 ρ) = gmsi ρ := by unfold sh1; rw [hs_si_md, hs_si_th]
    obtain ⟨π, hπ⟩ : ∃ z, z = sh1 ρ := ⟨_, rfl⟩
    rw [← hπ] at e ⊢
    unfold sh2
    rw [hs_si_ch, hs_si_rd, e]
  obtain ⟨π, hπ⟩ : ∃ z, z = sh2 (sh1 ρ) := ⟨_, rfl⟩
  rw [← hπ] at g3 g4 ⊢
  have h3 : ∀ b, b < 24 → gmch π b = false := fun b hb => by rw [g3, gen0_lt _ _ hb]
  unfold sh3
  split
  · exact ⟨h3, g4⟩
  · exact ⟨h3, g4⟩
