/-! the reference's run, and that the class's goes with it -/
def rn0 (h : Nat) (σ : MS) : MS := smrm (smfr (smob (smct (smth σ (thF false false)) (gen0 (gmct σ) 6 (fun _ => 0))) 0) 0) h
def rnL : Nat → Bool → MS → Nat × MS
  | 0, _, τ => (0, τ)
  | n + 1, sh, τ => if gmfr τ = 0 then (0, τ) else if gmmy τ (gmbo τ (gmfr τ - 1)) ≤ gmpl τ (gmfr τ - 1) then rnL n sh (awF false (nI 0) τ) else if gmct τ 4 = 400 then (5, τ) else if doR sh (icM 4 τ) = 0 then rnL n sh (doF sh (icM 4 τ)) else (doR sh (icM 4 τ), doF sh (icM 4 τ))
def mrB (sh : Bool) (τ : MS) : Nat × MS := match tgM τ 0 0 with
  | none => (6, τ)
  | some b => rnL 5602 sh (esF b (nI 0) false (nI 0) 0 (icM 3 τ))
def mrF (sh : Bool) (h : Nat) (σ : MS) : Nat × MS := match maR false (rn0 h σ) with
  | none => (3, maF 0 false (rn0 h σ))
  | some _ => mrB sh (maF 0 false (rn0 h σ))
/-- class and reference in a run that goes on -/
def HC (sh : Bool) (c : CS) (τ : MS) : Prop := XR c τ ∧ GI c ∧ gctr c = 0 ∧ gcCt c 1 ≤ gcrm c ∧ gcsh c = sh
def ms (τ : MS) : Nat := 14 * (400 - gmct τ 4) + gmfr τ
theorem HC_an {sh : Bool} {c : CS} {τ : MS} (h : HC sh c τ) (hf : 0 < gcfr c) : HC sh (anF (.inl 0) c) (awF false (nI 0) τ) := by
  obtain ⟨h1, h2, h3, h4, h5⟩ := h
  have q := TT_an h1 h3 h4 hf (v := .inl 0) (b := false) (w := nI 0) ⟨rfl, nI_0⟩ (inl_no 0)
  exact ⟨q.1, GI_an h2 (inl_no 0), q.2.1, q.2.2.1, by rw [q.2.2.2.2.2]; exact h5⟩
theorem HC_st {sh : Bool} {c : CS} {τ : MS} (h : HC sh c τ) (hf : 0 < gcfr c) (hn : gcNe c (gcfr c - 1) < gcL c (gcBo c (gcfr c - 1))) (h4 : gcCt c 4 < 400) : XR (stF c) (doF sh (icM 4 τ)) ∧ gctr (stF c) = doR sh (icM 4 τ) ∧ gcCt (stF c) 1 ≤ gcrm (stF c) ∧ gcCt (stF c) 4 = gcCt c 4 + 1 ∧ gcfr (stF c) ≤ gcfr c + 1 ∧ gcsh (stF c) = sh := by
  obtain ⟨x1, x2, x3, x4, x5⟩ := h
  have e4 := x1.1.2.2.2.1
  have e5 := x1.1.2.2.2.2.1
  have e10 := x1.1.2.2.2.2.2.2.2.2.2.1
  have hO := OI_st x2 hf hn h4
  have X1 := x_nx (gcfr c - 1) (x_inc 4 x1)
  have hs : siF (icM 4 τ) (gcBo c (gcfr c - 1)) (gcNe c (gcfr c - 1)) = gcV c (gcBo c (gcfr c - 1) * 10 + gcNe c (gcfr c - 1)) := by
    rw [x1.2.2.1 _ _ hn]
    unfold siF
    rw [q_icM_rd, q_icM_ch, q_icM_si]
  have q := TT_pf X1 hO.1 (Nat.lt_succ_of_le hO.2.2.2.2.1) (by rw [q_nxF_tr, q_inc_tr]; exact x3) (by rw [q_nxF_Ct, q_inc_Ct, va_up_ne _ _ (by decide), q_nxF_rm, q_inc_rm]; exact x4) (gcBo c (gcfr c - 1) * 10 + gcNe c (gcfr c - 1)) ((gcfr c - 1) * 6) (doZ sh (icM 4 τ)) (gcfr c - 1) (by rw [q_nxF_fr, q_inc_fr]; exact hf) (by rw [q_nxF_fr, q_inc_fr]) (by rw [q_nxF_fr, q_inc_fr])
    (by unfold doZ; rw [q_nxF_sh, q_inc_sh, x5, q_nxF_V, q_inc_V, q_icM_bo, q_icM_pl, q_icM_fr, ← e4, ← e5, ← e10, hs])
  have hd : doP (icM 4 τ) = gcBo c (gcfr c - 1) * 10 + gcNe c (gcfr c - 1) := by
    unfold doP
    rw [q_icM_bo, q_icM_pl, q_icM_fr, ← e4, ← e5, ← e10, Nat.mul_comm]
  unfold stF doF doR
  rw [if_neg (by omega), hd, q_icM_fr, ← e10, Nat.mul_comm 6]
  refine ⟨q.1, q.2.1, q.2.2.1, ?_, ?_, ?_⟩
  · rw [q.2.2.2.1, q_nxF_Ct, q_inc_Ct, va_up_self]
  · have q5 := q.2.2.2.2.1
    rw [q_nxF_fr, q_inc_fr] at q5
    exact q5
  · rw [q.2.2.2.2.2, q_nxF_sh, q_inc_sh, x5]
theorem exL_tr {c : CS} (h : ¬ gctr c = 0) : ∀ n, exL n c = c := by
  intro n
  cases n with
  | zero => rfl
  | succ n =>
    unfold exL igB
    rw [decide_eq_false h, Bool.false_and, if_neg (by decide)]
theorem pops {sh : Bool} : ∀ (k : Nat) (c : CS) (τ : MS) (m : Nat), gcfr c = k → HC sh c τ → ms τ < m → ∃ (τ2 : MS) (m2 : Nat), rnL m sh τ = rnL m2 sh τ2 ∧ HC sh (igL k c) τ2 ∧ gcCt (igL k c) 4 = gcCt c 4 ∧ ms τ2 < m2 := by
  intro k
  induction k with
  | zero => intro c τ m _ h hm; exact ⟨τ, m, rfl, h, rfl, hm⟩
  | succ k ih =>
    intro c τ m hf h hm
    have e2 := h.1.2.1.2.1
    have e4 := h.1.1.2.2.2.1
    have e5 := h.1.1.2.2.2.2.1
    have e9 := h.1.1.2.2.2.2.2.2.2.2.1
    have e10 := h.1.1.2.2.2.2.2.2.2.2.2.1
    unfold igL
    by_cases hb : gcL c (gcBo c k) ≤ gcNe c k
    · rw [if_pos hb]
      cases m with
      | zero => exact absurd hm (Nat.not_lt_zero _)
      | succ m =>
        have q := HC_an h (by omega)
        obtain ⟨g1, g2, g3, g4, g5, g6, g7, g8⟩ := an_get2 (.inl 0) c
        have f9 := q.1.1.2.2.2.2.2.2.2.2.1
        have f10 := q.1.1.2.2.2.2.2.2.2.2.2.1
        have hms : ms (awF false (nI 0) τ) < m := by
          unfold ms at hm ⊢
          rw [← f9, ← f10, g2, g4]
          rw [← e9, ← e10] at hm
          omega
        obtain ⟨τ2, m2, r1, r2, r3, r4⟩ := ih (anF (.inl 0) c) (awF false (nI 0) τ) m (by rw [g4]; omega) q hms
        refine ⟨τ2, m2, ?_, r2, by rw [r3, g2], r4⟩
        rw [← r1]
        show (if gmfr τ = 0 then (0, τ) else if gmmy τ (gmbo τ (gmfr τ - 1)) ≤ gmpl τ (gmfr τ - 1) then rnL m sh (awF false (nI 0) τ) else if gmct τ 4 = 400 then (5, τ) else if doR sh (icM 4 τ) = 0 then rnL m sh (doF sh (icM 4 τ)) else (doR sh (icM 4 τ), doF sh (icM 4 τ))) = _
        rw [if_neg (by omega), if_pos (by rw [← e10, ← e2, ← e4, ← e5, hf]; exact hb)]
    · rw [if_neg hb]
      exact ⟨τ, m, rfl, h, rfl, hm⟩
theorem run_sim {sh : Bool} : ∀ (n : Nat) (c : CS) (τ : MS) (m : Nat), HC sh c τ → TP c → n = 401 - gcCt c 4 → ms τ < m → (rnL m sh τ).1 = gctr (exL n c) ∧ XZ (exL n c) (rnL m sh τ).2 ∧ GI (exL n c) := by
  intro n
  induction n with
  | zero =>
    intro c τ m h _ hn _
    have := h.2.1.1.2.2.2.2.1.2.2.1
    omega
  | succ n ih =>
    intro c τ m h hU hn hm
    have e2 := h.1.2.1.2.1
    have e4 := h.1.1.2.2.2.1
    have e5 := h.1.1.2.2.2.2.1
    have e9 := h.1.1.2.2.2.2.2.2.2.2.1
    have e10 := h.1.1.2.2.2.2.2.2.2.2.2.1
    cases m with
    | zero => exact absurd hm (Nat.not_lt_zero _)
    | succ m =>
      have hu : rnL (m + 1) sh τ = (if gmfr τ = 0 then (0, τ) else if gmmy τ (gmbo τ (gmfr τ - 1)) ≤ gmpl τ (gmfr τ - 1) then rnL m sh (awF false (nI 0) τ) else if gmct τ 4 = 400 then (5, τ) else if doR sh (icM 4 τ) = 0 then rnL m sh (doF sh (icM 4 τ)) else (doR sh (icM 4 τ), doF sh (icM 4 τ))) := rfl
      rw [hu]
      unfold exL
      by_cases hB : igB c = true
      · obtain ⟨hf, ht⟩ := igB_top hB hU
        rw [if_pos hB, if_neg (by omega), if_neg (by rw [← e10, ← e2, ← e4, ← e5]; omega), ← e9]
        by_cases h4 : gcCt c 4 = 400
        · rw [if_pos h4]
          have hs : stF c = sctr c 5 := by unfold stF; rw [if_pos (by omega)]
          have htr : gctr (igF (sctr c 5)) = 5 := by unfold igF; rw [ig_tr, gs_tr_tr]
          rw [hs, exL_tr (by rw [htr]; decide)]
          exact ⟨htr.symm, XZ_igL _ _ (XZ_of (x_tr 5 h.1)), GI_ig (GI_tr h.2.1 (by decide))⟩
        · rw [if_neg h4]
          have hle := h.2.1.1.2.2.2.2.1.2.2.1
          obtain ⟨s1, s2, s3, s4, s5, s6⟩ := HC_st h hf ht (by omega)
          have hG := GI_st h.2.1 hf ht
          by_cases hd : doR sh (icM 4 τ) = 0
          · rw [if_pos hd]
            have f9 := s1.1.2.2.2.2.2.2.2.2.1
            have f10 := s1.1.2.2.2.2.2.2.2.2.2.1
            have hms : ms (doF sh (icM 4 τ)) < m := by
              unfold ms at hm ⊢
              rw [← f9, ← f10, s4]
              rw [← e9, ← e10] at hm
              omega
            obtain ⟨τ2, m2, p1, p2, p3, p4⟩ := pops (gcfr (stF c)) (stF c) (doF sh (icM 4 τ)) m rfl ⟨s1, hG, by rw [s2, hd], s3, s6⟩ hms
            rw [p1]
            have p2 : HC sh (igF (stF c)) τ2 := p2
            have p3 : gcCt (igF (stF c)) 4 = gcCt (stF c) 4 := p3
            exact ih (igF (stF c)) τ2 m2 p2 (TP_ig _) (by rw [p3, s4]; omega) p4
          · rw [if_neg hd]
            have htr : gctr (igF (stF c)) = doR sh (icM 4 τ) := by unfold igF; rw [ig_tr, s2]
            rw [exL_tr (by rw [htr]; exact hd)]
            exact ⟨htr.symm, XZ_igL _ _ (XZ_of s1), GI_ig hG⟩
      · have h0 : gcfr c = 0 := by
          have hz := h.2.2.1
          unfold igB at hB
          rw [decide_eq_true hz, Bool.true_and, decide_eq_true_eq] at hB
          omega
        rw [if_neg hB, if_pos (by omega)]
        exact ⟨h.2.2.1.symm, XZ_of h.1, h.2.1⟩
theorem x_ex0 {c : CS} {ρ : MS} (b : Bool) (h : Nat) (hX : XZ c ρ) : XR (ex0 b h c) (rn0 h ρ) := by
  have hM : KM ρ (rn0 h ρ) := by
    unfold rn0
    exact ⟨by rw [hs_ty_rm, hs_ty_fr, hs_ty_ob, hs_ty_ct, hs_ty_th], by rw [hs_my_rm, hs_my_fr, hs_my_ob, hs_my_ct, hs_my_th], by rw [hs_pa_rm, hs_pa_fr, hs_pa_ob, hs_pa_ct, hs_pa_th], by rw [hs_cd_rm, hs_cd_fr, hs_cd_ob, hs_cd_ct, hs_cd_th], by rw [hs_si_rm, hs_si_fr, hs_si_ob, hs_si_ct, hs_si_th], by rw [hs_rd_rm, hs_rd_fr, hs_rd_ob, hs_rd_ct, hs_rd_th], by rw [hs_ch_rm, hs_ch_fr, hs_ch_ob, hs_ch_ct, hs_ch_th]⟩
  have hX2 : PR (scsh c b) ρ ∧ SV (scsh c b) ρ := ⟨hX.2.1, hX.2.2⟩
  refine ⟨?_, PS_of ⟨by rw [q_ex0_P]; rfl, by rw [q_ex0_L]; rfl, by rw [q_ex0_K]; rfl, by rw [q_ex0_X]; rfl, by rw [q_ex0_Y]; rfl, by rw [q_ex0_Z]; rfl, by rw [q_ex0_n]; rfl, by rw [q_ex0_V]; rfl, by rw [q_ex0_sh]; rfl⟩ hM hX2⟩
  obtain ⟨r1, r2, r3, r4, r5, r6, r7, r8, r9, r10, r11, r12⟩ := hX.1
  unfold RR rn0
  rw [q_ex0_Rg, q_ex0_Fl, q_ex0_Cl, q_ex0_Bo, q_ex0_Ne, q_ex0_An, q_ex0_Po, q_ex0_Ct, q_ex0_fr, q_ex0_ob, q_ex0_rm, hs_is_rm, hs_is_fr, hs_is_ob, hs_is_ct, hs_is_th, hs_va_rm, hs_va_fr, hs_va_ob, hs_va_ct, hs_va_th, hs_fI_rm, hs_fI_fr, hs_fI_ob, hs_fI_ct, hs_fI_th, hs_fV_rm, hs_fV_fr, hs_fV_ob, hs_fV_ct, hs_fV_th, hs_cl_rm, hs_cl_fr, hs_cl_ob, hs_cl_ct, hs_cl_th, hs_bo_rm, hs_bo_fr, hs_bo_ob, hs_bo_ct, hs_bo_th, hs_pl_rm, hs_pl_fr, hs_pl_ob, hs_pl_ct, hs_pl_th, hs_wa_rm, hs_wa_fr, hs_wa_ob, hs_wa_ct, hs_wa_th, hs_ou_rm, hs_ou_fr, hs_ou_ob, hs_ou_ct, hs_ou_th, hs_ct_rm, hs_ct_fr, hs_ct_ob, hs_ct_ct, hs_fr_rm, hs_fr_fr, hs_ob_rm, hs_ob_fr, hs_ob_ob, hs_rm_rm]
  refine ⟨fun i => ⟨fun h2 => absurd h2 (Nat.not_lt_zero _), r1 i⟩, r2, r3, r4, r5, fun i _ h2 => absurd h2 (Nat.not_lt_zero _), r7, r8, ?_, rfl, rfl, rfl⟩
  funext i
  unfold fillF gen0
  rw [r9]
  by_cases e : i < 6
  · rw [if_pos e, if_pos ⟨Nat.zero_le _, e⟩]
  · rw [if_neg e, if_neg (fun z => e z.2)]
theorem rn0_get (h : Nat) (ρ : MS) : gmct (rn0 h ρ) = gen0 (gmct ρ) 6 (fun _ => 0) ∧ gmob (rn0 h ρ) = 0 ∧ gmrm (rn0 h ρ) = h ∧ gmfr (rn0 h ρ) = 0 := by
  unfold rn0
  rw [hs_ct_rm, hs_ct_fr, hs_ct_ob, hs_ct_ct, hs_ob_rm, hs_ob_fr, hs_ob_ob, hs_rm_rm, hs_fr_rm, hs_fr_fr]
  exact ⟨rfl, rfl, rfl, rfl⟩
theorem tg_i1 (c : CS) : tgC (inc 1 (noF 0 c)) 0 0 = tgC c 0 0 := by
  unfold tgC
  rw [q_inc_P, q_inc_L, q_noF_P, q_noF_L]
/-- where the run begins -/
theorem HC_bg {c : CS} {ρ : MS} {sh : Bool} {h : Nat} (hX : XZ c ρ) (hR : RI c) (hh : h ≤ 60) (h0 : ¬ h < 1) {b : Nat} (hb : tgC (ex0 sh h c) 0 0 = some b) : HC sh (bgF (ex0 sh h c)) (esF b (nI 0) false (nI 0) 0 (icM 3 (maF 0 false (rn0 h ρ)))) ∧ gcCt (bgF (ex0 sh h c)) 4 = 0 ∧ gcfr (bgF (ex0 sh h c)) = 1 := by
  have X0 := x_ex0 sh h hX
  have hG := GI_bg (b := sh) hR hh
  obtain ⟨c0, hc0⟩ : ∃ z, z = ex0 sh h c := ⟨_, rfl⟩
  obtain ⟨ρ0, hρ0⟩ : ∃ z, z = rn0 h ρ := ⟨_, rfl⟩
  have g := ex0_get sh h c
  have g2 := rn0_get h ρ
  rw [← hc0] at X0 hG hb g ⊢
  rw [← hρ0] at X0 g2 ⊢
  obtain ⟨g1, g3, g4, g5, g6, g7⟩ := g
  have hF : maF 0 false ρ0 = mk1 (mk0 0 false ρ0) := by
    unfold maF
    rw [if_neg (by intro z; have z2 := z.2; rw [g2.1, g2.2.2.1] at z2; have z3 : (0 : Nat) = h := z2; omega)]
  have hbg : bgF c0 = enF b (.inr (gcob c0)) (.inl 0) (inc 3 (inc 1 (noF 0 c0))) := by
    unfold bgF
    rw [if_neg (by rw [g5]; exact h0), hb]
  have X1 := x_inc 3 (x_ni 0 X0)
  have X2 := x_en b 0 X1 (x := .inr (gcob c0)) (y := .inl 0) (v := nI 0) (b2 := false) (w := nI 0) ⟨rfl, by rw [g1]⟩ ⟨rfl, nI_0⟩ (fun _ => by decide) (fun z => by cases z) (by decide) (fun z => by rw [q_inc_fr, q_inc_fr, q_noF_fr, g3] at z; exact absurd z (by decide))
  rw [hF]
  have ct : ∀ j, j < 6 → gcCt c0 j = 0 := fun j hj => by rw [g7]; unfold fillF; rw [if_pos ⟨Nat.zero_le _, hj⟩]
  refine ⟨⟨by rw [hbg]; exact X2, hG, ?_, ?_, ?_⟩, ?_, ?_⟩
  · rw [hbg, q_enF_tr, q_inc_tr, q_inc_tr, q_noF_tr, g4]
  · rw [hbg, q_enF_Ct, va_up_ne _ _ (by decide), q_inc_Ct, va_up_ne _ _ (by decide), q_inc_Ct, va_up_self, q_noF_Ct, ct 1 (by decide), q_enF_rm, q_inc_rm, q_inc_rm, q_noF_rm, g5]
    omega
  · rw [hbg, q_enF_sh, q_inc_sh, q_inc_sh, q_noF_sh, g6]
  · rw [hbg, q_enF_Ct, va_up_ne _ _ (by decide), q_inc_Ct, va_up_ne _ _ (by decide), q_inc_Ct, va_up_ne _ _ (by decide), q_noF_Ct, ct 4 (by decide)]
  · rw [hbg, q_enF_fr, q_inc_fr, q_inc_fr, q_noF_fr, g3]
theorem ms_0 {sh : Bool} {c : CS} {τ : MS} (h : HC sh c τ) (h4 : gcCt c 4 = 0) (hf : gcfr c = 1) : ms τ < 5602 := by
  have e9 := h.1.1.2.2.2.2.2.2.2.2.1
  have e10 := h.1.1.2.2.2.2.2.2.2.2.2.1
  unfold ms
  rw [← e9, ← e10, h4, hf]
  decide
theorem run_top {c : CS} {ρ : MS} {h : Nat} (sh : Bool) (hX : XZ c ρ) (hR : RI c) (hh : h ≤ 60) : (mrF sh h ρ).1 = gctr (exF sh h c) ∧ XZ (exF sh h c) (mrF sh h ρ).2 ∧ RI (exF sh h c) := by
  have X0 := x_ex0 sh h hX
  have hG := GI_bg (b := sh) hR hh
  have g := ex0_get sh h c
  have g2 := rn0_get h ρ
  obtain ⟨g1, g3, g4, g5, g6, g7⟩ := g
  have hct : gmct (rn0 h ρ) 1 = 0 := by rw [g2.1]; rfl
  unfold exF
  by_cases h0 : h < 1
  · have hm : maR false (rn0 h ρ) = none := by unfold maR; rw [if_pos ⟨rfl, by rw [hct, g2.2.2.1]; omega⟩]
    have hF : maF 0 false (rn0 h ρ) = rn0 h ρ := by unfold maF; rw [if_pos ⟨rfl, by rw [hct, g2.2.2.1]; omega⟩]
    have hbg : bgF (ex0 sh h c) = sctr (ex0 sh h c) 3 := by unfold bgF; rw [if_pos (by rw [g5]; exact h0)]
    have hmr : mrF sh h ρ = (3, rn0 h ρ) := by unfold mrF; rw [hm, hF]
    rw [hbg] at hG
    rw [hmr, hbg, exL_tr (by rw [gs_tr_tr]; decide)]
    exact ⟨rfl, XZ_of (x_tr 3 X0), hG.1⟩
  · have hn : ¬ gmct (rn0 h ρ) 1 = gmrm (rn0 h ρ) := by rw [hct, g2.2.2.1]; omega
    have hm : maR false (rn0 h ρ) = some (gmob (rn0 h ρ)) := by unfold maR; rw [if_neg (fun z => hn z.2)]
    have hF : maF 0 false (rn0 h ρ) = mk1 (mk0 0 false (rn0 h ρ)) := by unfold maF; rw [if_neg (fun z => hn z.2)]
    have hmr : mrF sh h ρ = mrB sh (maF 0 false (rn0 h ρ)) := by unfold mrF; rw [hm]
    have X1 := x_ni 0 X0
    have htg := tg_eq X1.2.1 0 (q := 0) (by decide)
    rw [tg_i1, ← hF] at htg
    rw [hmr]
    unfold mrB
    rw [← htg]
    cases hb : tgC (ex0 sh h c) 0 0 with
    | none =>
      have hbg : bgF (ex0 sh h c) = sctr (inc 1 (noF 0 (ex0 sh h c))) 6 := by unfold bgF; rw [if_neg (by rw [g5]; exact h0), hb]
      rw [hbg] at hG
      rw [hbg, exL_tr (by rw [gs_tr_tr]; decide), hF]
      exact ⟨rfl, XZ_of (x_tr 6 X1), hG.1⟩
    | some b =>
      obtain ⟨q1, q2, q3⟩ := HC_bg (sh := sh) hX hR hh h0 hb
      have r := run_sim 401 _ _ 5602 q1 (TP_bg g3) (by rw [q2]) (ms_0 q1 q2 q3)
      exact ⟨r.1, r.2.1, r.2.2.1⟩
/-- what the reference's loop needs of its state -/
def HR (sh : Bool) (τ : MS) : Prop := ∃ c, HC sh c τ
theorem HR_VI {sh : Bool} {τ : MS} (h : HR sh τ) : VI τ := by
  obtain ⟨c, h⟩ := h
  exact VI_of h.1 h.2.1.1
theorem HR_an {sh : Bool} {τ : MS} (h : HR sh τ) (hf : 0 < gmfr τ) : HR sh (awF false (nI 0) τ) ∧ ms (awF false (nI 0) τ) < ms τ := by
  obtain ⟨c, h⟩ := h
  have e9 := h.1.1.2.2.2.2.2.2.2.2.1
  have e10 := h.1.1.2.2.2.2.2.2.2.2.2.1
  have q := HC_an h (by omega)
  obtain ⟨g1, g2, g3, g4, g5, g6, g7, g8⟩ := an_get2 (.inl 0) c
  have f9 := q.1.1.2.2.2.2.2.2.2.2.1
  have f10 := q.1.1.2.2.2.2.2.2.2.2.2.1
  refine ⟨⟨_, q⟩, ?_⟩
  unfold ms
  rw [← f9, ← f10, g2, g4, ← e9, ← e10]
  omega
/-- .. where an operation is to be done -/
theorem HR_do {sh : Bool} {τ : MS} (h : HR sh τ) (hf : 0 < gmfr τ) (hn : gmpl τ (gmfr τ - 1) < gmmy τ (gmbo τ (gmfr τ - 1))) (h4 : ¬ gmct τ 4 = 400) : VI (icM 4 τ) ∧ CI (nxM (gmfr (icM 4 τ) - 1) (icM 4 τ)) ∧ VI (nxM (gmfr (icM 4 τ) - 1) (icM 4 τ)) ∧ gmpl (icM 4 τ) (gmfr (icM 4 τ) - 1) < 10 ∧ gmob (icM 4 τ) < 401 ∧ (doR sh (icM 4 τ) = 0 → HR sh (doF sh (icM 4 τ)) ∧ ms (doF sh (icM 4 τ)) < ms τ) := by
  obtain ⟨c, h⟩ := h
  have hle := h.2.1.1.2.2.2.2.1.2.2.1
  have e2 := h.1.2.1.2.1
  have e4 := h.1.1.2.2.2.1
  have e5 := h.1.1.2.2.2.2.1
  have e9 := h.1.1.2.2.2.2.2.2.2.2.1
  have e10 := h.1.1.2.2.2.2.2.2.2.2.2.1
  have e11 := h.1.1.2.2.2.2.2.2.2.2.2.2.1
  have hf2 : 0 < gcfr c := by omega
  have hn2 : gcNe c (gcfr c - 1) < gcL c (gcBo c (gcfr c - 1)) := by rw [e2, e4, e5, e10]; exact hn
  have h42 : gcCt c 4 < 400 := by rw [← e9] at h4; omega
  have X1 := x_inc 4 h.1
  have R1 := RI_inc4 h.2.1.1 h42
  have hO := OI_st h.2.1 hf2 hn2 h42
  have X2 := x_nx (gcfr c - 1) X1
  have hob := h.2.1.2
  have hL := h.2.1.1.1.1.2.1 (gcBo c (gcfr c - 1))
  rw [q_icM_fr, q_icM_pl, q_icM_ob, ← e10, ← e11, ← e5]
  obtain ⟨s1, s2, s3, s4, s5, s6⟩ := HC_st h hf2 hn2 h42
  refine ⟨VI_of X1 R1, CI_of X2.2.1 hO.1.1.1 hO.1.1.2, VI_of X2 hO.1, by omega, by omega, fun hd => ⟨⟨_, s1, GI_st h.2.1 hf2 hn2, by rw [s2, hd], s3, s6⟩, ?_⟩⟩
  have f9 := s1.1.2.2.2.2.2.2.2.2.1
  have f10 := s1.1.2.2.2.2.2.2.2.2.2.1
  unfold ms
  rw [← f9, ← f10, s4, ← e9, ← e10]
  omega
