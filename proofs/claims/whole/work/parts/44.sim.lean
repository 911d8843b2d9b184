/-! one operation, on both sides -/
def TT (c d : CS) (π : MS) (r : Nat) : Prop := XR d π ∧ gctr d = r ∧ gcCt d 1 ≤ gcrm d ∧ gcCt d 4 = gcCt c 4 ∧ gcfr d ≤ gcfr c + 1 ∧ gcsh d = gcsh c
theorem TT_trap {c : CS} {ρ : MS} (v : Nat) (h : XR c ρ) (hm : gcCt c 1 ≤ gcrm c) : TT c (sctr c v) ρ v := ⟨x_tr v h, rfl, hm, rfl, Nat.le_succ _, rfl⟩
theorem TT_se {c : CS} {ρ : MS} (h : XR c ρ) (ht : gctr c = 0) (hm : gcCt c 1 ≤ gcrm c) (i : Nat) {v : Val} {b : Bool} {w : Int32} (hv : RV v b w) (hb : ∀ k, v = .inr k → k < 401) : TT c (scRg c (va_up (gcRg c) i v)) (seF i b w ρ) 0 := ⟨x_se h i hv hb, ht, hm, rfl, Nat.le_succ _, rfl⟩
theorem TT_rk {c : CS} {ρ : MS} (h : XR c ρ) (hR : RI c) (ht : gctr c = 0) (hm : gcCt c 1 ≤ gcrm c) (pl ba : Nat) (hb6 : ba + 6 ≤ 6 * gcfr c) (bb : Bool) (hk : (bb = true ∧ gcK c pl = 2) ∨ (bb = false ∧ gcK c pl = 3)) : TT c (rkF pl ba c) (suF ba bb (xM ρ pl) (yM ρ pl) (zM ρ pl) ρ) (if suB ba (yM ρ pl) (zM ρ pl) ρ = true then 1 else 0) := by
  rw [xM_eq h.2.1 hR.1.1, yM_eq h.2.1, zM_eq h.2.1]
  have hk2 : gcK c pl = 2 ∨ gcK c pl = 3 := hk.elim (fun q => Or.inl q.2) (fun q => Or.inr q.2)
  have hy6 := (WI_y hR.1.2 (p := pl) (by omega)).2
  have hz6 := (WI_z6 hR.1.2 hk2).2
  have r1 := (h.1.1 (ba + yN c pl)).1 (by omega)
  have r2 := (h.1.1 (ba + zN c pl)).1 (by omega)
  cases e1 : gcRg c (ba + yN c pl) with
  | inr k =>
    rw [e1] at r1
    have hb : suB ba (yN c pl) (zN c pl) ρ = true := by unfold suB; rw [r1.1]; rfl
    unfold suF
    rw [if_pos hb, if_pos hb, show rkF pl ba c = sctr c 1 from (by simp only [rkF, e1])]
    exact TT_trap 1 h hm
  | inl a =>
    rw [e1] at r1
    cases e2 : gcRg c (ba + zN c pl) with
    | inr k =>
      rw [e2] at r2
      have hb : suB ba (yN c pl) (zN c pl) ρ = true := by unfold suB; rw [r2.1]; simp
      unfold suF
      rw [if_pos hb, if_pos hb, show rkF pl ba c = sctr c 1 from (by simp only [rkF, e1, e2])]
      exact TT_trap 1 h hm
    | inl b =>
      rw [e2] at r2
      have hb : ¬ suB ba (yN c pl) (zN c pl) ρ = true := by unfold suB; rw [r1.1, r2.1]; decide
      unfold suF
      rw [if_neg hb, if_neg hb, r1.2, r2.2]
      rcases hk with ⟨hk1, hk2⟩ | ⟨hk1, hk2⟩
      · rw [show rkF pl ba c = scRg c (va_up (gcRg c) (ba + gcX c pl) (.inl (a + b))) from (by simp only [rkF, e1, e2, if_pos hk2])]
        refine TT_se h ht hm _ ⟨rfl, ?_⟩ (inl_no _)
        unfold suV
        rw [if_pos hk1]
      · rw [show rkF pl ba c = scRg c (va_up (gcRg c) (ba + gcX c pl) (.inl (if a < b then 1 else 0))) from (by simp only [rkF, e1, e2, if_neg (show ¬ gcK c pl = 2 from (by omega))])]
        refine TT_se h ht hm _ ⟨rfl, ?_⟩ (inl_no _)
        unfold suV
        rw [if_neg (by rw [hk1]; decide)]
        rfl
theorem TT_mk2 {c d : CS} {ρ : MS} {t r : Nat} (h : XR d (mk1 ρ)) (hob : gcob c < 401) (he : mk2 t r c = scRg d (va_up (gcRg d) r (.inr (gcob c)))) (ho : gcob c = gmob ρ) (ht : gctr d = 0) (hm : gcCt d 1 ≤ gcrm d) (h4 : gcCt d 4 = gcCt c 4) (hf : gcfr d = gcfr c) (hs : gcsh d = gcsh c) : TT c (mk2 t r c) (seF r true (nI (gmob ρ)) (mk1 ρ)) 0 := by
  rw [he]
  exact ⟨x_se h r ⟨rfl, by rw [ho]⟩ (fun k hk => by cases hk; exact hob), ht, hm, h4, by show gcfr d ≤ gcfr c + 1; omega, hs⟩
theorem mk2_no (t r : Nat) (c : CS) : mk2 t r c = scRg (noF t c) (va_up (gcRg (noF t c)) r (.inr (gcob c))) := by
  unfold mk2
  rw [q_noF_Rg]
theorem mk2_ni (t r : Nat) (c : CS) : mk2 t r (inc 1 c) = scRg (inc 1 (noF t c)) (va_up (gcRg (inc 1 (noF t c))) r (.inr (gcob c))) := by
  rw [mk2_inc, q_inc_Rg, q_noF_Rg]
theorem TT_mk {c : CS} {ρ : MS} (h : XR c ρ) (hob : gcob c < 401) (ht : gctr c = 0) (hm : gcCt c 1 ≤ gcrm c) (pl r z : Nat) (hz : z = if gcsh c = true then gcV c pl else 0) : TT c (mkF pl r c) (nwF z r (yM ρ pl) ρ) (nwR z ρ) := by
  have e9 := h.1.2.2.2.2.2.2.2.2.1
  have e11 := h.1.2.2.2.2.2.2.2.2.2.2.1
  have e12 := h.1.2.2.2.2.2.2.2.2.2.2.2
  rw [yM_eq h.2.1]
  by_cases hl : gcsh c = true ∧ gcV c pl = 5
  · have z5 : z = 5 := by rw [hz, if_pos hl.1]; exact hl.2
    have hr : maR (decide (z = 5)) ρ = some (gmob ρ) := by unfold maR; rw [decide_eq_true z5, if_neg (by simp)]
    have hF : maF (yN c pl) (decide (z = 5)) ρ = mk1 (mk0 (yN c pl) true ρ) := by unfold maF; rw [decide_eq_true z5, if_neg (by simp)]
    unfold nwF nwR mkF
    rw [if_pos hl, hr, hF]
    have q := TT_mk2 (c := c) (t := yN c pl) (r := r) (d := noF (yN c pl) c) (ρ := mk0 (yN c pl) true ρ) (x_no _ h) hob (mk2_no ..) (by rw [q_mk0_ob]; exact e11) (by rw [q_noF_tr]; exact ht) (by rw [q_noF_Ct, q_noF_rm]; exact hm) (by rw [q_noF_Ct]) (by rw [q_noF_fr]) (by rw [q_noF_sh])
    rw [q_mk0_ob] at q
    exact q
  · have z5 : ¬ z = 5 := fun e => hl (by
      by_cases hs : gcsh c = true
      · rw [hz, if_pos hs] at e; exact ⟨hs, e⟩
      · rw [hz, if_neg hs] at e; cases e)
    unfold mkF
    rw [if_neg hl]
    by_cases hf : gcrm c ≤ gcCt c 1
    · have hr : maR (decide (z = 5)) ρ = none := by unfold maR; rw [decide_eq_false z5, if_pos ⟨rfl, by rw [← e9, ← e12]; omega⟩]
      have hF : maF (yN c pl) (decide (z = 5)) ρ = ρ := by unfold maF; rw [decide_eq_false z5, if_pos ⟨rfl, by rw [← e9, ← e12]; omega⟩]
      unfold nwF nwR
      rw [if_pos hf, hr, hF]
      exact TT_trap 3 h hm
    · have hn : ¬ (gmct ρ 1 = gmrm ρ) := by rw [← e9, ← e12]; omega
      have hr : maR (decide (z = 5)) ρ = some (gmob ρ) := by unfold maR; rw [decide_eq_false z5, if_neg (fun q => hn q.2)]
      have hF : maF (yN c pl) (decide (z = 5)) ρ = mk1 (mk0 (yN c pl) false ρ) := by unfold maF; rw [decide_eq_false z5, if_neg (fun q => hn q.2)]
      unfold nwF nwR
      rw [if_neg hf, hr, hF]
      have q := TT_mk2 (c := inc 1 c) (t := yN c pl) (r := r) (d := inc 1 (noF (yN c pl) c)) (ρ := mk0 (yN c pl) false ρ) (x_ni _ h) (by rw [q_inc_ob]; exact hob) (by rw [mk2_ni, q_inc_ob]) (by rw [q_mk0_ob, q_inc_ob]; exact e11) (by rw [q_inc_tr, q_noF_tr]; exact ht) (by rw [q_inc_Ct, q_inc_rm, q_noF_Ct, q_noF_rm, va_up_self]; omega) (by rw [q_inc_Ct, q_inc_Ct, q_noF_Ct]) (by rw [q_inc_fr, q_noF_fr, q_inc_fr]) (by rw [q_inc_sh, q_noF_sh, q_inc_sh])
      rw [q_mk0_ob] at q
      refine ⟨q.1, q.2.1, q.2.2.1, ?_, ?_, ?_⟩
      · rw [q.2.2.2.1, q_inc_Ct, va_up_ne _ _ (by decide)]
      · have q5 := q.2.2.2.2.1
        rw [q_inc_fr] at q5
        exact q5
      · rw [q.2.2.2.2.2, q_inc_sh]
theorem TT_rf {c : CS} {ρ : MS} (h : XR c ρ) (hR : RI c) (ht : gctr c = 0) (hm : gcCt c 1 ≤ gcrm c) (pl ba : Nat) (hb6 : ba + 6 ≤ 6 * gcfr c) (hk5 : gcK c pl = 5) : TT c (rfF pl ba c) (if gmis ρ (ba + yM ρ pl) = true then seF (ba + xM ρ pl) (gmfI ρ (3 * vN ρ (ba + yM ρ pl) + zM ρ pl)) (gmfV ρ (3 * vN ρ (ba + yM ρ pl) + zM ρ pl)) ρ else ρ) (if gmis ρ (ba + yM ρ pl) = true then 0 else 1) := by
  rw [xM_eq h.2.1 hR.1.1, yM_eq h.2.1, zM_eq h.2.1]
  have hy6 := (WI_y hR.1.2 (p := pl) (by omega)).2
  have r1 := (h.1.1 (ba + yN c pl)).1 (by omega)
  cases e1 : gcRg c (ba + yN c pl) with
  | inl a =>
    rw [e1] at r1
    rw [if_neg (by rw [r1.1]; decide), if_neg (by rw [r1.1]; decide), show rfF pl ba c = sctr c 1 from (by simp only [rfF, e1])]
    exact TT_trap 1 h hm
  | inr k =>
    rw [e1] at r1
    have hk := RV_k r1 (hR.2.2.2.1.1 _ _ e1)
    rw [if_pos hk.1, if_pos hk.1, show vN ρ (ba + yN c pl) = k from hk.2, show rfF pl ba c = scRg c (va_up (gcRg c) (ba + gcX c pl) (gcFl c (k * 3 + zN c pl))) from (by simp only [rfF, e1]), Nat.mul_comm k 3]
    exact TT_se h ht hm _ (h.1.2.1 _) (hR.2.2.2.1.2 _)
theorem TT_wf {c : CS} {ρ : MS} (h : XR c ρ) (hR : RI c) (ht : gctr c = 0) (hm : gcCt c 1 ≤ gcrm c) (pl ba : Nat) (hb6 : ba + 6 ≤ 6 * gcfr c) (hk6 : gcK c pl = 6) : TT c (wfF2 pl ba c) (if gmis ρ (ba + xM ρ pl) = true then smfV (smfI ρ (va_up (gmfI ρ) (3 * vN ρ (ba + xM ρ pl) + zM ρ pl) (gmis ρ (ba + yM ρ pl)))) (va_up (gmfV ρ) (3 * vN ρ (ba + xM ρ pl) + zM ρ pl) (gmva ρ (ba + yM ρ pl))) else ρ) (if gmis ρ (ba + xM ρ pl) = true then 0 else 1) := by
  rw [xM_eq h.2.1 hR.1.1, yM_eq h.2.1, zM_eq h.2.1]
  have hy6 := (WI_y hR.1.2 (p := pl) (by omega)).2
  have hx6 := hR.1.1.2.2.2.1 pl
  have r1 := (h.1.1 (ba + gcX c pl)).1 (by omega)
  cases e1 : gcRg c (ba + gcX c pl) with
  | inl a =>
    rw [e1] at r1
    rw [if_neg (by rw [r1.1]; decide), if_neg (by rw [r1.1]; decide), show wfF2 pl ba c = sctr c 1 from (by simp only [wfF2, e1])]
    exact TT_trap 1 h hm
  | inr k =>
    rw [e1] at r1
    have hk := RV_k r1 (hR.2.2.2.1.1 _ _ e1)
    rw [if_pos hk.1, if_pos hk.1, show vN ρ (ba + gcX c pl) = k from hk.2, show wfF2 pl ba c = scFl c (va_up (gcFl c) (k * 3 + zN c pl) (gcRg c (ba + yN c pl))) from (by simp only [wfF2, e1]), Nat.mul_comm k 3]
    exact ⟨x_fl h _ ((h.1.1 (ba + yN c pl)).1 (by omega)), ht, hm, rfl, Nat.le_succ _, rfl⟩
theorem cc_ct (v : Nat) (c : CS) : gcCt (ccF v c) 1 = gcCt c 1 ∧ gcCt (ccF v c) 4 = gcCt c 4 := by
  unfold ccF
  split
  · rw [q_inc_Ct, va_up_ne _ _ (by decide), va_up_ne _ _ (by decide)]; exact ⟨rfl, rfl⟩
  · split
    · exact ⟨rfl, rfl⟩
    · rw [q_inc_Ct, va_up_ne _ _ (by decide), va_up_ne _ _ (by decide), q_inc_Ct, va_up_ne _ _ (by decide), va_up_ne _ _ (by decide)]; exact ⟨rfl, rfl⟩
theorem TT_sd {c : CS} {ρ : MS} (h : XR c ρ) (hR : RI c) (ht : gctr c = 0) (hm : gcCt c 1 ≤ gcrm c) (pl ba z : Nat) (hf : 0 < gcfr c) (hba : ba = (gcfr c - 1) * 6) (hk7 : gcK c pl = 7) (hz : z = if gcsh c = true then gcV c pl else 0) : TT c (sdF pl ba c) (clF z ba (xM ρ pl) (yM ρ pl) (zM ρ pl) ρ) (clR ba (yM ρ pl) (zM ρ pl) ρ) := by
  rw [xM_eq h.2.1 hR.1.1, yM_eq h.2.1, zM_eq h.2.1]
  have hz4 := (WI_z4 hR.1.2 hk7).2
  have hy6 := (WI_y hR.1.2 (p := pl) (by omega)).2
  have r1 := (h.1.1 (ba + yN c pl)).1 (by omega)
  have r5 := (h.1.1 (ba + 5)).1 (by omega)
  have e3 := h.1.2.2.1
  have e10 := h.1.2.2.2.2.2.2.2.2.2.1
  have hX := hR.1.1.2.2.2.1 pl
  cases e1 : gcRg c (ba + yN c pl) with
  | inl a =>
    rw [e1] at r1
    unfold clF clR
    rw [if_neg (by rw [r1.1]; decide), if_neg (by rw [r1.1]; decide), show sdF pl ba c = sctr c 1 from (by simp only [sdF, e1])]
    exact TT_trap 1 h hm
  | inr k =>
    rw [e1] at r1
    have hk := RV_k r1 (hR.2.2.2.1.1 _ _ e1)
    unfold clF clR
    rw [if_pos hk.1, if_pos hk.1, show vN ρ (ba + yN c pl) = k from hk.2]
    have htg := tg_eq h.2.1 (gcCl c k) hz4
    cases e2 : tgC c (gcCl c k) (zN c pl) with
    | none =>
      rw [e2, e3] at htg
      rw [← htg, show sdF pl ba c = sctr c 6 from (by simp only [sdF, e1, e2])]
      exact TT_trap 6 h hm
    | some b =>
      rw [e2, e3] at htg
      rw [← htg]
      by_cases h12 : 12 ≤ gcfr c
      · have e12 : gmfr ρ = 12 := by have := hR.2.2.2.2.2.1; omega
        simp only [if_pos e12]
        rw [show sdF pl ba c = sctr c 4 from (by simp only [sdF, e1, e2, if_pos h12])]
        exact TT_trap 4 h hm
      · have e12 : ¬ gmfr ρ = 12 := by omega
        simp only [if_neg e12]
        rw [show sdF pl ba c = enF b (.inr k) (gcRg c (ba + 5)) (scAn (ccF z c) (va_up (gcAn c) (gcfr c) (ba + gcX c pl))) from (by simp only [sdF, e1, e2, if_neg h12, hz])]
        have hx := x_sAn (cc_mc z h) (ba + gcX c pl)
        rw [q_ccF_An, q_ccF_fr] at hx
        have hcc := cc_ct z c
        have hAn : 1 ≤ gcfr (scAn (ccF z c) (va_up (gcAn c) (gcfr c) (ba + gcX c pl))) → gcAn (scAn (ccF z c) (va_up (gcAn c) (gcfr c) (ba + gcX c pl))) (gcfr (scAn (ccF z c) (va_up (gcAn c) (gcfr c) (ba + gcX c pl)))) = 6 * (gcfr (scAn (ccF z c) (va_up (gcAn c) (gcfr c) (ba + gcX c pl))) - 1) + gcX c pl := by
          intro _
          rw [gs_An_An, gs_fr_An, q_ccF_fr, va_up_self, hba, Nat.mul_comm]
        refine ⟨x_en b (gcX c pl) hx ⟨rfl, r1.2⟩ r5 (RV_W (v := .inr k) (b := true) ⟨rfl, r1.2⟩ (fun k9 hk9 => by cases hk9; exact hR.2.2.2.1.1 _ _ e1)) (RV_W r5 (hR.2.2.2.1.1 _)) hX hAn, ?_, ?_, ?_, ?_, ?_⟩
        · rw [q_enF_tr, gs_tr_An, q_ccF_tr]; exact ht
        · rw [q_enF_Ct, va_up_ne _ _ (by decide), gs_Ct_An, hcc.1, q_enF_rm, gs_rm_An, q_ccF_rm]; exact hm
        · rw [q_enF_Ct, va_up_ne _ _ (by decide), gs_Ct_An, hcc.2]
        · rw [q_enF_fr, gs_fr_An, q_ccF_fr]; exact Nat.le_refl _
        · rw [q_enF_sh, gs_sh_An, q_ccF_sh]
theorem x_po {c : CS} {ρ : MS} (h : XR c ρ) (j : Nat) (v : Int32) : XR (scPo c (va_up (gcPo c) j v)) (smou ρ (va_up (gmou ρ) j v)) := by
  refine XR_of h ⟨rfl, rfl, rfl, rfl, rfl, rfl, rfl, rfl, rfl⟩ ⟨rfl, rfl, rfl, rfl, rfl, rfl, rfl⟩ ?_
  obtain ⟨r1, r2, r3, r4, r5, r6, r7, r8, r9, r10, r11, r12⟩ := h.1
  exact ⟨r1, r2, r3, r4, r5, r6, r7, by rw [gs_Po_Po, hs_ou_ou, r8], r9, r10, r11, r12⟩
theorem po_eq {c : CS} {ρ : MS} (h : XR c ρ) (hR : RI c) (i : Nat) (hi : i < 6 * gcfr c) : poV (gcRg c i) c = poM i ρ := by
  have r1 := (h.1.1 i).1 hi
  unfold poM
  cases e1 : gcRg c i with
  | inl a =>
    rw [e1] at r1
    rw [if_neg (by rw [r1.1]; decide), r1.2]
    rfl
  | inr k =>
    rw [e1] at r1
    have hk := RV_k r1 (hR.2.2.2.1.1 _ _ e1)
    rw [if_pos hk.1, show vN ρ i = k from hk.2, ← h.1.2.2.1]
    rfl
theorem TT_pr {c : CS} {ρ : MS} (h : XR c ρ) (hR : RI c) (ht : gctr c = 0) (hm : gcCt c 1 ≤ gcrm c) (i : Nat) (hi : i < 6 * gcfr c) : TT c (prF (gcRg c i) c) (puF i ρ) (if gmct ρ 0 = 40 then 7 else 0) := by
  have e9 := h.1.2.2.2.2.2.2.2.2.1
  unfold prF puF
  rw [← e9]
  by_cases h40 : 40 ≤ gcCt c 0
  · have e40 : gcCt c 0 = 40 := by have := hR.2.2.2.2.1.1; omega
    rw [if_pos h40, if_pos e40, if_pos e40]
    exact TT_trap 7 h hm
  · rw [if_neg h40, if_neg (by omega), if_neg (by omega), po_eq h hR i hi]
    have q := x_inc 0 (x_po h (gcCt c 0) (poM i ρ))
    have e : icM 0 (smou ρ (va_up (gmou ρ) (gcCt c 0) (poM i ρ))) = smct (smou ρ (va_up (gmou ρ) (gcCt c 0) (poM i ρ))) (va_up (gcCt c) 0 (gcCt c 0 + 1)) := by
      unfold icM
      rw [hs_ct_ou, e9]
    rw [e] at q
    refine ⟨q, ?_, ?_, ?_, ?_, ?_⟩
    · rw [q_inc_tr, gs_tr_Po]; exact ht
    · rw [q_inc_Ct, gs_Ct_Po, va_up_ne _ _ (by decide), q_inc_rm, gs_rm_Po]; exact hm
    · rw [q_inc_Ct, gs_Ct_Po, va_up_ne _ _ (by decide)]
    · rw [q_inc_fr, gs_fr_Po]; exact Nat.le_succ _
    · rw [q_inc_sh, gs_sh_Po]
theorem x_pl {c : CS} {ρ : MS} (h : XR c ρ) (j v : Nat) : XR (scNe c (va_up (gcNe c) j v)) (smpl ρ (va_up (gmpl ρ) j v)) := by
  refine XR_of h ⟨rfl, rfl, rfl, rfl, rfl, rfl, rfl, rfl, rfl⟩ ⟨rfl, rfl, rfl, rfl, rfl, rfl, rfl⟩ ?_
  obtain ⟨r1, r2, r3, r4, r5, r6, r7, r8, r9, r10, r11, r12⟩ := h.1
  exact ⟨r1, r2, r3, r4, by rw [gs_Ne_Ne, hs_pl_pl, r5], r6, r7, r8, r9, r10, r11, r12⟩
theorem TT_sk {c : CS} {ρ : MS} (h : XR c ρ) (ht : gctr c = 0) (hm : gcCt c 1 ≤ gcrm c) (pl x : Nat) (hi : x < 6 * gcfr c) : TT c (skF pl x c) (if gmis ρ x = false ∧ gmva ρ x = 0 then smpl ρ (va_up (gmpl ρ) (gcfr c - 1) (gmpl ρ (gcfr c - 1) + yM ρ pl)) else ρ) 0 := by
  have e5 := h.1.2.2.2.2.1
  have r1 := (h.1.1 x).1 hi
  have hiff : gcRg c x = .inl 0 ↔ (gmis ρ x = false ∧ gmva ρ x = 0) := by
    cases e1 : gcRg c x with
    | inl a =>
      rw [e1] at r1
      rw [r1.1, r1.2]
      exact ⟨(fun e => by cases e; exact ⟨rfl, rfl⟩), (fun e => by rw [e.2])⟩
    | inr k =>
      rw [e1] at r1
      rw [r1.1]
      exact ⟨(fun e => by cases e), (fun e => by cases e.1)⟩
  unfold skF
  rw [yM_eq h.2.1]
  by_cases hz : gcRg c x = .inl 0
  · rw [if_pos hz, if_pos (hiff.mp hz), e5]
    have q := x_pl h (gcfr c - 1) (gmpl ρ (gcfr c - 1) + yN c pl)
    rw [e5] at q
    exact ⟨q, ht, hm, rfl, Nat.le_succ _, rfl⟩
  · rw [if_neg hz, if_neg (fun e => hz (hiff.mpr e))]
    exact ⟨h, ht, hm, rfl, Nat.le_succ _, rfl⟩
theorem TT_ck {c : CS} {ρ : MS} (h : XR c ρ) (hR : RI c) (ht : gctr c = 0) (hm : gcCt c 1 ≤ gcrm c) (pl x : Nat) (hi : x < 6 * gcfr c) : TT c (ckF (gcRg c x) (yN c pl) c) ρ (if gmis ρ x = true then (if misF (gmpa ρ) (gmty ρ) (yM ρ pl) 6 (some (gmcl ρ (vN ρ x))) = true then 0 else 2) else 1) := by
  have r1 := (h.1.1 x).1 hi
  rw [yM_eq h.2.1]
  unfold ckF
  cases e1 : gcRg c x with
  | inl a =>
    rw [e1] at r1
    rw [if_neg (by rw [r1.1]; decide)]
    exact TT_trap 1 h hm
  | inr k =>
    rw [e1] at r1
    have hk := RV_k r1 (hR.2.2.2.1.1 _ _ e1)
    rw [if_pos hk.1, show vN ρ x = k from hk.2, ← is_eq h.2.1, ← h.1.2.2.1]
    simp only []
    by_cases hi : isF (gcP c) (yN c pl) 6 (some (gcCl c k)) = true
    · rw [if_pos hi, if_pos hi]
      exact ⟨h, ht, hm, rfl, Nat.le_succ _, rfl⟩
    · rw [if_neg hi, if_neg hi]
      exact TT_trap 2 h hm
theorem an_get2 (v : Val) (c : CS) : gctr (anF v c) = gctr c ∧ gcCt (anF v c) = gcCt c ∧ gcrm (anF v c) = gcrm c ∧ gcfr (anF v c) = gcfr c - 1 ∧ gcsh (anF v c) = gcsh c ∧ gcL (anF v c) = gcL c ∧ gcBo (anF v c) = gcBo c ∧ gcNe (anF v c) = gcNe c := by
  unfold anF
  split
  · rw [gs_tr_Rg, gs_tr_fr, gs_Ct_Rg, gs_Ct_fr, gs_rm_Rg, gs_rm_fr, gs_fr_Rg, gs_fr_fr, gs_sh_Rg, gs_sh_fr, gs_L_Rg, gs_L_fr, gs_Bo_Rg, gs_Bo_fr, gs_Ne_Rg, gs_Ne_fr]
    exact ⟨rfl, rfl, rfl, rfl, rfl, rfl, rfl, rfl⟩
  · exact ⟨rfl, rfl, rfl, rfl, rfl, rfl, rfl, rfl⟩
theorem TT_an {c : CS} {ρ : MS} (h : XR c ρ) (ht : gctr c = 0) (hm : gcCt c 1 ≤ gcrm c) (hf : 0 < gcfr c) {v : Val} {b : Bool} {w : Int32} (hv : RV v b w) (hb : ∀ k, v = .inr k → k < 401) : TT c (anF v c) (awF b w ρ) 0 := by
  obtain ⟨g1, g2, g3, g4, g5, g6, g7, g8⟩ := an_get2 v c
  exact ⟨x_an h hf hv hb, by rw [g1]; exact ht, by rw [g2, g3]; exact hm, by rw [g2], by rw [g4]; omega, g5⟩
/-- an operation, whatever its kind -/
theorem TT_pf {c : CS} {ρ : MS} (h : XR c ρ) (hR : RI c) (hob : gcob c < 401) (ht : gctr c = 0) (hm : gcCt c 1 ≤ gcrm c) (pl ba z f : Nat) (hf : 0 < gcfr c) (hff : f = gcfr c - 1) (hba : ba = (gcfr c - 1) * 6) (hz : z = if gcsh c = true then gcV c pl else 0) : TT c (pfF pl ba c) (dpF ba pl z f ρ) (dpR ba pl z ρ) := by
  have hk := hR.1.1.2.2.1 pl
  have ek := kM_eq h.2.1 hR.1.1 pl
  have ex := xM_eq h.2.1 hR.1.1 pl
  have ey := yM_eq h.2.1 pl
  have hb6 : ba + 6 ≤ 6 * gcfr c := by omega
  have hx6 := hR.1.1.2.2.2.1 pl
  unfold pfF dpF dpR
  rw [ek]
  rcases (show gcK c pl = 0 ∨ gcK c pl = 1 ∨ gcK c pl = 2 ∨ gcK c pl = 3 ∨ gcK c pl = 4 ∨ gcK c pl = 5 ∨ gcK c pl = 6 ∨ gcK c pl = 7 ∨ gcK c pl = 8 ∨ gcK c pl = 9 ∨ gcK c pl = 10 ∨ gcK c pl = 11 by omega) with e | e | e | e | e | e | e | e | e | e | e | e
  · simp only [e]
    rw [ex, (h.2.1.2.2.2.2.2.2.2 pl).2.2.1]
    exact TT_se h ht hm _ ⟨rfl, rfl⟩ (inl_no _)
  · simp only [e]
    rw [ex, ey]
    have hy6 := (WI_y hR.1.2 (p := pl) (by omega)).2
    exact TT_se h ht hm _ ((h.1.1 (ba + yN c pl)).1 (by omega)) (hR.2.2.2.1.1 _)
  · simp only [e]
    exact TT_rk h hR ht hm pl ba hb6 true (Or.inl ⟨rfl, e⟩)
  · simp only [e]
    exact TT_rk h hR ht hm pl ba hb6 false (Or.inr ⟨rfl, e⟩)
  · simp only [e]
    rw [ex]
    exact TT_mk h hob ht hm pl _ z hz
  · simp only [e]
    exact TT_rf h hR ht hm pl ba hb6 e
  · simp only [e]
    exact TT_wf h hR ht hm pl ba hb6 e
  · simp only [e]
    exact TT_sd h hR ht hm pl ba z hf hba e hz
  · simp only [e]
    rw [ex]
    exact TT_pr h hR ht hm _ (by omega)
  · simp only [e]
    rw [ex, hff]
    exact TT_sk h ht hm pl _ (by omega)
  · simp only [e]
    rw [ex]
    exact TT_ck h hR ht hm pl _ (by omega)
  · simp only [e]
    rw [ex]
    exact TT_an h ht hm hf ((h.1.1 (ba + gcX c pl)).1 (by omega)) (hR.2.2.2.1.1 _)
