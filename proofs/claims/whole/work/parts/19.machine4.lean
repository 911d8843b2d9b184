theorem PI_Ct {τ : CS} {f : Nat → Nat} (h : PI τ) : PI (scCt τ f) := h
theorem tg_Ct (τ : CS) (f : Nat → Nat) (q t : Nat) : tgtF (gcP (scCt τ f)) (gcL (scCt τ f)) q 6 (some t) = tgC τ t q := rfl
theorem tg_no (t : Nat) (τ : CS) (a b : Nat) : tgC (noF t τ) a b = tgC τ a b := by
  unfold tgC
  have h1 : gcP (noF t τ) = gcP τ := by simp only [noF, gs_P_Fl, gs_P_Cl, gs_P_ob]
  have h2 : gcL (noF t τ) = gcL τ := by simp only [noF, gs_L_Fl, gs_L_Cl, gs_L_ob]
  rw [h1, h2]
theorem inc31 (τ : CS) : inc 3 (inc 1 τ) = scCt τ (va_up (va_up (gcCt τ) 1 (gcCt τ 1 + 1)) 3 (va_up (gcCt τ) 1 (gcCt τ 1 + 1) 3 + 1)) := by
  unfold inc
  rw [gs_Ct_Ct, ss_Ct]
theorem TP_en {b : Nat} {x y : Val} {τ : CS} (hL : 0 < gcL τ b) : TP (enF b x y τ) := by
  intro _
  unfold enF
  rw [gs_fr_Ct, gs_fr_fr, gs_Ne_Ct, gs_Ne_fr, gs_Ne_Ne, gs_L_Ct, gs_L_fr, gs_L_Ne, gs_L_Bo, gs_L_Rg, gs_Bo_Ct, gs_Bo_fr, gs_Bo_Ne, gs_Bo_Bo, Nat.add_sub_cancel, va_up_self, va_up_self]
  exact hL
theorem TP_0 {τ : CS} (h : gcfr τ = 0) : TP τ := fun z => absurd z (by omega)
theorem TP_bg {τ : CS} (hf : gcfr τ = 0) : TP (bgF τ) := by
  unfold bgF
  split
  · exact TP_0 (by rw [gs_fr_tr]; exact hf)
  · split
    · refine TP_0 ?_
      unfold inc
      rw [gs_fr_tr, gs_fr_Ct, (no_get 0 τ).2.2.1]
      exact hf
    · rename_i b hb
      refine TP_en ?_
      have h2 : gcL (inc 3 (inc 1 (noF 0 τ))) = gcL τ := by
        rw [inc31, gs_L_Ct]
        simp only [noF, gs_L_Fl, gs_L_Cl, gs_L_ob]
      rw [h2]
      exact tgt_pos _ _ hb
set_option maxRecDepth 100000 in
set_option maxHeartbeats 400000 in
theorem c_X0_isGoing (l : Launch) (D : va_G) (cI cJ cZ : ClassId) (ad : Nat → Nat) (σ : CS)   (hR : RI σ) : CM l D (t3 cI cJ cZ) yX0_isGoing cX0_isGoing 1 (some .boolean) 0 [.ref (ad 3)] (wC ad cI cJ cZ σ) (some (.int (bI (igB σ)))) (wC ad cI cJ cZ σ) := by
  refine CM.of (by decide) (Nat.le_of_ble_eq_true rfl) ?_
  intro p e s m below meth c A ls E hr hlk hP hD0 hA hA2 hS hl
  have hD := wC_D hD0
  have hl : lv_has ls 1 [(0, .ref (ad 3))] := hl
  have hf12 := hR.2.2.2.2.2.1
  have ht7 := hR.2.2.2.2.2.2.2.2
  refine lv_aload_n E.1.1 E.1.2.1 dX0_isGoing_0 rfl (lv_at hl 0 rfl) ?_
  refine gt_X0_trap E fl_X0_59 hP dX0_isGoing_1 ?_
  refine nv_if_ne (by omega) E dX0_isGoing_4 (tgt := 18) (by decide) (fun h4 => ?_) (fun h4 => ?_)
  · refine lv_iconst (v := nI 0) E.1.1 E.1.2.1 dX0_isGoing_18 rfl ?_
    exact CM.retz E hr hlk hA hP hS (er_f (by unfold igB; first | (simp [h4, h11]; done) | (simp [h4]; done) | (simp; omega))) rfl dX0_isGoing_19
  · refine lv_aload_n E.1.1 E.1.2.1 dX0_isGoing_7 rfl (lv_at hl 0 rfl) ?_
    refine gt_X0_frames E fl_X0_53 hP dX0_isGoing_8 ?_
    refine nv_if_le (by omega) E dX0_isGoing_11 (tgt := 18) (by decide) (fun h11 => ?_) (fun h11 => ?_)
    · refine lv_iconst (v := nI 0) E.1.1 E.1.2.1 dX0_isGoing_18 rfl ?_
      exact CM.retz E hr hlk hA hP hS (er_f (by unfold igB; first | (simp [h4, h11]; done) | (simp [h4]; done) | (simp; omega))) rfl dX0_isGoing_19
    · refine lv_iconst (v := nI 1) E.1.1 E.1.2.1 dX0_isGoing_14 rfl ?_
      refine lv_goto (tgt := 19) E.1.1 E.1.2.1 dX0_isGoing_15 (by decide) ?_
      exact CM.retz E hr hlk hA hP hS (er_t (by unfold igB; first | (simp [h4, h11]; done) | (simp [h4]; done) | (simp; omega))) rfl dX0_isGoing_19
set_option maxRecDepth 100000 in
set_option maxHeartbeats 400000 in
theorem c_X0_leaveEndedFrames (l : Launch) (D : va_G) (cI cJ cZ : ClassId) (ad : Nat → Nat) (σ : CS)   (hG : GI σ) : CM l D (t3 cI cJ cZ) yX0_leaveEndedFrames cX0_leaveEndedFrames 2 none 2 [.ref (ad 3)] (wC ad cI cJ cZ σ) (none) (wC ad cI cJ cZ (igF σ)) := by
  refine CM.of (by decide) (Nat.le_of_ble_eq_true rfl) ?_
  intro p e s m below meth c A ls E hr hlk hP hD0 hA hA2 hS hl
  have hD := wC_D hD0
  have hl : lv_has ls 2 [(0, .ref (ad 3))] := hl
  refine lv_aload_n E.1.1 E.1.2.1 dX0_leaveEndedFrames_0 rfl (lv_at hl 0 rfl) ?_
  refine gt_X0_frames E fl_X0_53 hP dX0_leaveEndedFrames_1 ?_
  refine lv_istore_n (lv' := [(1, .int (nI (gcfr σ))), (0, .ref (ad 3))]) E.1.1 E.1.2.1 dX0_leaveEndedFrames_4 rfl hl (by decide) rfl (fun ls hl => ?_)
  have LP5 : ∀ (n : Nat) (τ : CS) (H : Heap) (locs : List Loc) (ls : Array Slot), (GI τ) → (gcfr τ = n) → (igF σ = igL n τ) → va_P D vwCl (wC ad cI cJ cZ τ) H → va_S A s.heap H locs → lv_has ls 2 [(0, .ref (ad 3)), (1, .int (nI n))] → W p l e { frames := 2, cells := 0, slots := 0, locals := 40 * 2 } s m [.ref (ad 3)].toArray below meth c H locs 0 0 (MQ below (Qcm D (wC ad cI cJ cZ σ) s.heap.size (none) (wC ad cI cJ cZ (igF σ))) [.ref (ad 3)].toArray s 0 0 A) (F0 m 5 ls []) := by
    intro n
    induction n with
    | zero =>
      intro τ H locs ls hT hf hv hP hS hl
      have hf12 := hT.1.2.2.2.2.2.1
      refine lv_iload_n E.1.1 E.1.2.1 dX0_leaveEndedFrames_5 rfl (lv_at hl 1 rfl) ?_
      refine nv_if_le (by omega) E dX0_leaveEndedFrames_6 (tgt := 30) (by decide) (fun h6 => ?_) (fun h6 => ?_)
      · have hX9 : igF σ = τ := by rw [hv]; first | rfl | (rw [igL, if_neg (by simpa using h16)])
        exact CM.retv E hr hlk hA (by rw [hX9]; exact hP) hS rfl dX0_leaveEndedFrames_30
      · exact absurd h6 (by omega)
    | succ n ih5 =>
      intro τ H locs ls hT hf hv hP hS hl
      have hf12 := hT.1.2.2.2.2.2.1
      refine lv_iload_n E.1.1 E.1.2.1 dX0_leaveEndedFrames_5 rfl (lv_at hl 1 rfl) ?_
      refine nv_if_le (by omega) E dX0_leaveEndedFrames_6 (tgt := 30) (by decide) (fun h6 => ?_) (fun h6 => ?_)
      · exact absurd h6 (by omega)
      · refine lv_aload_n E.1.1 E.1.2.1 dX0_leaveEndedFrames_9 rfl (lv_at hl 0 rfl) ?_
        refine lv_iload_n E.1.1 E.1.2.1 dX0_leaveEndedFrames_10 rfl (lv_at hl 1 rfl) ?_
        refine lv_iconst (v := nI 1) E.1.1 E.1.2.1 dX0_leaveEndedFrames_11 rfl ?_
        refine nv_isub (by omega) E dX0_leaveEndedFrames_12 ?_
        refine CM.callVi (n := 1) E (c_X0_isBehindLast l D cI cJ cZ ad τ ((n + 1) - 1) (by omega) hT.1) ml_X0_95 im_X0_isBehindLast se_X0_isBehindLast ini_X0 co_X0_isBehindLast hd_X0_isBehindLast ⟨Nat.le_of_ble_eq_true rfl, Nat.le_of_ble_eq_true rfl⟩ ⟨Nat.le_refl _, Nat.le_refl _⟩ 3 rfl rfl hP (hD _) hS hA2 rfl hl.1 (Nat.le_of_ble_eq_true rfl) dX0_leaveEndedFrames_13 rfl (fun H locs hP hS => ?_)
        refine bv_if_eq (x := decide (gcL τ (gcBo τ ((n + 1) - 1)) ≤ gcNe τ ((n + 1) - 1))) E dX0_leaveEndedFrames_16 (tgt := 30) (by decide) (fun h16 => ?_) (fun h16 => ?_)
        · have hX9 : igF σ = τ := by rw [hv]; first | rfl | (rw [igL, if_neg (by simpa using h16)])
          exact CM.retv E hr hlk hA (by rw [hX9]; exact hP) hS rfl dX0_leaveEndedFrames_30
        · refine lv_aload_n E.1.1 E.1.2.1 dX0_leaveEndedFrames_19 rfl (lv_at hl 0 rfl) ?_
          refine lv_lconst (v := vJ (.inl 0)) E.1.1 E.1.2.1 dX0_leaveEndedFrames_20 rfl ?_
          refine CM.callVv (n := 1) E (c_X0_answer l D cI cJ cZ ad τ (.inl 0) (by omega) hf12 hT.1.2.2.1.2.2.1) ml_X0_99 im_X0_answer se_X0_answer ini_X0 co_X0_answer hd_X0_answer ⟨Nat.le_of_ble_eq_true rfl, Nat.le_of_ble_eq_true rfl⟩ ⟨Nat.le_refl _, Nat.le_refl _⟩ 3 rfl rfl hP (hD _) hS hA2 rfl hl.1 (Nat.le_of_ble_eq_true rfl) dX0_leaveEndedFrames_21 rfl (fun H locs hP hS => ?_)
          refine lv_iinc (v := nI n) (lv' := [(1, .int (nI n)), (0, .ref (ad 3))]) E.1.1 E.1.2.1 dX0_leaveEndedFrames_24 hl (k := 1) rfl (pk_m1 n) (by decide) rfl (fun ls hl => ?_)
          refine lv_goto (tgt := 5) E.1.1 E.1.2.1 dX0_leaveEndedFrames_27 (by decide) ?_
          exact ih5 (anF (.inl 0) τ) _ _ _ (GI_an hT (inl_no 0)) (by rw [(an_fr _ τ).1, hf]; omega) (by rw [hv, igL, if_pos (show gcL τ (gcBo τ n) ≤ gcNe τ n from of_decide_eq_true h16)]) hP hS (lv_sub hl [1, 0] rfl)
  exact LP5 (gcfr σ) σ _ _ _ hG rfl rfl hP hS (lv_sub hl [1, 0] rfl)
set_option maxRecDepth 100000 in
set_option maxHeartbeats 400000 in
theorem c_X0_begin (l : Launch) (D : va_G) (cI cJ cZ : ClassId) (ad : Nat → Nat) (σ : CS)   (hR : RI σ) (hb0 : gcob σ = 0) (hf0 : gcfr σ = 0) : CM l D (t3 cI cJ cZ) yX0_begin cX0_begin 4 none 4 [.ref (ad 3)] (wC ad cI cJ cZ σ) (none) (wC ad cI cJ cZ (bgF σ)) := by
  refine CM.of (by decide) (Nat.le_of_ble_eq_true rfl) ?_
  intro p e s m below meth c A ls E hr hlk hP hD0 hA hA2 hS hl
  have hD := wC_D hD0
  have hl : lv_has ls 4 [(0, .ref (ad 3))] := hl
  refine lv_aload_n E.1.1 E.1.2.1 dX0_begin_0 rfl (lv_at hl 0 rfl) ?_
  refine gt_X0_room E fl_X0_49 hP dX0_begin_1 ?_
  refine lv_iconst (v := nI 1) E.1.1 E.1.2.1 dX0_begin_4 rfl ?_
  refine nv_icmp_ge (by have := hR.2.2.2.2.2.2.1; omega) (by omega) E dX0_begin_5 (tgt := 14) (by decide) (fun h5 => ?_) (fun h5 => ?_)
  · refine lv_aload_n E.1.1 E.1.2.1 dX0_begin_14 rfl (lv_at hl 0 rfl) ?_
    refine lv_iconst (v := nI 0) E.1.1 E.1.2.1 dX0_begin_15 rfl ?_
    refine CM.callVl (n := 1) E (c_X0_newObject l D cI cJ cZ ad σ 0 (by omega)) ml_X0_81 im_X0_newObject se_X0_newObject ini_X0 co_X0_newObject hd_X0_newObject ⟨Nat.le_of_ble_eq_true rfl, Nat.le_of_ble_eq_true rfl⟩ ⟨Nat.le_refl _, Nat.le_refl _⟩ 3 rfl rfl hP (hD _) hS hA2 rfl hl.1 (Nat.le_of_ble_eq_true rfl) dX0_begin_16 rfl (fun H locs hP hS => ?_)
    obtain ⟨τ, hτ⟩ : ∃ z, z = noF 0 σ := ⟨_, rfl⟩
    rw [← hτ] at hP
    have hP : va_P D vwCl (wC ad cI cJ cZ τ) H := hP
    have g9 := no_get 0 σ
    have hRt := RI_no hR (t := 0) (by decide) (by omega)
    have htg := tg_no 0 σ 0 0
    rw [← hτ] at g9 hRt htg
    obtain ⟨g1, g2, g3, g4⟩ := g9
    refine lv_lstore_n (lv' := [(1, .long (vJ (.inr (gcob σ)))), (0, .ref (ad 3))]) E.1.1 E.1.2.1 dX0_begin_19 rfl hl (by decide) rfl (fun ls hl => ?_)
    refine lv_aload_n E.1.1 E.1.2.1 dX0_begin_20 rfl (lv_at hl 1 rfl) ?_
    refine gt_X0_counts E fl_X0_34 hP dX0_begin_21 ?_
    refine lv_iconst (v := nI 1) E.1.1 E.1.2.1 dX0_begin_24 rfl ?_
    refine lv_dup2_11 E.1.1 E.1.2.1 dX0_begin_25 rfl rfl ?_
    refine ld_CS_Ct (i := 1) E hP (by omega) dX0_begin_26 ?_
    refine lv_iconst (v := nI 1) E.1.1 E.1.2.1 dX0_begin_27 rfl ?_
    refine nv_iadd E dX0_begin_28 ?_
    refine as_CS_Ct (i := 1) (v := (gcCt τ 1) + 1) E hP hD hS (by omega) dX0_begin_29 (fun H locs hP hS => ?_)
    refine lv_aload_n E.1.1 E.1.2.1 dX0_begin_30 rfl (lv_at hl 1 rfl) ?_
    refine gt_X0_program E fl_X0_37 hP dX0_begin_31 ?_
    refine lv_iconst (v := nI 0) E.1.1 E.1.2.1 dX0_begin_34 rfl ?_
    refine lv_iconst (v := nI 0) E.1.1 E.1.2.1 dX0_begin_35 rfl ?_
    refine CM.callVi (n := 2) E (c_X1_target l D cI cJ cZ ad (scCt τ (va_up (gcCt τ) 1 ((gcCt τ 1) + 1))) 0 0 (by decide) (by decide) (PI_Ct hRt.1.1)) ml_X0_85 im_X1_target se_X1_target ini_X1 co_X1_target hd_X1_target ⟨Nat.le_of_ble_eq_true rfl, Nat.le_of_ble_eq_true rfl⟩ ⟨Nat.le_refl _, Nat.le_refl _⟩ 1 rfl rfl hP (hD _) hS hA2 rfl hl.1 (Nat.le_of_ble_eq_true rfl) dX0_begin_36 rfl (fun H locs hP hS => ?_)
    refine tpi (y := oI (tgC τ 0 0)) (by rw [tg_Ct]) ?_
    refine lv_istore_n (lv' := [(3, .int (oI (tgC τ 0 0))), (1, .long (vJ (.inr (gcob σ)))), (0, .ref (ad 3))]) E.1.1 E.1.2.1 dX0_begin_39 rfl hl (by decide) rfl (fun ls hl => ?_)
    refine lv_iload_n E.1.1 E.1.2.1 dX0_begin_40 rfl (lv_at hl 0 rfl) ?_
    refine lv_iconst (v := -1) E.1.1 E.1.2.1 dX0_begin_41 rfl ?_
    refine ov_m1_ne (o := (tgC τ 0 0)) (fun j hj => by have := tgC_lt hRt.1.1 (by decide) (by decide) hj; omega) E dX0_begin_42 (tgt := 52) (by decide) (fun k42 h42 => ?_) (fun h42 => ?_)
    · have hk42 := tgC_lt hRt.1.1 (by decide) (by decide) h42
      have hl : lv_has ls 4 [(3, .int (nI k42)), (1, .long (vJ (.inr (gcob σ)))), (0, .ref (ad 3))] := by have q9 := hl; rw [h42] at q9; exact q9
      refine lv_aload_n E.1.1 E.1.2.1 dX0_begin_52 rfl (lv_at hl 2 rfl) ?_
      refine gt_X0_counts E fl_X0_34 hP dX0_begin_53 ?_
      refine lv_iconst (v := nI 3) E.1.1 E.1.2.1 dX0_begin_56 rfl ?_
      refine lv_dup2_11 E.1.1 E.1.2.1 dX0_begin_57 rfl rfl ?_
      refine ld_CS_Ct (i := 3) E hP (by omega) dX0_begin_58 ?_
      refine tpi (y := nI ((va_up (gcCt τ) 1 ((gcCt τ 1) + 1)) 3)) (by rw [gs_Ct_Ct]) ?_
      refine lv_iconst (v := nI 1) E.1.1 E.1.2.1 dX0_begin_59 rfl ?_
      refine nv_iadd E dX0_begin_60 ?_
      refine as_CS_Ct (i := 3) (v := ((va_up (gcCt τ) 1 ((gcCt τ 1) + 1)) 3) + 1) E hP hD hS (by omega) dX0_begin_61 (fun H locs hP hS => ?_)
      have hP : va_P D vwCl (wC ad cI cJ cZ (scCt τ (va_up (va_up (gcCt τ) 1 ((gcCt τ 1) + 1)) 3 (((va_up (gcCt τ) 1 ((gcCt τ 1) + 1)) 3) + 1)))) H := by have q9 := hP; rw [ss_Ct, gs_Ct_Ct] at q9; exact q9
      refine lv_aload_n E.1.1 E.1.2.1 dX0_begin_62 rfl (lv_at hl 2 rfl) ?_
      refine lv_iload_n E.1.1 E.1.2.1 dX0_begin_63 rfl (lv_at hl 0 rfl) ?_
      refine lv_lload_n E.1.1 E.1.2.1 dX0_begin_64 rfl (lv_at hl 1 rfl) ?_
      refine lv_lconst (v := vJ (.inl 0)) E.1.1 E.1.2.1 dX0_begin_65 rfl ?_
      refine CM.callVv (n := 3) E (c_X0_enter l D cI cJ cZ ad (scCt τ (va_up (va_up (gcCt τ) 1 ((gcCt τ 1) + 1)) 3 (((va_up (gcCt τ) 1 ((gcCt τ 1) + 1)) 3) + 1))) k42 (.inr (gcob σ)) (.inl 0) (by rw [gs_fr_Ct, g3]; omega) (by rw [gs_Ct_Ct, va_up_ne _ _ (by decide), va_up_ne _ _ (by decide), g2]; exact hR.2.2.2.2.1.2.1)) ml_X0_91 im_X0_enter se_X0_enter ini_X0 co_X0_enter hd_X0_enter ⟨Nat.le_of_ble_eq_true rfl, Nat.le_of_ble_eq_true rfl⟩ ⟨Nat.le_refl _, Nat.le_refl _⟩ 3 rfl rfl hP (hD _) hS hA2 rfl hl.1 (Nat.le_of_ble_eq_true rfl) dX0_begin_66 rfl (fun H locs hP hS => ?_)
      exact CM.retv E hr hlk hA (by rw [htg] at h42; simp only [bgF, if_neg (show ¬ gcrm σ < 1 from (by omega)), h42]; rw [← hτ, inc31]; exact hP) hS rfl dX0_begin_69
    · refine lv_aload_n E.1.1 E.1.2.1 dX0_begin_45 rfl (lv_at hl 2 rfl) ?_
      refine lv_bipush (v := nI 6) E.1.1 E.1.2.1 dX0_begin_46 rfl ?_
      refine pt_X0_trap (v := 6) E fl_X0_59 hP hD hS dX0_begin_48 (fun H locs hP hS => ?_)
      exact CM.retv E hr hlk hA (by rw [htg] at h42; simp only [bgF, if_neg (show ¬ gcrm σ < 1 from (by omega)), h42]; rw [← hτ]; unfold inc; exact hP) hS rfl dX0_begin_51
  · refine lv_aload_n E.1.1 E.1.2.1 dX0_begin_8 rfl (lv_at hl 0 rfl) ?_
    refine lv_iconst (v := nI 3) E.1.1 E.1.2.1 dX0_begin_9 rfl ?_
    refine pt_X0_trap (v := 3) E fl_X0_59 hP hD hS dX0_begin_10 (fun H locs hP hS => ?_)
    exact CM.retv E hr hlk hA (by unfold bgF; rw [if_pos (by omega)]; exact hP) hS rfl dX0_begin_13
set_option maxRecDepth 100000 in
set_option maxHeartbeats 400000 in
theorem c_X0_execute (l : Launch) (D : va_G) (cI cJ cZ : ClassId) (ad : Nat → Nat) (σ : CS) (b : Bool) (h : Nat)  (hR : RI σ) (hh : h ≤ 60) : CM l D (t3 cI cJ cZ) yX0_execute cX0_execute 4 (some .int) 6 [.ref (ad 3), .int (bI b), .int (nI h)] (wC ad cI cJ cZ σ) (some (.int (nI (gctr (exF b h σ))))) (wC ad cI cJ cZ (exF b h σ)) := by
  refine CM.of (by decide) (Nat.le_of_ble_eq_true rfl) ?_
  intro p e s m below meth c A ls E hr hlk hP hD0 hA hA2 hS hl
  have hD := wC_D hD0
  have hl : lv_has ls 4 [(0, .ref (ad 3)), (1, .int (bI b)), (2, .int (nI h))] := hl
  refine lv_aload_n E.1.1 E.1.2.1 dX0_execute_0 rfl (lv_at hl 0 rfl) ?_
  refine lv_iload_n E.1.1 E.1.2.1 dX0_execute_1 rfl (lv_at hl 1 rfl) ?_
  refine pt_X0_asShaped (v := b) E fl_X0_45 hP hD hS dX0_execute_2 (fun H locs hP hS => ?_)
  refine lv_aload_n E.1.1 E.1.2.1 dX0_execute_5 rfl (lv_at hl 0 rfl) ?_
  refine lv_iload_n E.1.1 E.1.2.1 dX0_execute_6 rfl (lv_at hl 2 rfl) ?_
  refine pt_X0_room (v := h) E fl_X0_49 hP hD hS dX0_execute_7 (fun H locs hP hS => ?_)
  refine lv_aload_n E.1.1 E.1.2.1 dX0_execute_10 rfl (lv_at hl 0 rfl) ?_
  refine lv_iconst (v := nI 0) E.1.1 E.1.2.1 dX0_execute_11 rfl ?_
  refine pt_X0_frames (v := 0) E fl_X0_53 hP hD hS dX0_execute_12 (fun H locs hP hS => ?_)
  refine lv_aload_n E.1.1 E.1.2.1 dX0_execute_15 rfl (lv_at hl 0 rfl) ?_
  refine lv_iconst (v := nI 0) E.1.1 E.1.2.1 dX0_execute_16 rfl ?_
  refine pt_X0_objects (v := 0) E fl_X0_56 hP hD hS dX0_execute_17 (fun H locs hP hS => ?_)
  refine lv_aload_n E.1.1 E.1.2.1 dX0_execute_20 rfl (lv_at hl 0 rfl) ?_
  refine lv_iconst (v := nI 0) E.1.1 E.1.2.1 dX0_execute_21 rfl ?_
  refine pt_X0_trap (v := 0) E fl_X0_59 hP hD hS dX0_execute_22 (fun H locs hP hS => ?_)
  refine lv_aload_n E.1.1 E.1.2.1 dX0_execute_25 rfl (lv_at hl 0 rfl) ?_
  refine gt_X0_counts E fl_X0_34 hP dX0_execute_26 ?_
  refine lv_iconst (v := nI 0) E.1.1 E.1.2.1 dX0_execute_29 rfl ?_
  refine CM.callSv (n := 2) E (c_J7_fill_53178_Ct l D cI cJ cZ ad (sctr (scob (scfr (scrm (scsh σ b) h) 0) 0) 0) 0) ml_X0_62 st_J7_fill_53178 ini_J7 co_J7_fill_53178 hd_J7_fill_53178 ⟨Nat.le_of_ble_eq_true rfl, Nat.le_of_ble_eq_true rfl⟩ ⟨Nat.le_refl _, Nat.le_refl _⟩ hP (hD _) hS hA2 rfl hl.1 (Nat.le_of_ble_eq_true rfl) dX0_execute_30 rfl (fun H locs hP hS => ?_)
  have hP : va_P D vwCl (wC ad cI cJ cZ (scCt (sctr (scob (scfr (scrm (scsh σ b) h) 0) 0) 0) (fillF (gcCt σ) 0 6 0))) H := by have q9 := hP; rw [gs_Ct_tr, gs_Ct_ob, gs_Ct_fr, gs_Ct_rm, gs_Ct_sh] at q9; exact q9
  have hP : va_P D vwCl (wC ad cI cJ cZ (ex0 b h σ)) H := by unfold ex0; exact hP
  have hP : va_P D vwCl (wC ad cI cJ cZ (ex0 b h σ)) H := hP
  refine lv_aload_n E.1.1 E.1.2.1 dX0_execute_33 rfl (lv_at hl 0 rfl) ?_
  refine CM.callVv (n := 0) E (c_X0_begin l D cI cJ cZ ad (ex0 b h σ) (RI_ex0 hR hh) (ex0_get b h σ).1 (ex0_get b h σ).2.1) ml_X0_68 im_X0_begin se_X0_begin ini_X0 co_X0_begin hd_X0_begin ⟨Nat.le_of_ble_eq_true rfl, Nat.le_of_ble_eq_true rfl⟩ ⟨Nat.le_refl _, Nat.le_refl _⟩ 3 rfl rfl hP (hD _) hS hA2 rfl hl.1 (Nat.le_of_ble_eq_true rfl) dX0_execute_34 rfl (fun H locs hP hS => ?_)
  refine lv_iconst (v := nI 0) E.1.1 E.1.2.1 dX0_execute_37 rfl ?_
  refine lv_istore_n (lv' := [(3, .int (nI 0)), (0, .ref (ad 3)), (1, .int (bI b)), (2, .int (nI h))]) E.1.1 E.1.2.1 dX0_execute_38 rfl hl (by decide) rfl (fun ls hl => ?_)
  have LP39 : ∀ (n : Nat) (k : Nat) (τ : CS) (H : Heap) (locs : List Loc) (ls : Array Slot), (GI τ) → (TP τ) → (k + n = 401) → (exF b h σ = exL n τ) → va_P D vwCl (wC ad cI cJ cZ τ) H → va_S A s.heap H locs → lv_has ls 4 [(0, .ref (ad 3)), (1, .int (bI b)), (2, .int (nI h)), (3, .int (nI k))] → W p l e { frames := 6, cells := 0, slots := 0, locals := 40 * 6 } s m [.ref (ad 3), .int (bI b), .int (nI h)].toArray below meth c H locs 0 0 (MQ below (Qcm D (wC ad cI cJ cZ σ) s.heap.size (some (.int (nI (gctr (exF b h σ))))) (wC ad cI cJ cZ (exF b h σ))) [.ref (ad 3), .int (bI b), .int (nI h)].toArray s 0 0 A) (F0 m 39 ls []) := by
    intro n
    induction n with
    | zero =>
      intro k τ H locs ls hT hU hk hv hP hS hl
      refine lv_iload_n E.1.1 E.1.2.1 dX0_execute_39 rfl (lv_at hl 3 rfl) ?_
      refine lv_sipush (v := nI 400) E.1.1 E.1.2.1 dX0_execute_40 rfl ?_
      refine nv_icmp_gt (by omega) (by omega) E dX0_execute_43 (tgt := 67) (by decide) (fun h43 => ?_) (fun h43 => ?_)
      · refine lv_aload_n E.1.1 E.1.2.1 dX0_execute_67 rfl (lv_at hl 0 rfl) ?_
        refine gt_X0_trap E fl_X0_59 hP dX0_execute_68 ?_
        exact CM.reti E hr hlk hA (by rw [hv]; first | exact hP | (rw [exL, if_neg (by rw [h50]; decide)]; exact hP)) hS (by rw [hv]; first | rfl | (rw [exL, if_neg (by rw [h50]; decide)])) dX0_execute_71
      · exact absurd h43 (by omega)
    | succ n ih39 =>
      intro k τ H locs ls hT hU hk hv hP hS hl
      refine lv_iload_n E.1.1 E.1.2.1 dX0_execute_39 rfl (lv_at hl 3 rfl) ?_
      refine lv_sipush (v := nI 400) E.1.1 E.1.2.1 dX0_execute_40 rfl ?_
      refine nv_icmp_gt (by omega) (by omega) E dX0_execute_43 (tgt := 67) (by decide) (fun h43 => ?_) (fun h43 => ?_)
      · exact absurd h43 (by omega)
      · refine lv_aload_n E.1.1 E.1.2.1 dX0_execute_46 rfl (lv_at hl 0 rfl) ?_
        refine CM.callVi (n := 0) E (c_X0_isGoing l D cI cJ cZ ad τ hT.1) ml_X0_71 im_X0_isGoing se_X0_isGoing ini_X0 co_X0_isGoing hd_X0_isGoing ⟨Nat.le_of_ble_eq_true rfl, Nat.le_of_ble_eq_true rfl⟩ ⟨Nat.le_refl _, Nat.le_refl _⟩ 3 rfl rfl hP (hD _) hS hA2 rfl hl.1 (Nat.le_of_ble_eq_true rfl) dX0_execute_47 rfl (fun H locs hP hS => ?_)
        refine bv_if_eq (x := igB τ) E dX0_execute_50 (tgt := 67) (by decide) (fun h50 => ?_) (fun h50 => ?_)
        · refine lv_aload_n E.1.1 E.1.2.1 dX0_execute_67 rfl (lv_at hl 0 rfl) ?_
          refine gt_X0_trap E fl_X0_59 hP dX0_execute_68 ?_
          exact CM.reti E hr hlk hA (by rw [hv]; first | exact hP | (rw [exL, if_neg (by rw [h50]; decide)]; exact hP)) hS (by rw [hv]; first | rfl | (rw [exL, if_neg (by rw [h50]; decide)])) dX0_execute_71
        · refine lv_aload_n E.1.1 E.1.2.1 dX0_execute_53 rfl (lv_at hl 0 rfl) ?_
          refine CM.callVv (n := 0) E (c_X0_step l D cI cJ cZ ad τ hT (igB_top h50 hU).1 (igB_top h50 hU).2) ml_X0_75 im_X0_step se_X0_step ini_X0 co_X0_step hd_X0_step ⟨Nat.le_of_ble_eq_true rfl, Nat.le_of_ble_eq_true rfl⟩ ⟨Nat.le_refl _, Nat.le_refl _⟩ 3 rfl rfl hP (hD _) hS hA2 rfl hl.1 (Nat.le_of_ble_eq_true rfl) dX0_execute_54 rfl (fun H locs hP hS => ?_)
          refine lv_aload_n E.1.1 E.1.2.1 dX0_execute_57 rfl (lv_at hl 0 rfl) ?_
          refine CM.callVv (n := 0) E (c_X0_leaveEndedFrames l D cI cJ cZ ad (stF τ) (GI_st hT (igB_top h50 hU).1 (igB_top h50 hU).2)) ml_X0_78 im_X0_leaveEndedFrames se_X0_leaveEndedFrames ini_X0 co_X0_leaveEndedFrames hd_X0_leaveEndedFrames ⟨Nat.le_of_ble_eq_true rfl, Nat.le_of_ble_eq_true rfl⟩ ⟨Nat.le_refl _, Nat.le_refl _⟩ 3 rfl rfl hP (hD _) hS hA2 rfl hl.1 (Nat.le_of_ble_eq_true rfl) dX0_execute_58 rfl (fun H locs hP hS => ?_)
          refine lv_iinc (v := nI (k + 1)) (lv' := [(3, .int (nI (k + 1))), (0, .ref (ad 3)), (1, .int (bI b)), (2, .int (nI h))]) E.1.1 E.1.2.1 dX0_execute_61 hl (k := 3) rfl (nI_add k 1) (by decide) rfl (fun ls hl => ?_)
          refine lv_goto (tgt := 39) E.1.1 E.1.2.1 dX0_execute_64 (by decide) ?_
          exact ih39 (k + 1) (igF (stF τ)) _ _ _ (GI_ig (GI_st hT (igB_top h50 hU).1 (igB_top h50 hU).2)) (TP_ig _) (by omega) (by rw [hv, exL, if_pos h50]) hP hS (lv_sub hl [1, 2, 3, 0] rfl)
  exact LP39 401 0 (bgF (ex0 b h σ)) _ _ _ (GI_bg hR hh) (TP_bg (ex0_get b h σ).2.1) (by omega) rfl hP hS (lv_sub hl [1, 2, 3, 0] rfl)
set_option maxRecDepth 100000 in
set_option maxHeartbeats 400000 in
theorem c_X3_shape (l : Launch) (D : va_G) (cI cJ cZ : ClassId) (ad : Nat → Nat) (σ : CS)   (hI : PI σ) (hW : WI σ) : CM l D (t3 cI cJ cZ) yX3_shape cX3_shape 1 (some .int) 6 [.ref (ad 0)] (wC ad cI cJ cZ σ) (some (.int (bcF (nI (gcre (rnF σ)))))) (wC ad cI cJ cZ (rnF σ)) := by
  refine CM.of (by decide) (Nat.le_of_ble_eq_true rfl) ?_
  intro p e s m below meth c A ls E hr hlk hP hD0 hA hA2 hS hl
  have hD := wC_D hD0
  have hl : lv_has ls 1 [(0, .ref (ad 0))] := hl
  refine lv_aload_n E.1.1 E.1.2.1 dX3_shape_0 rfl (lv_at hl 0 rfl) ?_
  refine gt_X3_shaping E fl_X3_21 hP dX3_shape_1 ?_
  refine CM.callVi (n := 0) E (c_X2_renew l D cI cJ cZ ad σ hI hW) ml_X3_90 im_X2_renew se_X2_renew ini_X2 co_X2_renew hd_X2_renew ⟨Nat.le_of_ble_eq_true rfl, Nat.le_of_ble_eq_true rfl⟩ ⟨Nat.le_refl _, Nat.le_refl _⟩ 2 rfl rfl hP (hD _) hS hA2 rfl hl.1 (Nat.le_of_ble_eq_true rfl) dX3_shape_4 rfl (fun H locs hP hS => ?_)
  exact CM.reti E hr hlk hA hP hS rfl dX3_shape_7
set_option maxRecDepth 100000 in
set_option maxHeartbeats 400000 in
theorem c_X3_reach (l : Launch) (D : va_G) (cI cJ cZ : ClassId) (ad : Nat → Nat) (σ : CS)    : CM l D (t3 cI cJ cZ) yX3_reach cX3_reach 1 (some .int) 1 [.ref (ad 0)] (wC ad cI cJ cZ σ) (some (.int (nI (gcma σ ||| gcre σ <<< 8)))) (wC ad cI cJ cZ σ) := by
  refine CM.of (by decide) (Nat.le_of_ble_eq_true rfl) ?_
  intro p e s m below meth c A ls E hr hlk hP hD0 hA hA2 hS hl
  have hD := wC_D hD0
  have hl : lv_has ls 1 [(0, .ref (ad 0))] := hl
  refine lv_aload_n E.1.1 E.1.2.1 dX3_reach_0 rfl (lv_at hl 0 rfl) ?_
  refine gt_X3_shaping E fl_X3_21 hP dX3_reach_1 ?_
  refine CM.callVi (n := 0) E (c_X2_bits l D cI cJ cZ ad σ ) ml_X3_94 im_X2_bits se_X2_bits ini_X2 co_X2_bits hd_X2_bits ⟨Nat.le_of_ble_eq_true rfl, Nat.le_of_ble_eq_true rfl⟩ ⟨Nat.le_refl _, Nat.le_refl _⟩ 2 rfl rfl hP (hD _) hS hA2 rfl hl.1 (Nat.le_of_ble_eq_true rfl) dX3_reach_4 rfl (fun H locs hP hS => ?_)
  exact CM.reti E hr hlk hA hP hS rfl dX3_reach_7
