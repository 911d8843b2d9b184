set_option maxRecDepth 100000 in
set_option maxHeartbeats 400000 in
theorem c_X4_does (l : Launch) (D : va_G) (cI cJ cZ : ClassId) (ad : Nat → Nat) (σ : MS) (sh : Bool)  (hV : VI σ) (hC2 : CI (nxM (gmfr σ - 1) σ)) (hV2 : VI (nxM (gmfr σ - 1) σ)) (hf : 0 < gmfr σ) (hn : gmpl σ (gmfr σ - 1) < 10) (hob : gmob σ < 401) : CM l D (t3 cI cJ cZ) yX4_does cX4_does 10 (some .int) 2 [.ref (ad 0), .int (bI sh)] (wR ad cI cJ cZ σ) (some (.int (nI (doR sh σ)))) (wR ad cI cJ cZ (doF sh σ)) := by
  refine CM.of (by decide) (Nat.le_of_ble_eq_true rfl) ?_
  intro p e s m below meth c A ls E hr hlk hP hD0 hA hA2 hS hl
  have hD := wR_D hD0
  have hl : lv_has ls 10 [(0, .ref (ad 0)), (1, .int (bI sh))] := hl
  have hf12 := hV.2.2.2.2.1
  have hbo := hV.2.1.2.1 (gmfr σ - 1)
  refine lv_aload_n E.1.1 E.1.2.1 dX4_does_0 rfl (lv_at hl 0 rfl) ?_
  refine gt_X4_frames E fl_X4_125 hP dX4_does_1 ?_
  refine lv_iconst (v := nI 1) E.1.1 E.1.2.1 dX4_does_4 rfl ?_
  refine nv_isub (by omega) E dX4_does_5 ?_
  refine lv_istore_n (lv' := [(2, .int (nI ((gmfr σ) - 1))), (0, .ref (ad 0)), (1, .int (bI sh))]) E.1.1 E.1.2.1 dX4_does_6 rfl hl (by decide) rfl (fun ls hl => ?_)
  refine lv_aload_n E.1.1 E.1.2.1 dX4_does_7 rfl (lv_at hl 1 rfl) ?_
  refine gt_X4_body E fl_X4_48 hP dX4_does_8 ?_
  refine lv_iload_n E.1.1 E.1.2.1 dX4_does_11 rfl (lv_at hl 0 rfl) ?_
  refine ld_MS_bo (i := (gmfr σ) - 1) E hP (by omega) dX4_does_12 ?_
  refine lv_istore_n (lv' := [(3, .int (nI (gmbo σ ((gmfr σ) - 1)))), (2, .int (nI ((gmfr σ) - 1))), (0, .ref (ad 0)), (1, .int (bI sh))]) E.1.1 E.1.2.1 dX4_does_13 rfl hl (by decide) rfl (fun ls hl => ?_)
  refine lv_aload_n E.1.1 E.1.2.1 dX4_does_14 rfl (lv_at hl 2 rfl) ?_
  refine gt_X4_place E fl_X4_51 hP dX4_does_15 ?_
  refine lv_iload_n E.1.1 E.1.2.1 dX4_does_18 rfl (lv_at hl 1 rfl) ?_
  refine ld_MS_pl (i := (gmfr σ) - 1) E hP (by omega) dX4_does_19 ?_
  refine lv_istore (lv' := [(4, .int (nI (gmpl σ ((gmfr σ) - 1)))), (3, .int (nI (gmbo σ ((gmfr σ) - 1)))), (2, .int (nI ((gmfr σ) - 1))), (0, .ref (ad 0)), (1, .int (bI sh))]) E.1.1 E.1.2.1 dX4_does_20 hl (by decide) rfl (fun ls hl => ?_)
  refine lv_bipush (v := nI 6) E.1.1 E.1.2.1 dX4_does_22 rfl ?_
  refine lv_iload_n E.1.1 E.1.2.1 dX4_does_24 rfl (lv_at hl 2 rfl) ?_
  refine nv_imul E dX4_does_25 ?_
  refine lv_istore (lv' := [(5, .int (nI (6 * ((gmfr σ) - 1)))), (4, .int (nI (gmpl σ ((gmfr σ) - 1)))), (3, .int (nI (gmbo σ ((gmfr σ) - 1)))), (2, .int (nI ((gmfr σ) - 1))), (0, .ref (ad 0)), (1, .int (bI sh))]) E.1.1 E.1.2.1 dX4_does_26 hl (by decide) rfl (fun ls hl => ?_)
  refine lv_aload_n E.1.1 E.1.2.1 dX4_does_28 rfl (lv_at hl 4 rfl) ?_
  refine lv_iload_n E.1.1 E.1.2.1 dX4_does_29 rfl (lv_at hl 2 rfl) ?_
  refine lv_iload E.1.1 E.1.2.1 dX4_does_30 (lv_at hl 1 rfl) ?_
  refine lv_iconst (v := nI 1) E.1.1 E.1.2.1 dX4_does_32 rfl ?_
  refine CM.callVi (n := 3) E (c_X4_at l D cI cJ cZ ad σ (gmbo σ ((gmfr σ) - 1)) (gmpl σ ((gmfr σ) - 1)) 1 (by omega)) ml_X4_99 im_X4_at se_X4_at ini_X4 co_X4_at hd_X4_at ⟨Nat.le_of_ble_eq_true rfl, Nat.le_of_ble_eq_true rfl⟩ ⟨Nat.le_refl _, Nat.le_refl _⟩ 0 rfl rfl hP (hD _) hS hA2 rfl hl.1 (Nat.le_of_ble_eq_true rfl) dX4_does_33 rfl (fun H locs hP hS => ?_)
  refine lv_istore (lv' := [(6, .int (gmcd σ (40 * (gmbo σ ((gmfr σ) - 1)) + 4 * (gmpl σ ((gmfr σ) - 1)) + 1))), (5, .int (nI (6 * ((gmfr σ) - 1)))), (4, .int (nI (gmpl σ ((gmfr σ) - 1)))), (3, .int (nI (gmbo σ ((gmfr σ) - 1)))), (2, .int (nI ((gmfr σ) - 1))), (0, .ref (ad 0)), (1, .int (bI sh))]) E.1.1 E.1.2.1 dX4_does_36 hl (by decide) rfl (fun ls hl => ?_)
  refine lv_aload_n E.1.1 E.1.2.1 dX4_does_38 rfl (lv_at hl 5 rfl) ?_
  refine lv_iload_n E.1.1 E.1.2.1 dX4_does_39 rfl (lv_at hl 3 rfl) ?_
  refine lv_iload E.1.1 E.1.2.1 dX4_does_40 (lv_at hl 2 rfl) ?_
  refine lv_iconst (v := nI 2) E.1.1 E.1.2.1 dX4_does_42 rfl ?_
  refine CM.callVi (n := 3) E (c_X4_at l D cI cJ cZ ad σ (gmbo σ ((gmfr σ) - 1)) (gmpl σ ((gmfr σ) - 1)) 2 (by omega)) ml_X4_99 im_X4_at se_X4_at ini_X4 co_X4_at hd_X4_at ⟨Nat.le_of_ble_eq_true rfl, Nat.le_of_ble_eq_true rfl⟩ ⟨Nat.le_refl _, Nat.le_refl _⟩ 0 rfl rfl hP (hD _) hS hA2 rfl hl.1 (Nat.le_of_ble_eq_true rfl) dX4_does_43 rfl (fun H locs hP hS => ?_)
  refine lv_istore (lv' := [(7, .int (gmcd σ (40 * (gmbo σ ((gmfr σ) - 1)) + 4 * (gmpl σ ((gmfr σ) - 1)) + 2))), (6, .int (gmcd σ (40 * (gmbo σ ((gmfr σ) - 1)) + 4 * (gmpl σ ((gmfr σ) - 1)) + 1))), (5, .int (nI (6 * ((gmfr σ) - 1)))), (4, .int (nI (gmpl σ ((gmfr σ) - 1)))), (3, .int (nI (gmbo σ ((gmfr σ) - 1)))), (2, .int (nI ((gmfr σ) - 1))), (0, .ref (ad 0)), (1, .int (bI sh))]) E.1.1 E.1.2.1 dX4_does_46 hl (by decide) rfl (fun ls hl => ?_)
  refine lv_aload_n E.1.1 E.1.2.1 dX4_does_48 rfl (lv_at hl 6 rfl) ?_
  refine lv_iload_n E.1.1 E.1.2.1 dX4_does_49 rfl (lv_at hl 4 rfl) ?_
  refine lv_iload E.1.1 E.1.2.1 dX4_does_50 (lv_at hl 3 rfl) ?_
  refine lv_iconst (v := nI 3) E.1.1 E.1.2.1 dX4_does_52 rfl ?_
  refine CM.callVi (n := 3) E (c_X4_at l D cI cJ cZ ad σ (gmbo σ ((gmfr σ) - 1)) (gmpl σ ((gmfr σ) - 1)) 3 (by omega)) ml_X4_99 im_X4_at se_X4_at ini_X4 co_X4_at hd_X4_at ⟨Nat.le_of_ble_eq_true rfl, Nat.le_of_ble_eq_true rfl⟩ ⟨Nat.le_refl _, Nat.le_refl _⟩ 0 rfl rfl hP (hD _) hS hA2 rfl hl.1 (Nat.le_of_ble_eq_true rfl) dX4_does_53 rfl (fun H locs hP hS => ?_)
  refine lv_istore (lv' := [(8, .int (gmcd σ (40 * (gmbo σ ((gmfr σ) - 1)) + 4 * (gmpl σ ((gmfr σ) - 1)) + 3))), (7, .int (gmcd σ (40 * (gmbo σ ((gmfr σ) - 1)) + 4 * (gmpl σ ((gmfr σ) - 1)) + 2))), (6, .int (gmcd σ (40 * (gmbo σ ((gmfr σ) - 1)) + 4 * (gmpl σ ((gmfr σ) - 1)) + 1))), (5, .int (nI (6 * ((gmfr σ) - 1)))), (4, .int (nI (gmpl σ ((gmfr σ) - 1)))), (3, .int (nI (gmbo σ ((gmfr σ) - 1)))), (2, .int (nI ((gmfr σ) - 1))), (0, .ref (ad 0)), (1, .int (bI sh))]) E.1.1 E.1.2.1 dX4_does_56 hl (by decide) rfl (fun ls hl => ?_)
  refine lv_iload_n E.1.1 E.1.2.1 dX4_does_58 rfl (lv_at hl 8 rfl) ?_
  refine bv_if_eq (x := sh) E dX4_does_59 (tgt := 72) (by decide) (fun h59 => ?_) (fun h59 => ?_)
  · refine lv_iconst (v := nI 0) E.1.1 E.1.2.1 dX4_does_72 rfl ?_
    refine lv_istore (lv' := [(9, .int (nI 0)), (8, .int (gmcd σ (40 * (gmbo σ ((gmfr σ) - 1)) + 4 * (gmpl σ ((gmfr σ) - 1)) + 3))), (7, .int (gmcd σ (40 * (gmbo σ ((gmfr σ) - 1)) + 4 * (gmpl σ ((gmfr σ) - 1)) + 2))), (6, .int (gmcd σ (40 * (gmbo σ ((gmfr σ) - 1)) + 4 * (gmpl σ ((gmfr σ) - 1)) + 1))), (5, .int (nI (6 * ((gmfr σ) - 1)))), (4, .int (nI (gmpl σ ((gmfr σ) - 1)))), (3, .int (nI (gmbo σ ((gmfr σ) - 1)))), (2, .int (nI ((gmfr σ) - 1))), (0, .ref (ad 0)), (1, .int (bI sh))]) E.1.1 E.1.2.1 dX4_does_73 hl (by decide) rfl (fun ls hl => ?_)
    refine lv_aload_n E.1.1 E.1.2.1 dX4_does_75 rfl (lv_at hl 8 rfl) ?_
    refine gt_X4_place E fl_X4_51 hP dX4_does_76 ?_
    refine lv_iload_n E.1.1 E.1.2.1 dX4_does_79 rfl (lv_at hl 7 rfl) ?_
    refine lv_dup2_11 E.1.1 E.1.2.1 dX4_does_80 rfl rfl ?_
    refine ld_MS_pl (i := (gmfr σ) - 1) E hP (by omega) dX4_does_81 ?_
    refine lv_iconst (v := nI 1) E.1.1 E.1.2.1 dX4_does_82 rfl ?_
    refine nv_iadd E dX4_does_83 ?_
    refine as_MS_pl (i := (gmfr σ) - 1) (v := (gmpl σ ((gmfr σ) - 1)) + 1) E hP hD hS (by omega) dX4_does_84 (fun H locs hP hS => ?_)
    obtain ⟨τ, hτ⟩ : ∃ z, z = nxM (gmfr σ - 1) σ := ⟨_, rfl⟩
    have hm9 : (smpl σ (va_up (gmpl σ) ((gmfr σ) - 1) ((gmpl σ ((gmfr σ) - 1)) + 1))) = τ := by rw [hτ]; rfl
    rw [hm9] at hP
    have hP : va_P D vwCl (wR ad cI cJ cZ τ) H := hP
    obtain ⟨pp, hpp⟩ : ∃ z, z = doP σ := ⟨_, rfl⟩
    obtain ⟨c1, c2, c3, c4⟩ := nxM_get (gmfr σ - 1) σ
    rw [← hτ] at c1 c2 c3 c4 hV2 hC2
    have e1 : gmcd σ (40 * gmbo σ (gmfr σ - 1) + 4 * gmpl σ (gmfr σ - 1) + 1) = nI (xM τ pp) := by rw [show 40 * gmbo σ (gmfr σ - 1) + 4 * gmpl σ (gmfr σ - 1) + 1 = 4 * pp + 1 from (by rw [hpp, doP]; omega), ← c1]; exact (hC2 pp).2.1.1
    have e2 : gmcd σ (40 * gmbo σ (gmfr σ - 1) + 4 * gmpl σ (gmfr σ - 1) + 2) = gmcd τ (4 * pp + 2) := by rw [show 40 * gmbo σ (gmfr σ - 1) + 4 * gmpl σ (gmfr σ - 1) + 2 = 4 * pp + 2 from (by rw [hpp, doP]; omega), ← c1]
    have e3 : gmcd σ (40 * gmbo σ (gmfr σ - 1) + 4 * gmpl σ (gmfr σ - 1) + 3) = gmcd τ (4 * pp + 3) := by rw [show 40 * gmbo σ (gmfr σ - 1) + 4 * gmpl σ (gmfr σ - 1) + 3 = 4 * pp + 3 from (by rw [hpp, doP]; omega), ← c1]
    have hx9 := (hC2 pp).2.1.2
    have hl : lv_has ls 10 [(9, .int (nI 0)), (8, .int (gmcd σ (40 * (gmbo σ ((gmfr σ) - 1)) + 4 * (gmpl σ ((gmfr σ) - 1)) + 3))), (7, .int (gmcd σ (40 * (gmbo σ ((gmfr σ) - 1)) + 4 * (gmpl σ ((gmfr σ) - 1)) + 2))), (6, .int (nI (xM τ pp))), (5, .int (nI (6 * ((gmfr σ) - 1)))), (4, .int (nI (gmpl σ ((gmfr σ) - 1)))), (3, .int (nI (gmbo σ ((gmfr σ) - 1)))), (2, .int (nI ((gmfr σ) - 1))), (0, .ref (ad 0)), (1, .int (bI sh))] := by have q9 := hl; rw [e1] at q9; exact q9
    have hl : lv_has ls 10 [(9, .int (nI 0)), (8, .int (gmcd σ (40 * (gmbo σ ((gmfr σ) - 1)) + 4 * (gmpl σ ((gmfr σ) - 1)) + 3))), (7, .int (gmcd τ (4 * pp + 2))), (6, .int (nI (xM τ pp))), (5, .int (nI (6 * ((gmfr σ) - 1)))), (4, .int (nI (gmpl σ ((gmfr σ) - 1)))), (3, .int (nI (gmbo σ ((gmfr σ) - 1)))), (2, .int (nI ((gmfr σ) - 1))), (0, .ref (ad 0)), (1, .int (bI sh))] := by have q9 := hl; rw [e2] at q9; exact q9
    have hl : lv_has ls 10 [(9, .int (nI 0)), (8, .int (gmcd τ (4 * pp + 3))), (7, .int (gmcd τ (4 * pp + 2))), (6, .int (nI (xM τ pp))), (5, .int (nI (6 * ((gmfr σ) - 1)))), (4, .int (nI (gmpl σ ((gmfr σ) - 1)))), (3, .int (nI (gmbo σ ((gmfr σ) - 1)))), (2, .int (nI ((gmfr σ) - 1))), (0, .ref (ad 0)), (1, .int (bI sh))] := by have q9 := hl; rw [e3] at q9; exact q9
    have hz0 : 0 ≤ 6 := by first | (unfold siF; split; exact hV.2.1.2.2.2.2 _; exact Nat.zero_le 6) | exact Nat.zero_le 6
    have hzz : doZ sh σ = 0 := by unfold doZ; first | (rw [if_pos h59]; done) | (rw [if_neg (by rw [h59]; decide)])
    refine lv_aload_n E.1.1 E.1.2.1 dX4_does_85 rfl (lv_at hl 8 rfl) ?_
    refine lv_iload_n E.1.1 E.1.2.1 dX4_does_86 rfl (lv_at hl 6 rfl) ?_
    refine lv_iload E.1.1 E.1.2.1 dX4_does_87 (lv_at hl 5 rfl) ?_
    refine lv_iconst (v := nI 0) E.1.1 E.1.2.1 dX4_does_89 rfl ?_
    refine CM.callVi (n := 3) E (c_X4_at l D cI cJ cZ ad τ (gmbo σ ((gmfr σ) - 1)) (gmpl σ ((gmfr σ) - 1)) 0 (by omega)) ml_X4_99 im_X4_at se_X4_at ini_X4 co_X4_at hd_X4_at ⟨Nat.le_of_ble_eq_true rfl, Nat.le_of_ble_eq_true rfl⟩ ⟨Nat.le_refl _, Nat.le_refl _⟩ 0 rfl rfl hP (hD _) hS hA2 rfl hl.1 (Nat.le_of_ble_eq_true rfl) dX4_does_90 rfl (fun H locs hP hS => ?_)
    refine tpi (y := nI (kM τ pp)) (by rw [show 40 * gmbo σ (gmfr σ - 1) + 4 * gmpl σ (gmfr σ - 1) + 0 = 4 * pp from (by rw [hpp, doP]; omega)]; exact (hC2 pp).1.1) ?_
    rcases (show kM τ pp = 0 ∨ kM τ pp = 1 ∨ kM τ pp = 2 ∨ kM τ pp = 3 ∨ kM τ pp = 4 ∨ kM τ pp = 5 ∨ kM τ pp = 6 ∨ kM τ pp = 7 ∨ kM τ pp = 8 ∨ kM τ pp = 9 ∨ kM τ pp = 10 ∨ kM τ pp = 11 by have := (hC2 pp).1.2; omega) with h93 | h93 | h93 | h93 | h93 | h93 | h93 | h93 | h93 | h93 | h93 | h93
    · refine tpi (y := nI 0) (by rw [h93]) ?_
      refine lv_tableIn (off := 59) (tgt := 152) E.1.1 E.1.2.1 dX4_does_93 (by decide) (by decide) (by decide) (by decide) ?_
      refine lv_aload_n E.1.1 E.1.2.1 dX4_does_152 rfl (lv_at hl 8 rfl) ?_
      refine lv_iload E.1.1 E.1.2.1 dX4_does_153 (lv_at hl 4 rfl) ?_
      refine lv_iload E.1.1 E.1.2.1 dX4_does_155 (lv_at hl 3 rfl) ?_
      refine nv_iadd E dX4_does_157 ?_
      refine lv_iconst (v := nI 0) E.1.1 E.1.2.1 dX4_does_158 rfl ?_
      refine lv_iload E.1.1 E.1.2.1 dX4_does_159 (lv_at hl 2 rfl) ?_
      refine CM.callVv (n := 3) E (c_X4_set l D cI cJ cZ ad τ ((6 * ((gmfr σ) - 1)) + (xM τ pp)) false (gmcd τ (4 * pp + 2)) (by omega)) ml_X4_128 im_X4_set se_X4_set ini_X4 co_X4_set hd_X4_set ⟨Nat.le_of_ble_eq_true rfl, Nat.le_of_ble_eq_true rfl⟩ ⟨Nat.le_refl _, Nat.le_refl _⟩ 0 rfl rfl hP (hD _) hS hA2 rfl hl.1 (Nat.le_of_ble_eq_true rfl) dX4_does_161 rfl (fun H locs hP hS => ?_)
      refine lv_iconst (v := nI 0) E.1.1 E.1.2.1 dX4_does_164 rfl ?_
      exact CM.reti E hr hlk hA (by unfold doF; rw [← hτ, ← hpp]; simp only [dpF, h93]; exact hP) hS (by unfold doR; rw [← hτ, ← hpp]; simp only [dpR, h93]) dX4_does_165
    · refine tpi (y := nI 1) (by rw [h93]) ?_
      refine lv_tableIn (off := 73) (tgt := 166) E.1.1 E.1.2.1 dX4_does_93 (by decide) (by decide) (by decide) (by decide) ?_
      have hy9 := CI_y hC2 (p := pp) (by omega)
      have hl : lv_has ls 10 [(9, .int (nI 0)), (8, .int (gmcd τ (4 * pp + 3))), (7, .int (nI (yM τ pp))), (6, .int (nI (xM τ pp))), (5, .int (nI (6 * ((gmfr σ) - 1)))), (4, .int (nI (gmpl σ ((gmfr σ) - 1)))), (3, .int (nI (gmbo σ ((gmfr σ) - 1)))), (2, .int (nI ((gmfr σ) - 1))), (0, .ref (ad 0)), (1, .int (bI sh))] := by have q9 := hl; rw [hy9.1] at q9; exact q9
      refine lv_aload_n E.1.1 E.1.2.1 dX4_does_166 rfl (lv_at hl 8 rfl) ?_
      refine lv_iload E.1.1 E.1.2.1 dX4_does_167 (lv_at hl 4 rfl) ?_
      refine lv_iload E.1.1 E.1.2.1 dX4_does_169 (lv_at hl 3 rfl) ?_
      refine nv_iadd E dX4_does_171 ?_
      refine lv_aload_n E.1.1 E.1.2.1 dX4_does_172 rfl (lv_at hl 8 rfl) ?_
      refine gt_X4_is E fl_X4_57 hP dX4_does_173 ?_
      refine lv_iload E.1.1 E.1.2.1 dX4_does_176 (lv_at hl 4 rfl) ?_
      refine lv_iload E.1.1 E.1.2.1 dX4_does_178 (lv_at hl 2 rfl) ?_
      refine nv_iadd E dX4_does_180 ?_
      refine ld_MS_is (i := (6 * ((gmfr σ) - 1)) + (yM τ pp)) E hP (by omega) dX4_does_181 ?_
      refine lv_aload_n E.1.1 E.1.2.1 dX4_does_182 rfl (lv_at hl 8 rfl) ?_
      refine gt_X4_value E fl_X4_60 hP dX4_does_183 ?_
      refine lv_iload E.1.1 E.1.2.1 dX4_does_186 (lv_at hl 4 rfl) ?_
      refine lv_iload E.1.1 E.1.2.1 dX4_does_188 (lv_at hl 2 rfl) ?_
      refine nv_iadd E dX4_does_190 ?_
      refine ld_MS_va (i := (6 * ((gmfr σ) - 1)) + (yM τ pp)) E hP (by omega) dX4_does_191 ?_
      refine CM.callVv (n := 3) E (c_X4_set l D cI cJ cZ ad τ ((6 * ((gmfr σ) - 1)) + (xM τ pp)) (gmis τ ((6 * ((gmfr σ) - 1)) + (yM τ pp))) (gmva τ ((6 * ((gmfr σ) - 1)) + (yM τ pp))) (by omega)) ml_X4_128 im_X4_set se_X4_set ini_X4 co_X4_set hd_X4_set ⟨Nat.le_of_ble_eq_true rfl, Nat.le_of_ble_eq_true rfl⟩ ⟨Nat.le_refl _, Nat.le_refl _⟩ 0 rfl rfl hP (hD _) hS hA2 rfl hl.1 (Nat.le_of_ble_eq_true rfl) dX4_does_192 rfl (fun H locs hP hS => ?_)
      refine lv_iconst (v := nI 0) E.1.1 E.1.2.1 dX4_does_195 rfl ?_
      exact CM.reti E hr hlk hA (by unfold doF; rw [← hτ, ← hpp]; simp only [dpF, h93]; exact hP) hS (by unfold doR; rw [← hτ, ← hpp]; simp only [dpR, h93]) dX4_does_196
    · refine tpi (y := nI 2) (by rw [h93]) ?_
      refine lv_tableIn (off := 104) (tgt := 197) E.1.1 E.1.2.1 dX4_does_93 (by decide) (by decide) (by decide) (by decide) ?_
      have hy9 := CI_y hC2 (p := pp) (by omega)
      have hl : lv_has ls 10 [(9, .int (nI 0)), (8, .int (gmcd τ (4 * pp + 3))), (7, .int (nI (yM τ pp))), (6, .int (nI (xM τ pp))), (5, .int (nI (6 * ((gmfr σ) - 1)))), (4, .int (nI (gmpl σ ((gmfr σ) - 1)))), (3, .int (nI (gmbo σ ((gmfr σ) - 1)))), (2, .int (nI ((gmfr σ) - 1))), (0, .ref (ad 0)), (1, .int (bI sh))] := by have q9 := hl; rw [hy9.1] at q9; exact q9
      have hz9 := CI_z6 hC2 (p := pp) (by omega)
      have hl : lv_has ls 10 [(9, .int (nI 0)), (8, .int (nI (zM τ pp))), (7, .int (nI (yM τ pp))), (6, .int (nI (xM τ pp))), (5, .int (nI (6 * ((gmfr σ) - 1)))), (4, .int (nI (gmpl σ ((gmfr σ) - 1)))), (3, .int (nI (gmbo σ ((gmfr σ) - 1)))), (2, .int (nI ((gmfr σ) - 1))), (0, .ref (ad 0)), (1, .int (bI sh))] := by have q9 := hl; rw [hz9.1] at q9; exact q9
      refine lv_aload_n E.1.1 E.1.2.1 dX4_does_197 rfl (lv_at hl 8 rfl) ?_
      refine lv_iload E.1.1 E.1.2.1 dX4_does_198 (lv_at hl 4 rfl) ?_
      refine lv_iconst (v := nI 1) E.1.1 E.1.2.1 dX4_does_200 rfl ?_
      refine lv_iload E.1.1 E.1.2.1 dX4_does_201 (lv_at hl 3 rfl) ?_
      refine lv_iload E.1.1 E.1.2.1 dX4_does_203 (lv_at hl 2 rfl) ?_
      refine lv_iload E.1.1 E.1.2.1 dX4_does_205 (lv_at hl 1 rfl) ?_
      refine CM.callVi (n := 5) E (c_X4_sums l D cI cJ cZ ad τ (6 * ((gmfr σ) - 1)) true (xM τ pp) (yM τ pp) (zM τ pp) (by omega) (by omega) (by omega)) ml_X4_140 im_X4_sums se_X4_sums ini_X4 co_X4_sums hd_X4_sums ⟨Nat.le_of_ble_eq_true rfl, Nat.le_of_ble_eq_true rfl⟩ ⟨Nat.le_refl _, Nat.le_refl _⟩ 0 rfl rfl hP (hD _) hS hA2 rfl hl.1 (Nat.le_of_ble_eq_true rfl) dX4_does_207 rfl (fun H locs hP hS => ?_)
      exact CM.reti E hr hlk hA (by unfold doF; rw [← hτ, ← hpp]; simp only [dpF, h93]; exact hP) hS (by unfold doR; rw [← hτ, ← hpp]; simp only [dpR, h93]) dX4_does_210
    · refine tpi (y := nI 3) (by rw [h93]) ?_
      refine lv_tableIn (off := 118) (tgt := 211) E.1.1 E.1.2.1 dX4_does_93 (by decide) (by decide) (by decide) (by decide) ?_
      have hy9 := CI_y hC2 (p := pp) (by omega)
      have hl : lv_has ls 10 [(9, .int (nI 0)), (8, .int (gmcd τ (4 * pp + 3))), (7, .int (nI (yM τ pp))), (6, .int (nI (xM τ pp))), (5, .int (nI (6 * ((gmfr σ) - 1)))), (4, .int (nI (gmpl σ ((gmfr σ) - 1)))), (3, .int (nI (gmbo σ ((gmfr σ) - 1)))), (2, .int (nI ((gmfr σ) - 1))), (0, .ref (ad 0)), (1, .int (bI sh))] := by have q9 := hl; rw [hy9.1] at q9; exact q9
      have hz9 := CI_z6 hC2 (p := pp) (by omega)
      have hl : lv_has ls 10 [(9, .int (nI 0)), (8, .int (nI (zM τ pp))), (7, .int (nI (yM τ pp))), (6, .int (nI (xM τ pp))), (5, .int (nI (6 * ((gmfr σ) - 1)))), (4, .int (nI (gmpl σ ((gmfr σ) - 1)))), (3, .int (nI (gmbo σ ((gmfr σ) - 1)))), (2, .int (nI ((gmfr σ) - 1))), (0, .ref (ad 0)), (1, .int (bI sh))] := by have q9 := hl; rw [hz9.1] at q9; exact q9
      refine lv_aload_n E.1.1 E.1.2.1 dX4_does_211 rfl (lv_at hl 8 rfl) ?_
      refine lv_iload E.1.1 E.1.2.1 dX4_does_212 (lv_at hl 4 rfl) ?_
      refine lv_iconst (v := nI 0) E.1.1 E.1.2.1 dX4_does_214 rfl ?_
      refine lv_iload E.1.1 E.1.2.1 dX4_does_215 (lv_at hl 3 rfl) ?_
      refine lv_iload E.1.1 E.1.2.1 dX4_does_217 (lv_at hl 2 rfl) ?_
      refine lv_iload E.1.1 E.1.2.1 dX4_does_219 (lv_at hl 1 rfl) ?_
      refine CM.callVi (n := 5) E (c_X4_sums l D cI cJ cZ ad τ (6 * ((gmfr σ) - 1)) false (xM τ pp) (yM τ pp) (zM τ pp) (by omega) (by omega) (by omega)) ml_X4_140 im_X4_sums se_X4_sums ini_X4 co_X4_sums hd_X4_sums ⟨Nat.le_of_ble_eq_true rfl, Nat.le_of_ble_eq_true rfl⟩ ⟨Nat.le_refl _, Nat.le_refl _⟩ 0 rfl rfl hP (hD _) hS hA2 rfl hl.1 (Nat.le_of_ble_eq_true rfl) dX4_does_221 rfl (fun H locs hP hS => ?_)
      exact CM.reti E hr hlk hA (by unfold doF; rw [← hτ, ← hpp]; simp only [dpF, h93]; exact hP) hS (by unfold doR; rw [← hτ, ← hpp]; simp only [dpR, h93]) dX4_does_224
    · refine tpi (y := nI 4) (by rw [h93]) ?_
      refine lv_tableIn (off := 132) (tgt := 225) E.1.1 E.1.2.1 dX4_does_93 (by decide) (by decide) (by decide) (by decide) ?_
      have hy9 := CI_y hC2 (p := pp) (by omega)
      have hl : lv_has ls 10 [(9, .int (nI 0)), (8, .int (gmcd τ (4 * pp + 3))), (7, .int (nI (yM τ pp))), (6, .int (nI (xM τ pp))), (5, .int (nI (6 * ((gmfr σ) - 1)))), (4, .int (nI (gmpl σ ((gmfr σ) - 1)))), (3, .int (nI (gmbo σ ((gmfr σ) - 1)))), (2, .int (nI ((gmfr σ) - 1))), (0, .ref (ad 0)), (1, .int (bI sh))] := by have q9 := hl; rw [hy9.1] at q9; exact q9
      refine lv_aload_n E.1.1 E.1.2.1 dX4_does_225 rfl (lv_at hl 8 rfl) ?_
      refine lv_iload E.1.1 E.1.2.1 dX4_does_226 (lv_at hl 0 rfl) ?_
      refine lv_iload E.1.1 E.1.2.1 dX4_does_228 (lv_at hl 4 rfl) ?_
      refine lv_iload E.1.1 E.1.2.1 dX4_does_230 (lv_at hl 3 rfl) ?_
      refine nv_iadd E dX4_does_232 ?_
      refine lv_iload E.1.1 E.1.2.1 dX4_does_233 (lv_at hl 2 rfl) ?_
      refine CM.callVi (n := 3) E (c_X4_news l D cI cJ cZ ad τ 0 ((6 * ((gmfr σ) - 1)) + (xM τ pp)) (yM τ pp) hV2 (by omega) hz0 (by omega)) ml_X4_144 im_X4_news se_X4_news ini_X4 co_X4_news hd_X4_news ⟨Nat.le_of_ble_eq_true rfl, Nat.le_of_ble_eq_true rfl⟩ ⟨Nat.le_refl _, Nat.le_refl _⟩ 0 rfl rfl hP (hD _) hS hA2 rfl hl.1 (Nat.le_of_ble_eq_true rfl) dX4_does_235 rfl (fun H locs hP hS => ?_)
      exact CM.reti E hr hlk hA (by unfold doF; rw [← hτ, ← hpp, hzz]; simp only [dpF, h93]; exact hP) hS (by unfold doR; rw [← hτ, ← hpp, hzz]; simp only [dpR, h93]) dX4_does_238
    · refine tpi (y := nI 5) (by rw [h93]) ?_
      refine lv_tableIn (off := 146) (tgt := 239) E.1.1 E.1.2.1 dX4_does_93 (by decide) (by decide) (by decide) (by decide) ?_
      have hy9 := CI_y hC2 (p := pp) (by omega)
      have hl : lv_has ls 10 [(9, .int (nI 0)), (8, .int (gmcd τ (4 * pp + 3))), (7, .int (nI (yM τ pp))), (6, .int (nI (xM τ pp))), (5, .int (nI (6 * ((gmfr σ) - 1)))), (4, .int (nI (gmpl σ ((gmfr σ) - 1)))), (3, .int (nI (gmbo σ ((gmfr σ) - 1)))), (2, .int (nI ((gmfr σ) - 1))), (0, .ref (ad 0)), (1, .int (bI sh))] := by have q9 := hl; rw [hy9.1] at q9; exact q9
      have hz9 := CI_z3 hC2 (p := pp) (by omega)
      have hl : lv_has ls 10 [(9, .int (nI 0)), (8, .int (nI (zM τ pp))), (7, .int (nI (yM τ pp))), (6, .int (nI (xM τ pp))), (5, .int (nI (6 * ((gmfr σ) - 1)))), (4, .int (nI (gmpl σ ((gmfr σ) - 1)))), (3, .int (nI (gmbo σ ((gmfr σ) - 1)))), (2, .int (nI ((gmfr σ) - 1))), (0, .ref (ad 0)), (1, .int (bI sh))] := by have q9 := hl; rw [hz9.1] at q9; exact q9
      refine lv_aload_n E.1.1 E.1.2.1 dX4_does_239 rfl (lv_at hl 8 rfl) ?_
      refine gt_X4_is E fl_X4_57 hP dX4_does_240 ?_
      refine lv_iload E.1.1 E.1.2.1 dX4_does_243 (lv_at hl 4 rfl) ?_
      refine lv_iload E.1.1 E.1.2.1 dX4_does_245 (lv_at hl 2 rfl) ?_
      refine nv_iadd E dX4_does_247 ?_
      refine ld_MS_is (i := (6 * ((gmfr σ) - 1)) + (yM τ pp)) E hP (by omega) dX4_does_248 ?_
      refine bv_if_ne (x := gmis τ ((6 * ((gmfr σ) - 1)) + (yM τ pp))) E dX4_does_249 (tgt := 254) (by decide) (fun h249 => ?_) (fun h249 => ?_)
      · have hv9 := hV2.2.2.1.1 _ h249
        refine lv_aload_n E.1.1 E.1.2.1 dX4_does_254 rfl (lv_at hl 8 rfl) ?_
        refine lv_iload E.1.1 E.1.2.1 dX4_does_255 (lv_at hl 4 rfl) ?_
        refine lv_iload E.1.1 E.1.2.1 dX4_does_257 (lv_at hl 3 rfl) ?_
        refine nv_iadd E dX4_does_259 ?_
        refine lv_aload_n E.1.1 E.1.2.1 dX4_does_260 rfl (lv_at hl 8 rfl) ?_
        refine gt_X4_fieldIs E fl_X4_42 hP dX4_does_261 ?_
        refine lv_iconst (v := nI 3) E.1.1 E.1.2.1 dX4_does_264 rfl ?_
        refine lv_aload_n E.1.1 E.1.2.1 dX4_does_265 rfl (lv_at hl 8 rfl) ?_
        refine gt_X4_value E fl_X4_60 hP dX4_does_266 ?_
        refine lv_iload E.1.1 E.1.2.1 dX4_does_269 (lv_at hl 4 rfl) ?_
        refine lv_iload E.1.1 E.1.2.1 dX4_does_271 (lv_at hl 2 rfl) ?_
        refine nv_iadd E dX4_does_273 ?_
        refine ld_MS_va (i := (6 * ((gmfr σ) - 1)) + (yM τ pp)) E hP (by omega) dX4_does_274 ?_
        refine tpi (y := nI (vN τ ((6 * (gmfr σ - 1)) + (yM τ pp)))) (hv9.1) ?_
        refine nv_imul E dX4_does_275 ?_
        refine lv_iload E.1.1 E.1.2.1 dX4_does_276 (lv_at hl 1 rfl) ?_
        refine nv_iadd E dX4_does_278 ?_
        refine ld_MS_fI (i := (3 * (vN τ ((6 * (gmfr σ - 1)) + (yM τ pp)))) + (zM τ pp)) E hP (by omega) dX4_does_279 ?_
        refine lv_aload_n E.1.1 E.1.2.1 dX4_does_280 rfl (lv_at hl 8 rfl) ?_
        refine gt_X4_field E fl_X4_45 hP dX4_does_281 ?_
        refine lv_iconst (v := nI 3) E.1.1 E.1.2.1 dX4_does_284 rfl ?_
        refine lv_aload_n E.1.1 E.1.2.1 dX4_does_285 rfl (lv_at hl 8 rfl) ?_
        refine gt_X4_value E fl_X4_60 hP dX4_does_286 ?_
        refine lv_iload E.1.1 E.1.2.1 dX4_does_289 (lv_at hl 4 rfl) ?_
        refine lv_iload E.1.1 E.1.2.1 dX4_does_291 (lv_at hl 2 rfl) ?_
        refine nv_iadd E dX4_does_293 ?_
        refine ld_MS_va (i := (6 * ((gmfr σ) - 1)) + (yM τ pp)) E hP (by omega) dX4_does_294 ?_
        refine tpi (y := nI (vN τ ((6 * (gmfr σ - 1)) + (yM τ pp)))) (hv9.1) ?_
        refine nv_imul E dX4_does_295 ?_
        refine lv_iload E.1.1 E.1.2.1 dX4_does_296 (lv_at hl 1 rfl) ?_
        refine nv_iadd E dX4_does_298 ?_
        refine ld_MS_fV (i := (3 * (vN τ ((6 * (gmfr σ - 1)) + (yM τ pp)))) + (zM τ pp)) E hP (by omega) dX4_does_299 ?_
        refine CM.callVv (n := 3) E (c_X4_set l D cI cJ cZ ad τ ((6 * ((gmfr σ) - 1)) + (xM τ pp)) (gmfI τ ((3 * (vN τ ((6 * (gmfr σ - 1)) + (yM τ pp)))) + (zM τ pp))) (gmfV τ ((3 * (vN τ ((6 * (gmfr σ - 1)) + (yM τ pp)))) + (zM τ pp))) (by omega)) ml_X4_128 im_X4_set se_X4_set ini_X4 co_X4_set hd_X4_set ⟨Nat.le_of_ble_eq_true rfl, Nat.le_of_ble_eq_true rfl⟩ ⟨Nat.le_refl _, Nat.le_refl _⟩ 0 rfl rfl hP (hD _) hS hA2 rfl hl.1 (Nat.le_of_ble_eq_true rfl) dX4_does_300 rfl (fun H locs hP hS => ?_)
        refine lv_iconst (v := nI 0) E.1.1 E.1.2.1 dX4_does_303 rfl ?_
        exact CM.reti E hr hlk hA (by unfold doF; rw [← hτ, ← hpp]; simp only [dpF, h93, if_pos h249]; exact hP) hS (by unfold doR; rw [← hτ, ← hpp]; simp only [dpR, h93, if_pos h249]) dX4_does_304
      · refine lv_iconst (v := nI 1) E.1.1 E.1.2.1 dX4_does_252 rfl ?_
        exact CM.reti E hr hlk hA (by unfold doF; rw [← hτ, ← hpp]; simp only [dpF, h93, if_neg (show ¬ gmis τ (6 * (gmfr σ - 1) + yM τ pp) = true from (by rw [h249]; decide))]; exact hP) hS (by unfold doR; rw [← hτ, ← hpp]; simp only [dpR, h93, if_neg (show ¬ gmis τ (6 * (gmfr σ - 1) + yM τ pp) = true from (by rw [h249]; decide))]) dX4_does_253
    · refine tpi (y := nI 6) (by rw [h93]) ?_
      refine lv_tableIn (off := 212) (tgt := 305) E.1.1 E.1.2.1 dX4_does_93 (by decide) (by decide) (by decide) (by decide) ?_
      have hy9 := CI_y hC2 (p := pp) (by omega)
      have hl : lv_has ls 10 [(9, .int (nI 0)), (8, .int (gmcd τ (4 * pp + 3))), (7, .int (nI (yM τ pp))), (6, .int (nI (xM τ pp))), (5, .int (nI (6 * ((gmfr σ) - 1)))), (4, .int (nI (gmpl σ ((gmfr σ) - 1)))), (3, .int (nI (gmbo σ ((gmfr σ) - 1)))), (2, .int (nI ((gmfr σ) - 1))), (0, .ref (ad 0)), (1, .int (bI sh))] := by have q9 := hl; rw [hy9.1] at q9; exact q9
      have hz9 := CI_z3 hC2 (p := pp) (by omega)
      have hl : lv_has ls 10 [(9, .int (nI 0)), (8, .int (nI (zM τ pp))), (7, .int (nI (yM τ pp))), (6, .int (nI (xM τ pp))), (5, .int (nI (6 * ((gmfr σ) - 1)))), (4, .int (nI (gmpl σ ((gmfr σ) - 1)))), (3, .int (nI (gmbo σ ((gmfr σ) - 1)))), (2, .int (nI ((gmfr σ) - 1))), (0, .ref (ad 0)), (1, .int (bI sh))] := by have q9 := hl; rw [hz9.1] at q9; exact q9
      refine lv_aload_n E.1.1 E.1.2.1 dX4_does_305 rfl (lv_at hl 8 rfl) ?_
      refine gt_X4_is E fl_X4_57 hP dX4_does_306 ?_
      refine lv_iload E.1.1 E.1.2.1 dX4_does_309 (lv_at hl 4 rfl) ?_
      refine lv_iload E.1.1 E.1.2.1 dX4_does_311 (lv_at hl 3 rfl) ?_
      refine nv_iadd E dX4_does_313 ?_
      refine ld_MS_is (i := (6 * ((gmfr σ) - 1)) + (xM τ pp)) E hP (by omega) dX4_does_314 ?_
      refine bv_if_ne (x := gmis τ ((6 * ((gmfr σ) - 1)) + (xM τ pp))) E dX4_does_315 (tgt := 320) (by decide) (fun h315 => ?_) (fun h315 => ?_)
      · have hv9 := hV2.2.2.1.1 _ h315
        refine lv_aload_n E.1.1 E.1.2.1 dX4_does_320 rfl (lv_at hl 8 rfl) ?_
        refine gt_X4_fieldIs E fl_X4_42 hP dX4_does_321 ?_
        refine lv_iconst (v := nI 3) E.1.1 E.1.2.1 dX4_does_324 rfl ?_
        refine lv_aload_n E.1.1 E.1.2.1 dX4_does_325 rfl (lv_at hl 8 rfl) ?_
        refine gt_X4_value E fl_X4_60 hP dX4_does_326 ?_
        refine lv_iload E.1.1 E.1.2.1 dX4_does_329 (lv_at hl 4 rfl) ?_
        refine lv_iload E.1.1 E.1.2.1 dX4_does_331 (lv_at hl 3 rfl) ?_
        refine nv_iadd E dX4_does_333 ?_
        refine ld_MS_va (i := (6 * ((gmfr σ) - 1)) + (xM τ pp)) E hP (by omega) dX4_does_334 ?_
        refine tpi (y := nI (vN τ ((6 * (gmfr σ - 1)) + (xM τ pp)))) (hv9.1) ?_
        refine nv_imul E dX4_does_335 ?_
        refine lv_iload E.1.1 E.1.2.1 dX4_does_336 (lv_at hl 1 rfl) ?_
        refine nv_iadd E dX4_does_338 ?_
        refine lv_aload_n E.1.1 E.1.2.1 dX4_does_339 rfl (lv_at hl 8 rfl) ?_
        refine gt_X4_is E fl_X4_57 hP dX4_does_340 ?_
        refine lv_iload E.1.1 E.1.2.1 dX4_does_343 (lv_at hl 4 rfl) ?_
        refine lv_iload E.1.1 E.1.2.1 dX4_does_345 (lv_at hl 2 rfl) ?_
        refine nv_iadd E dX4_does_347 ?_
        refine ld_MS_is (i := (6 * ((gmfr σ) - 1)) + (yM τ pp)) E hP (by omega) dX4_does_348 ?_
        refine as_MS_fI (i := (3 * (vN τ ((6 * (gmfr σ - 1)) + (xM τ pp)))) + (zM τ pp)) (v := gmis τ ((6 * ((gmfr σ) - 1)) + (yM τ pp))) E hP hD hS (by omega) dX4_does_349 (fun H locs hP hS => ?_)
        refine lv_aload_n E.1.1 E.1.2.1 dX4_does_350 rfl (lv_at hl 8 rfl) ?_
        refine gt_X4_field E fl_X4_45 hP dX4_does_351 ?_
        refine lv_iconst (v := nI 3) E.1.1 E.1.2.1 dX4_does_354 rfl ?_
        refine lv_aload_n E.1.1 E.1.2.1 dX4_does_355 rfl (lv_at hl 8 rfl) ?_
        refine gt_X4_value E fl_X4_60 hP dX4_does_356 ?_
        refine lv_iload E.1.1 E.1.2.1 dX4_does_359 (lv_at hl 4 rfl) ?_
        refine lv_iload E.1.1 E.1.2.1 dX4_does_361 (lv_at hl 3 rfl) ?_
        refine nv_iadd E dX4_does_363 ?_
        refine ld_MS_va (i := (6 * ((gmfr σ) - 1)) + (xM τ pp)) E hP (by omega) dX4_does_364 ?_
        refine tpi (y := gmva τ ((6 * ((gmfr σ) - 1)) + (xM τ pp))) (by rw [hs_va_fI]) ?_
        refine tpi (y := nI (vN τ ((6 * (gmfr σ - 1)) + (xM τ pp)))) (hv9.1) ?_
        refine nv_imul E dX4_does_365 ?_
        refine lv_iload E.1.1 E.1.2.1 dX4_does_366 (lv_at hl 1 rfl) ?_
        refine nv_iadd E dX4_does_368 ?_
        refine lv_aload_n E.1.1 E.1.2.1 dX4_does_369 rfl (lv_at hl 8 rfl) ?_
        refine gt_X4_value E fl_X4_60 hP dX4_does_370 ?_
        refine lv_iload E.1.1 E.1.2.1 dX4_does_373 (lv_at hl 4 rfl) ?_
        refine lv_iload E.1.1 E.1.2.1 dX4_does_375 (lv_at hl 2 rfl) ?_
        refine nv_iadd E dX4_does_377 ?_
        refine ld_MS_va (i := (6 * ((gmfr σ) - 1)) + (yM τ pp)) E hP (by omega) dX4_does_378 ?_
        refine tpi (y := gmva τ ((6 * ((gmfr σ) - 1)) + (yM τ pp))) (by rw [hs_va_fI]) ?_
        refine as_MS_fV (i := (3 * (vN τ ((6 * (gmfr σ - 1)) + (xM τ pp)))) + (zM τ pp)) (v := gmva τ ((6 * ((gmfr σ) - 1)) + (yM τ pp))) E hP hD hS (by omega) dX4_does_379 (fun H locs hP hS => ?_)
        have hP : va_P D vwCl (wR ad cI cJ cZ (smfV (smfI τ (va_up (gmfI τ) ((3 * (vN τ ((6 * (gmfr σ - 1)) + (xM τ pp)))) + (zM τ pp)) (gmis τ ((6 * ((gmfr σ) - 1)) + (yM τ pp))))) (va_up (gmfV τ) ((3 * (vN τ ((6 * (gmfr σ - 1)) + (xM τ pp)))) + (zM τ pp)) (gmva τ ((6 * ((gmfr σ) - 1)) + (yM τ pp)))))) H := by have q9 := hP; rw [hs_fV_fI] at q9; exact q9
        refine lv_iconst (v := nI 0) E.1.1 E.1.2.1 dX4_does_380 rfl ?_
        exact CM.reti E hr hlk hA (by unfold doF; rw [← hτ, ← hpp]; simp only [dpF, h93, if_pos h315]; exact hP) hS (by unfold doR; rw [← hτ, ← hpp]; simp only [dpR, h93, if_pos h315]) dX4_does_381
      · refine lv_iconst (v := nI 1) E.1.1 E.1.2.1 dX4_does_318 rfl ?_
        exact CM.reti E hr hlk hA (by unfold doF; rw [← hτ, ← hpp]; simp only [dpF, h93, if_neg (show ¬ gmis τ (6 * (gmfr σ - 1) + xM τ pp) = true from (by rw [h315]; decide))]; exact hP) hS (by unfold doR; rw [← hτ, ← hpp]; simp only [dpR, h93, if_neg (show ¬ gmis τ (6 * (gmfr σ - 1) + xM τ pp) = true from (by rw [h315]; decide))]) dX4_does_319
    · refine tpi (y := nI 7) (by rw [h93]) ?_
      refine lv_tableIn (off := 289) (tgt := 382) E.1.1 E.1.2.1 dX4_does_93 (by decide) (by decide) (by decide) (by decide) ?_
      have hy9 := CI_y hC2 (p := pp) (by omega)
      have hl : lv_has ls 10 [(9, .int (nI 0)), (8, .int (gmcd τ (4 * pp + 3))), (7, .int (nI (yM τ pp))), (6, .int (nI (xM τ pp))), (5, .int (nI (6 * ((gmfr σ) - 1)))), (4, .int (nI (gmpl σ ((gmfr σ) - 1)))), (3, .int (nI (gmbo σ ((gmfr σ) - 1)))), (2, .int (nI ((gmfr σ) - 1))), (0, .ref (ad 0)), (1, .int (bI sh))] := by have q9 := hl; rw [hy9.1] at q9; exact q9
      have hz9 := CI_z4 hC2 (p := pp) h93
      have hl : lv_has ls 10 [(9, .int (nI 0)), (8, .int (nI (zM τ pp))), (7, .int (nI (yM τ pp))), (6, .int (nI (xM τ pp))), (5, .int (nI (6 * ((gmfr σ) - 1)))), (4, .int (nI (gmpl σ ((gmfr σ) - 1)))), (3, .int (nI (gmbo σ ((gmfr σ) - 1)))), (2, .int (nI ((gmfr σ) - 1))), (0, .ref (ad 0)), (1, .int (bI sh))] := by have q9 := hl; rw [hz9.1] at q9; exact q9
      refine lv_aload_n E.1.1 E.1.2.1 dX4_does_382 rfl (lv_at hl 8 rfl) ?_
      refine lv_iload E.1.1 E.1.2.1 dX4_does_383 (lv_at hl 0 rfl) ?_
      refine lv_iload E.1.1 E.1.2.1 dX4_does_385 (lv_at hl 4 rfl) ?_
      refine lv_iload E.1.1 E.1.2.1 dX4_does_387 (lv_at hl 3 rfl) ?_
      refine lv_iload E.1.1 E.1.2.1 dX4_does_389 (lv_at hl 2 rfl) ?_
      refine lv_iload E.1.1 E.1.2.1 dX4_does_391 (lv_at hl 1 rfl) ?_
      refine CM.callVi (n := 5) E (c_X4_calls l D cI cJ cZ ad τ 0 (6 * ((gmfr σ) - 1)) (xM τ pp) (yM τ pp) (zM τ pp) hV2 hz0 (by omega) hy9.2 hz9.2) ml_X4_147 im_X4_calls se_X4_calls ini_X4 co_X4_calls hd_X4_calls ⟨Nat.le_of_ble_eq_true rfl, Nat.le_of_ble_eq_true rfl⟩ ⟨Nat.le_refl _, Nat.le_refl _⟩ 0 rfl rfl hP (hD _) hS hA2 rfl hl.1 (Nat.le_of_ble_eq_true rfl) dX4_does_393 rfl (fun H locs hP hS => ?_)
      exact CM.reti E hr hlk hA (by unfold doF; rw [← hτ, ← hpp, hzz]; simp only [dpF, h93]; exact hP) hS (by unfold doR; rw [← hτ, ← hpp]; simp only [dpR, h93]) dX4_does_396
    · refine tpi (y := nI 8) (by rw [h93]) ?_
      refine lv_tableIn (off := 304) (tgt := 397) E.1.1 E.1.2.1 dX4_does_93 (by decide) (by decide) (by decide) (by decide) ?_
      refine lv_aload_n E.1.1 E.1.2.1 dX4_does_397 rfl (lv_at hl 8 rfl) ?_
      refine lv_iload E.1.1 E.1.2.1 dX4_does_398 (lv_at hl 4 rfl) ?_
      refine lv_iload E.1.1 E.1.2.1 dX4_does_400 (lv_at hl 3 rfl) ?_
      refine nv_iadd E dX4_does_402 ?_
      refine CM.callVi (n := 1) E (c_X4_puts l D cI cJ cZ ad τ ((6 * ((gmfr σ) - 1)) + (xM τ pp)) hV2 (by omega)) ml_X4_151 im_X4_puts se_X4_puts ini_X4 co_X4_puts hd_X4_puts ⟨Nat.le_of_ble_eq_true rfl, Nat.le_of_ble_eq_true rfl⟩ ⟨Nat.le_refl _, Nat.le_refl _⟩ 0 rfl rfl hP (hD _) hS hA2 rfl hl.1 (Nat.le_of_ble_eq_true rfl) dX4_does_403 rfl (fun H locs hP hS => ?_)
      exact CM.reti E hr hlk hA (by unfold doF; rw [← hτ, ← hpp]; simp only [dpF, h93]; exact hP) hS (by unfold doR; rw [← hτ, ← hpp]; simp only [dpR, h93]) dX4_does_406
    · refine tpi (y := nI 9) (by rw [h93]) ?_
      refine lv_tableIn (off := 314) (tgt := 407) E.1.1 E.1.2.1 dX4_does_93 (by decide) (by decide) (by decide) (by decide) ?_
      have hy9 := CI_y9 hC2 h93
      have hl : lv_has ls 10 [(9, .int (nI 0)), (8, .int (gmcd τ (4 * pp + 3))), (7, .int (nI (yM τ pp))), (6, .int (nI (xM τ pp))), (5, .int (nI (6 * ((gmfr σ) - 1)))), (4, .int (nI (gmpl σ ((gmfr σ) - 1)))), (3, .int (nI (gmbo σ ((gmfr σ) - 1)))), (2, .int (nI ((gmfr σ) - 1))), (0, .ref (ad 0)), (1, .int (bI sh))] := by have q9 := hl; rw [hy9.1] at q9; exact q9
      refine lv_aload_n E.1.1 E.1.2.1 dX4_does_407 rfl (lv_at hl 8 rfl) ?_
      refine gt_X4_is E fl_X4_57 hP dX4_does_408 ?_
      refine lv_iload E.1.1 E.1.2.1 dX4_does_411 (lv_at hl 4 rfl) ?_
      refine lv_iload E.1.1 E.1.2.1 dX4_does_413 (lv_at hl 3 rfl) ?_
      refine nv_iadd E dX4_does_415 ?_
      refine ld_MS_is (i := (6 * ((gmfr σ) - 1)) + (xM τ pp)) E hP (by omega) dX4_does_416 ?_
      refine bv_if_ne (x := gmis τ ((6 * ((gmfr σ) - 1)) + (xM τ pp))) E dX4_does_417 (tgt := 444) (by decide) (fun h417 => ?_) (fun h417 => ?_)
      · refine lv_iconst (v := nI 0) E.1.1 E.1.2.1 dX4_does_444 rfl ?_
        exact CM.reti E hr hlk hA (by unfold doF; rw [← hτ, ← hpp]; simp only [dpF, h93]; first | (rw [if_pos ⟨h417, h430⟩]; exact hP) | (rw [if_neg (by intro z; first | exact absurd (h417.symm.trans z.1) (by decide) | exact h430 z.2)]; exact hP)) hS (by unfold doR; rw [← hτ, ← hpp]; simp only [dpR, h93]) dX4_does_445
      · refine lv_aload_n E.1.1 E.1.2.1 dX4_does_420 rfl (lv_at hl 8 rfl) ?_
        refine gt_X4_value E fl_X4_60 hP dX4_does_421 ?_
        refine lv_iload E.1.1 E.1.2.1 dX4_does_424 (lv_at hl 4 rfl) ?_
        refine lv_iload E.1.1 E.1.2.1 dX4_does_426 (lv_at hl 3 rfl) ?_
        refine nv_iadd E dX4_does_428 ?_
        refine ld_MS_va (i := (6 * ((gmfr σ) - 1)) + (xM τ pp)) E hP (by omega) dX4_does_429 ?_
        refine lv_if_ne (tgt := 444) E.1.1 E.1.2.1 dX4_does_430 (by decide) (fun h430 => ?_) (fun h430 => ?_)
        · refine lv_iconst (v := nI 0) E.1.1 E.1.2.1 dX4_does_444 rfl ?_
          exact CM.reti E hr hlk hA (by unfold doF; rw [← hτ, ← hpp]; simp only [dpF, h93]; first | (rw [if_pos ⟨h417, h430⟩]; exact hP) | (rw [if_neg (by intro z; first | exact absurd (h417.symm.trans z.1) (by decide) | exact h430 z.2)]; exact hP)) hS (by unfold doR; rw [← hτ, ← hpp]; simp only [dpR, h93]) dX4_does_445
        · refine lv_aload_n E.1.1 E.1.2.1 dX4_does_433 rfl (lv_at hl 8 rfl) ?_
          refine gt_X4_place E fl_X4_51 hP dX4_does_434 ?_
          refine lv_iload_n E.1.1 E.1.2.1 dX4_does_437 rfl (lv_at hl 7 rfl) ?_
          refine lv_dup2_11 E.1.1 E.1.2.1 dX4_does_438 rfl rfl ?_
          refine ld_MS_pl (i := (gmfr σ) - 1) E hP (by omega) dX4_does_439 ?_
          refine lv_iload E.1.1 E.1.2.1 dX4_does_440 (lv_at hl 2 rfl) ?_
          refine nv_iadd E dX4_does_442 ?_
          refine as_MS_pl (i := (gmfr σ) - 1) (v := (gmpl τ ((gmfr σ) - 1)) + (yM τ pp)) E hP hD hS (by omega) dX4_does_443 (fun H locs hP hS => ?_)
          refine lv_iconst (v := nI 0) E.1.1 E.1.2.1 dX4_does_444 rfl ?_
          exact CM.reti E hr hlk hA (by unfold doF; rw [← hτ, ← hpp]; simp only [dpF, h93]; first | (rw [if_pos ⟨h417, h430⟩]; exact hP) | (rw [if_neg (by intro z; first | exact absurd (h417.symm.trans z.1) (by decide) | exact h430 z.2)]; exact hP)) hS (by unfold doR; rw [← hτ, ← hpp]; simp only [dpR, h93]) dX4_does_445
    · refine tpi (y := nI 10) (by rw [h93]) ?_
      refine lv_tableIn (off := 353) (tgt := 446) E.1.1 E.1.2.1 dX4_does_93 (by decide) (by decide) (by decide) (by decide) ?_
      have hy9 := CI_y hC2 (p := pp) (by omega)
      have hl : lv_has ls 10 [(9, .int (nI 0)), (8, .int (gmcd τ (4 * pp + 3))), (7, .int (nI (yM τ pp))), (6, .int (nI (xM τ pp))), (5, .int (nI (6 * ((gmfr σ) - 1)))), (4, .int (nI (gmpl σ ((gmfr σ) - 1)))), (3, .int (nI (gmbo σ ((gmfr σ) - 1)))), (2, .int (nI ((gmfr σ) - 1))), (0, .ref (ad 0)), (1, .int (bI sh))] := by have q9 := hl; rw [hy9.1] at q9; exact q9
      refine lv_aload_n E.1.1 E.1.2.1 dX4_does_446 rfl (lv_at hl 8 rfl) ?_
      refine gt_X4_is E fl_X4_57 hP dX4_does_447 ?_
      refine lv_iload E.1.1 E.1.2.1 dX4_does_450 (lv_at hl 4 rfl) ?_
      refine lv_iload E.1.1 E.1.2.1 dX4_does_452 (lv_at hl 3 rfl) ?_
      refine nv_iadd E dX4_does_454 ?_
      refine ld_MS_is (i := (6 * ((gmfr σ) - 1)) + (xM τ pp)) E hP (by omega) dX4_does_455 ?_
      refine bv_if_ne (x := gmis τ ((6 * ((gmfr σ) - 1)) + (xM τ pp))) E dX4_does_456 (tgt := 463) (by decide) (fun h456 => ?_) (fun h456 => ?_)
      · have hv9 := hV2.2.2.1.1 _ h456
        refine lv_aload_n E.1.1 E.1.2.1 dX4_does_463 rfl (lv_at hl 8 rfl) ?_
        refine lv_aload_n E.1.1 E.1.2.1 dX4_does_464 rfl (lv_at hl 8 rfl) ?_
        refine gt_X4_classOf E fl_X4_39 hP dX4_does_465 ?_
        refine lv_aload_n E.1.1 E.1.2.1 dX4_does_468 rfl (lv_at hl 8 rfl) ?_
        refine gt_X4_value E fl_X4_60 hP dX4_does_469 ?_
        refine lv_iload E.1.1 E.1.2.1 dX4_does_472 (lv_at hl 4 rfl) ?_
        refine lv_iload E.1.1 E.1.2.1 dX4_does_474 (lv_at hl 3 rfl) ?_
        refine nv_iadd E dX4_does_476 ?_
        refine ld_MS_va (i := (6 * ((gmfr σ) - 1)) + (xM τ pp)) E hP (by omega) dX4_does_477 ?_
        refine tpi (y := nI (vN τ ((6 * (gmfr σ - 1)) + (xM τ pp)))) (hv9.1) ?_
        refine ld_MS_cl (i := vN τ ((6 * (gmfr σ - 1)) + (xM τ pp))) E hP (by omega) dX4_does_478 ?_
        refine lv_iload E.1.1 E.1.2.1 dX4_does_479 (lv_at hl 2 rfl) ?_
        refine CM.callVi (n := 2) E (c_X4_isAnother l D cI cJ cZ ad τ (gmcl τ (vN τ ((6 * (gmfr σ - 1)) + (xM τ pp)))) (yM τ pp) (hV2.2.1.1 _) hy9.2 hV2.1) ml_X4_154 im_X4_isAnother se_X4_isAnother ini_X4 co_X4_isAnother hd_X4_isAnother ⟨Nat.le_of_ble_eq_true rfl, Nat.le_of_ble_eq_true rfl⟩ ⟨Nat.le_refl _, Nat.le_refl _⟩ 0 rfl rfl hP (hD _) hS hA2 rfl hl.1 (Nat.le_of_ble_eq_true rfl) dX4_does_481 rfl (fun H locs hP hS => ?_)
        refine bv_if_eq (x := misF (gmpa τ) (gmty τ) (yM τ pp) 6 (some (gmcl τ (vN τ ((6 * (gmfr σ - 1)) + (xM τ pp)))))) E dX4_does_484 (tgt := 491) (by decide) (fun h484 => ?_) (fun h484 => ?_)
        · refine lv_iconst (v := nI 2) E.1.1 E.1.2.1 dX4_does_491 rfl ?_
          exact CM.reti E hr hlk hA (by unfold doF; rw [← hτ, ← hpp]; simp only [dpF, h93]; exact hP) hS (by unfold doR; rw [← hτ, ← hpp]; simp only [dpR, h93]; first | (rw [if_neg (by rw [h456]; decide)]; done) | (rw [if_pos h456, if_pos h484]; done) | (rw [if_pos h456, if_neg (by rw [h484]; decide)])) dX4_does_492
        · refine lv_iconst (v := nI 0) E.1.1 E.1.2.1 dX4_does_487 rfl ?_
          refine lv_goto (tgt := 492) E.1.1 E.1.2.1 dX4_does_488 (by decide) ?_
          exact CM.reti E hr hlk hA (by unfold doF; rw [← hτ, ← hpp]; simp only [dpF, h93]; exact hP) hS (by unfold doR; rw [← hτ, ← hpp]; simp only [dpR, h93]; first | (rw [if_neg (by rw [h456]; decide)]; done) | (rw [if_pos h456, if_pos h484]; done) | (rw [if_pos h456, if_neg (by rw [h484]; decide)])) dX4_does_492
      · refine lv_iconst (v := nI 1) E.1.1 E.1.2.1 dX4_does_459 rfl ?_
        refine lv_goto (tgt := 492) E.1.1 E.1.2.1 dX4_does_460 (by decide) ?_
        exact CM.reti E hr hlk hA (by unfold doF; rw [← hτ, ← hpp]; simp only [dpF, h93]; exact hP) hS (by unfold doR; rw [← hτ, ← hpp]; simp only [dpR, h93]; first | (rw [if_neg (by rw [h456]; decide)]; done) | (rw [if_pos h456, if_pos h484]; done) | (rw [if_pos h456, if_neg (by rw [h484]; decide)])) dX4_does_492
    · refine tpi (y := nI 11) (by rw [h93]) ?_
      refine lv_tableOut (tgt := 493) E.1.1 E.1.2.1 dX4_does_93 (by decide) (by decide) ?_
      refine lv_aload_n E.1.1 E.1.2.1 dX4_does_493 rfl (lv_at hl 8 rfl) ?_
      refine lv_aload_n E.1.1 E.1.2.1 dX4_does_494 rfl (lv_at hl 8 rfl) ?_
      refine gt_X4_is E fl_X4_57 hP dX4_does_495 ?_
      refine lv_iload E.1.1 E.1.2.1 dX4_does_498 (lv_at hl 4 rfl) ?_
      refine lv_iload E.1.1 E.1.2.1 dX4_does_500 (lv_at hl 3 rfl) ?_
      refine nv_iadd E dX4_does_502 ?_
      refine ld_MS_is (i := (6 * ((gmfr σ) - 1)) + (xM τ pp)) E hP (by omega) dX4_does_503 ?_
      refine lv_aload_n E.1.1 E.1.2.1 dX4_does_504 rfl (lv_at hl 8 rfl) ?_
      refine gt_X4_value E fl_X4_60 hP dX4_does_505 ?_
      refine lv_iload E.1.1 E.1.2.1 dX4_does_508 (lv_at hl 4 rfl) ?_
      refine lv_iload E.1.1 E.1.2.1 dX4_does_510 (lv_at hl 3 rfl) ?_
      refine nv_iadd E dX4_does_512 ?_
      refine ld_MS_va (i := (6 * ((gmfr σ) - 1)) + (xM τ pp)) E hP (by omega) dX4_does_513 ?_
      refine CM.callVv (n := 2) E (c_X4_answers l D cI cJ cZ ad τ (gmis τ ((6 * ((gmfr σ) - 1)) + (xM τ pp))) (gmva τ ((6 * ((gmfr σ) - 1)) + (xM τ pp))) (by omega) (by omega) hV2.2.1.2.2.2.1) ml_X4_157 im_X4_answers se_X4_answers ini_X4 co_X4_answers hd_X4_answers ⟨Nat.le_of_ble_eq_true rfl, Nat.le_of_ble_eq_true rfl⟩ ⟨Nat.le_refl _, Nat.le_refl _⟩ 0 rfl rfl hP (hD _) hS hA2 rfl hl.1 (Nat.le_of_ble_eq_true rfl) dX4_does_514 rfl (fun H locs hP hS => ?_)
      refine lv_iconst (v := nI 0) E.1.1 E.1.2.1 dX4_does_517 rfl ?_
      exact CM.reti E hr hlk hA (by unfold doF; rw [← hτ, ← hpp]; simp only [dpF, h93]; exact hP) hS (by unfold doR; rw [← hτ, ← hpp]; simp only [dpR, h93]) dX4_does_518
  · refine lv_aload_n E.1.1 E.1.2.1 dX4_does_62 rfl (lv_at hl 7 rfl) ?_
    refine lv_iload_n E.1.1 E.1.2.1 dX4_does_63 rfl (lv_at hl 5 rfl) ?_
    refine lv_iload E.1.1 E.1.2.1 dX4_does_64 (lv_at hl 4 rfl) ?_
    refine CM.callVi (n := 2) E (c_X4_siteOf l D cI cJ cZ ad σ (gmbo σ ((gmfr σ) - 1)) (gmpl σ ((gmfr σ) - 1)) hbo (by omega)) ml_X4_116 im_X4_siteOf se_X4_siteOf ini_X4 co_X4_siteOf hd_X4_siteOf ⟨Nat.le_of_ble_eq_true rfl, Nat.le_of_ble_eq_true rfl⟩ ⟨Nat.le_refl _, Nat.le_refl _⟩ 0 rfl rfl hP (hD _) hS hA2 rfl hl.1 (Nat.le_of_ble_eq_true rfl) dX4_does_66 rfl (fun H locs hP hS => ?_)
    refine lv_goto (tgt := 73) E.1.1 E.1.2.1 dX4_does_69 (by decide) ?_
    refine lv_istore (lv' := [(9, .int (nI (siF σ (gmbo σ ((gmfr σ) - 1)) (gmpl σ ((gmfr σ) - 1))))), (8, .int (gmcd σ (40 * (gmbo σ ((gmfr σ) - 1)) + 4 * (gmpl σ ((gmfr σ) - 1)) + 3))), (7, .int (gmcd σ (40 * (gmbo σ ((gmfr σ) - 1)) + 4 * (gmpl σ ((gmfr σ) - 1)) + 2))), (6, .int (gmcd σ (40 * (gmbo σ ((gmfr σ) - 1)) + 4 * (gmpl σ ((gmfr σ) - 1)) + 1))), (5, .int (nI (6 * ((gmfr σ) - 1)))), (4, .int (nI (gmpl σ ((gmfr σ) - 1)))), (3, .int (nI (gmbo σ ((gmfr σ) - 1)))), (2, .int (nI ((gmfr σ) - 1))), (0, .ref (ad 0)), (1, .int (bI sh))]) E.1.1 E.1.2.1 dX4_does_73 hl (by decide) rfl (fun ls hl => ?_)
    refine lv_aload_n E.1.1 E.1.2.1 dX4_does_75 rfl (lv_at hl 8 rfl) ?_
    refine gt_X4_place E fl_X4_51 hP dX4_does_76 ?_
    refine lv_iload_n E.1.1 E.1.2.1 dX4_does_79 rfl (lv_at hl 7 rfl) ?_
    refine lv_dup2_11 E.1.1 E.1.2.1 dX4_does_80 rfl rfl ?_
    refine ld_MS_pl (i := (gmfr σ) - 1) E hP (by omega) dX4_does_81 ?_
    refine lv_iconst (v := nI 1) E.1.1 E.1.2.1 dX4_does_82 rfl ?_
    refine nv_iadd E dX4_does_83 ?_
    refine as_MS_pl (i := (gmfr σ) - 1) (v := (gmpl σ ((gmfr σ) - 1)) + 1) E hP hD hS (by omega) dX4_does_84 (fun H locs hP hS => ?_)
    obtain ⟨τ, hτ⟩ : ∃ z, z = nxM (gmfr σ - 1) σ := ⟨_, rfl⟩
    have hm9 : (smpl σ (va_up (gmpl σ) ((gmfr σ) - 1) ((gmpl σ ((gmfr σ) - 1)) + 1))) = τ := by rw [hτ]; rfl
    rw [hm9] at hP
    have hP : va_P D vwCl (wR ad cI cJ cZ τ) H := hP
    obtain ⟨pp, hpp⟩ : ∃ z, z = doP σ := ⟨_, rfl⟩
    obtain ⟨c1, c2, c3, c4⟩ := nxM_get (gmfr σ - 1) σ
    rw [← hτ] at c1 c2 c3 c4 hV2 hC2
    have e1 : gmcd σ (40 * gmbo σ (gmfr σ - 1) + 4 * gmpl σ (gmfr σ - 1) + 1) = nI (xM τ pp) := by rw [show 40 * gmbo σ (gmfr σ - 1) + 4 * gmpl σ (gmfr σ - 1) + 1 = 4 * pp + 1 from (by rw [hpp, doP]; omega), ← c1]; exact (hC2 pp).2.1.1
    have e2 : gmcd σ (40 * gmbo σ (gmfr σ - 1) + 4 * gmpl σ (gmfr σ - 1) + 2) = gmcd τ (4 * pp + 2) := by rw [show 40 * gmbo σ (gmfr σ - 1) + 4 * gmpl σ (gmfr σ - 1) + 2 = 4 * pp + 2 from (by rw [hpp, doP]; omega), ← c1]
    have e3 : gmcd σ (40 * gmbo σ (gmfr σ - 1) + 4 * gmpl σ (gmfr σ - 1) + 3) = gmcd τ (4 * pp + 3) := by rw [show 40 * gmbo σ (gmfr σ - 1) + 4 * gmpl σ (gmfr σ - 1) + 3 = 4 * pp + 3 from (by rw [hpp, doP]; omega), ← c1]
    have hx9 := (hC2 pp).2.1.2
    have hl : lv_has ls 10 [(9, .int (nI (siF σ (gmbo σ ((gmfr σ) - 1)) (gmpl σ ((gmfr σ) - 1))))), (8, .int (gmcd σ (40 * (gmbo σ ((gmfr σ) - 1)) + 4 * (gmpl σ ((gmfr σ) - 1)) + 3))), (7, .int (gmcd σ (40 * (gmbo σ ((gmfr σ) - 1)) + 4 * (gmpl σ ((gmfr σ) - 1)) + 2))), (6, .int (nI (xM τ pp))), (5, .int (nI (6 * ((gmfr σ) - 1)))), (4, .int (nI (gmpl σ ((gmfr σ) - 1)))), (3, .int (nI (gmbo σ ((gmfr σ) - 1)))), (2, .int (nI ((gmfr σ) - 1))), (0, .ref (ad 0)), (1, .int (bI sh))] := by have q9 := hl; rw [e1] at q9; exact q9
    have hl : lv_has ls 10 [(9, .int (nI (siF σ (gmbo σ ((gmfr σ) - 1)) (gmpl σ ((gmfr σ) - 1))))), (8, .int (gmcd σ (40 * (gmbo σ ((gmfr σ) - 1)) + 4 * (gmpl σ ((gmfr σ) - 1)) + 3))), (7, .int (gmcd τ (4 * pp + 2))), (6, .int (nI (xM τ pp))), (5, .int (nI (6 * ((gmfr σ) - 1)))), (4, .int (nI (gmpl σ ((gmfr σ) - 1)))), (3, .int (nI (gmbo σ ((gmfr σ) - 1)))), (2, .int (nI ((gmfr σ) - 1))), (0, .ref (ad 0)), (1, .int (bI sh))] := by have q9 := hl; rw [e2] at q9; exact q9
    have hl : lv_has ls 10 [(9, .int (nI (siF σ (gmbo σ ((gmfr σ) - 1)) (gmpl σ ((gmfr σ) - 1))))), (8, .int (gmcd τ (4 * pp + 3))), (7, .int (gmcd τ (4 * pp + 2))), (6, .int (nI (xM τ pp))), (5, .int (nI (6 * ((gmfr σ) - 1)))), (4, .int (nI (gmpl σ ((gmfr σ) - 1)))), (3, .int (nI (gmbo σ ((gmfr σ) - 1)))), (2, .int (nI ((gmfr σ) - 1))), (0, .ref (ad 0)), (1, .int (bI sh))] := by have q9 := hl; rw [e3] at q9; exact q9
    have hz0 : siF σ (gmbo σ ((gmfr σ) - 1)) (gmpl σ ((gmfr σ) - 1)) ≤ 6 := by first | (unfold siF; split; exact hV.2.1.2.2.2.2 _; exact Nat.zero_le 6) | exact Nat.zero_le 6
    have hzz : doZ sh σ = siF σ (gmbo σ ((gmfr σ) - 1)) (gmpl σ ((gmfr σ) - 1)) := by unfold doZ; first | (rw [if_pos h59]; done) | (rw [if_neg (by rw [h59]; decide)])
    refine lv_aload_n E.1.1 E.1.2.1 dX4_does_85 rfl (lv_at hl 8 rfl) ?_
    refine lv_iload_n E.1.1 E.1.2.1 dX4_does_86 rfl (lv_at hl 6 rfl) ?_
    refine lv_iload E.1.1 E.1.2.1 dX4_does_87 (lv_at hl 5 rfl) ?_
    refine lv_iconst (v := nI 0) E.1.1 E.1.2.1 dX4_does_89 rfl ?_
    refine CM.callVi (n := 3) E (c_X4_at l D cI cJ cZ ad τ (gmbo σ ((gmfr σ) - 1)) (gmpl σ ((gmfr σ) - 1)) 0 (by omega)) ml_X4_99 im_X4_at se_X4_at ini_X4 co_X4_at hd_X4_at ⟨Nat.le_of_ble_eq_true rfl, Nat.le_of_ble_eq_true rfl⟩ ⟨Nat.le_refl _, Nat.le_refl _⟩ 0 rfl rfl hP (hD _) hS hA2 rfl hl.1 (Nat.le_of_ble_eq_true rfl) dX4_does_90 rfl (fun H locs hP hS => ?_)
    refine tpi (y := nI (kM τ pp)) (by rw [show 40 * gmbo σ (gmfr σ - 1) + 4 * gmpl σ (gmfr σ - 1) + 0 = 4 * pp from (by rw [hpp, doP]; omega)]; exact (hC2 pp).1.1) ?_
    rcases (show kM τ pp = 0 ∨ kM τ pp = 1 ∨ kM τ pp = 2 ∨ kM τ pp = 3 ∨ kM τ pp = 4 ∨ kM τ pp = 5 ∨ kM τ pp = 6 ∨ kM τ pp = 7 ∨ kM τ pp = 8 ∨ kM τ pp = 9 ∨ kM τ pp = 10 ∨ kM τ pp = 11 by have := (hC2 pp).1.2; omega) with h93 | h93 | h93 | h93 | h93 | h93 | h93 | h93 | h93 | h93 | h93 | h93
    · refine tpi (y := nI 0) (by rw [h93]) ?_
      refine lv_tableIn (off := 59) (tgt := 152) E.1.1 E.1.2.1 dX4_does_93 (by decide) (by decide) (by decide) (by decide) ?_
      refine lv_aload_n E.1.1 E.1.2.1 dX4_does_152 rfl (lv_at hl 8 rfl) ?_
      refine lv_iload E.1.1 E.1.2.1 dX4_does_153 (lv_at hl 4 rfl) ?_
      refine lv_iload E.1.1 E.1.2.1 dX4_does_155 (lv_at hl 3 rfl) ?_
      refine nv_iadd E dX4_does_157 ?_
      refine lv_iconst (v := nI 0) E.1.1 E.1.2.1 dX4_does_158 rfl ?_
      refine lv_iload E.1.1 E.1.2.1 dX4_does_159 (lv_at hl 2 rfl) ?_
      refine CM.callVv (n := 3) E (c_X4_set l D cI cJ cZ ad τ ((6 * ((gmfr σ) - 1)) + (xM τ pp)) false (gmcd τ (4 * pp + 2)) (by omega)) ml_X4_128 im_X4_set se_X4_set ini_X4 co_X4_set hd_X4_set ⟨Nat.le_of_ble_eq_true rfl, Nat.le_of_ble_eq_true rfl⟩ ⟨Nat.le_refl _, Nat.le_refl _⟩ 0 rfl rfl hP (hD _) hS hA2 rfl hl.1 (Nat.le_of_ble_eq_true rfl) dX4_does_161 rfl (fun H locs hP hS => ?_)
      refine lv_iconst (v := nI 0) E.1.1 E.1.2.1 dX4_does_164 rfl ?_
      exact CM.reti E hr hlk hA (by unfold doF; rw [← hτ, ← hpp]; simp only [dpF, h93]; exact hP) hS (by unfold doR; rw [← hτ, ← hpp]; simp only [dpR, h93]) dX4_does_165
    · refine tpi (y := nI 1) (by rw [h93]) ?_
      refine lv_tableIn (off := 73) (tgt := 166) E.1.1 E.1.2.1 dX4_does_93 (by decide) (by decide) (by decide) (by decide) ?_
      have hy9 := CI_y hC2 (p := pp) (by omega)
      have hl : lv_has ls 10 [(9, .int (nI (siF σ (gmbo σ ((gmfr σ) - 1)) (gmpl σ ((gmfr σ) - 1))))), (8, .int (gmcd τ (4 * pp + 3))), (7, .int (nI (yM τ pp))), (6, .int (nI (xM τ pp))), (5, .int (nI (6 * ((gmfr σ) - 1)))), (4, .int (nI (gmpl σ ((gmfr σ) - 1)))), (3, .int (nI (gmbo σ ((gmfr σ) - 1)))), (2, .int (nI ((gmfr σ) - 1))), (0, .ref (ad 0)), (1, .int (bI sh))] := by have q9 := hl; rw [hy9.1] at q9; exact q9
      refine lv_aload_n E.1.1 E.1.2.1 dX4_does_166 rfl (lv_at hl 8 rfl) ?_
      refine lv_iload E.1.1 E.1.2.1 dX4_does_167 (lv_at hl 4 rfl) ?_
      refine lv_iload E.1.1 E.1.2.1 dX4_does_169 (lv_at hl 3 rfl) ?_
      refine nv_iadd E dX4_does_171 ?_
      refine lv_aload_n E.1.1 E.1.2.1 dX4_does_172 rfl (lv_at hl 8 rfl) ?_
      refine gt_X4_is E fl_X4_57 hP dX4_does_173 ?_
      refine lv_iload E.1.1 E.1.2.1 dX4_does_176 (lv_at hl 4 rfl) ?_
      refine lv_iload E.1.1 E.1.2.1 dX4_does_178 (lv_at hl 2 rfl) ?_
      refine nv_iadd E dX4_does_180 ?_
      refine ld_MS_is (i := (6 * ((gmfr σ) - 1)) + (yM τ pp)) E hP (by omega) dX4_does_181 ?_
      refine lv_aload_n E.1.1 E.1.2.1 dX4_does_182 rfl (lv_at hl 8 rfl) ?_
      refine gt_X4_value E fl_X4_60 hP dX4_does_183 ?_
      refine lv_iload E.1.1 E.1.2.1 dX4_does_186 (lv_at hl 4 rfl) ?_
      refine lv_iload E.1.1 E.1.2.1 dX4_does_188 (lv_at hl 2 rfl) ?_
      refine nv_iadd E dX4_does_190 ?_
      refine ld_MS_va (i := (6 * ((gmfr σ) - 1)) + (yM τ pp)) E hP (by omega) dX4_does_191 ?_
      refine CM.callVv (n := 3) E (c_X4_set l D cI cJ cZ ad τ ((6 * ((gmfr σ) - 1)) + (xM τ pp)) (gmis τ ((6 * ((gmfr σ) - 1)) + (yM τ pp))) (gmva τ ((6 * ((gmfr σ) - 1)) + (yM τ pp))) (by omega)) ml_X4_128 im_X4_set se_X4_set ini_X4 co_X4_set hd_X4_set ⟨Nat.le_of_ble_eq_true rfl, Nat.le_of_ble_eq_true rfl⟩ ⟨Nat.le_refl _, Nat.le_refl _⟩ 0 rfl rfl hP (hD _) hS hA2 rfl hl.1 (Nat.le_of_ble_eq_true rfl) dX4_does_192 rfl (fun H locs hP hS => ?_)
      refine lv_iconst (v := nI 0) E.1.1 E.1.2.1 dX4_does_195 rfl ?_
      exact CM.reti E hr hlk hA (by unfold doF; rw [← hτ, ← hpp]; simp only [dpF, h93]; exact hP) hS (by unfold doR; rw [← hτ, ← hpp]; simp only [dpR, h93]) dX4_does_196
    · refine tpi (y := nI 2) (by rw [h93]) ?_
      refine lv_tableIn (off := 104) (tgt := 197) E.1.1 E.1.2.1 dX4_does_93 (by decide) (by decide) (by decide) (by decide) ?_
      have hy9 := CI_y hC2 (p := pp) (by omega)
      have hl : lv_has ls 10 [(9, .int (nI (siF σ (gmbo σ ((gmfr σ) - 1)) (gmpl σ ((gmfr σ) - 1))))), (8, .int (gmcd τ (4 * pp + 3))), (7, .int (nI (yM τ pp))), (6, .int (nI (xM τ pp))), (5, .int (nI (6 * ((gmfr σ) - 1)))), (4, .int (nI (gmpl σ ((gmfr σ) - 1)))), (3, .int (nI (gmbo σ ((gmfr σ) - 1)))), (2, .int (nI ((gmfr σ) - 1))), (0, .ref (ad 0)), (1, .int (bI sh))] := by have q9 := hl; rw [hy9.1] at q9; exact q9
      have hz9 := CI_z6 hC2 (p := pp) (by omega)
      have hl : lv_has ls 10 [(9, .int (nI (siF σ (gmbo σ ((gmfr σ) - 1)) (gmpl σ ((gmfr σ) - 1))))), (8, .int (nI (zM τ pp))), (7, .int (nI (yM τ pp))), (6, .int (nI (xM τ pp))), (5, .int (nI (6 * ((gmfr σ) - 1)))), (4, .int (nI (gmpl σ ((gmfr σ) - 1)))), (3, .int (nI (gmbo σ ((gmfr σ) - 1)))), (2, .int (nI ((gmfr σ) - 1))), (0, .ref (ad 0)), (1, .int (bI sh))] := by have q9 := hl; rw [hz9.1] at q9; exact q9
      refine lv_aload_n E.1.1 E.1.2.1 dX4_does_197 rfl (lv_at hl 8 rfl) ?_
      refine lv_iload E.1.1 E.1.2.1 dX4_does_198 (lv_at hl 4 rfl) ?_
      refine lv_iconst (v := nI 1) E.1.1 E.1.2.1 dX4_does_200 rfl ?_
      refine lv_iload E.1.1 E.1.2.1 dX4_does_201 (lv_at hl 3 rfl) ?_
      refine lv_iload E.1.1 E.1.2.1 dX4_does_203 (lv_at hl 2 rfl) ?_
      refine lv_iload E.1.1 E.1.2.1 dX4_does_205 (lv_at hl 1 rfl) ?_
      refine CM.callVi (n := 5) E (c_X4_sums l D cI cJ cZ ad τ (6 * ((gmfr σ) - 1)) true (xM τ pp) (yM τ pp) (zM τ pp) (by omega) (by omega) (by omega)) ml_X4_140 im_X4_sums se_X4_sums ini_X4 co_X4_sums hd_X4_sums ⟨Nat.le_of_ble_eq_true rfl, Nat.le_of_ble_eq_true rfl⟩ ⟨Nat.le_refl _, Nat.le_refl _⟩ 0 rfl rfl hP (hD _) hS hA2 rfl hl.1 (Nat.le_of_ble_eq_true rfl) dX4_does_207 rfl (fun H locs hP hS => ?_)
      exact CM.reti E hr hlk hA (by unfold doF; rw [← hτ, ← hpp]; simp only [dpF, h93]; exact hP) hS (by unfold doR; rw [← hτ, ← hpp]; simp only [dpR, h93]) dX4_does_210
    · refine tpi (y := nI 3) (by rw [h93]) ?_
      refine lv_tableIn (off := 118) (tgt := 211) E.1.1 E.1.2.1 dX4_does_93 (by decide) (by decide) (by decide) (by decide) ?_
      have hy9 := CI_y hC2 (p := pp) (by omega)
      have hl : lv_has ls 10 [(9, .int (nI (siF σ (gmbo σ ((gmfr σ) - 1)) (gmpl σ ((gmfr σ) - 1))))), (8, .int (gmcd τ (4 * pp + 3))), (7, .int (nI (yM τ pp))), (6, .int (nI (xM τ pp))), (5, .int (nI (6 * ((gmfr σ) - 1)))), (4, .int (nI (gmpl σ ((gmfr σ) - 1)))), (3, .int (nI (gmbo σ ((gmfr σ) - 1)))), (2, .int (nI ((gmfr σ) - 1))), (0, .ref (ad 0)), (1, .int (bI sh))] := by have q9 := hl; rw [hy9.1] at q9; exact q9
      have hz9 := CI_z6 hC2 (p := pp) (by omega)
      have hl : lv_has ls 10 [(9, .int (nI (siF σ (gmbo σ ((gmfr σ) - 1)) (gmpl σ ((gmfr σ) - 1))))), (8, .int (nI (zM τ pp))), (7, .int (nI (yM τ pp))), (6, .int (nI (xM τ pp))), (5, .int (nI (6 * ((gmfr σ) - 1)))), (4, .int (nI (gmpl σ ((gmfr σ) - 1)))), (3, .int (nI (gmbo σ ((gmfr σ) - 1)))), (2, .int (nI ((gmfr σ) - 1))), (0, .ref (ad 0)), (1, .int (bI sh))] := by have q9 := hl; rw [hz9.1] at q9; exact q9
      refine lv_aload_n E.1.1 E.1.2.1 dX4_does_211 rfl (lv_at hl 8 rfl) ?_
      refine lv_iload E.1.1 E.1.2.1 dX4_does_212 (lv_at hl 4 rfl) ?_
      refine lv_iconst (v := nI 0) E.1.1 E.1.2.1 dX4_does_214 rfl ?_
      refine lv_iload E.1.1 E.1.2.1 dX4_does_215 (lv_at hl 3 rfl) ?_
      refine lv_iload E.1.1 E.1.2.1 dX4_does_217 (lv_at hl 2 rfl) ?_
      refine lv_iload E.1.1 E.1.2.1 dX4_does_219 (lv_at hl 1 rfl) ?_
      refine CM.callVi (n := 5) E (c_X4_sums l D cI cJ cZ ad τ (6 * ((gmfr σ) - 1)) false (xM τ pp) (yM τ pp) (zM τ pp) (by omega) (by omega) (by omega)) ml_X4_140 im_X4_sums se_X4_sums ini_X4 co_X4_sums hd_X4_sums ⟨Nat.le_of_ble_eq_true rfl, Nat.le_of_ble_eq_true rfl⟩ ⟨Nat.le_refl _, Nat.le_refl _⟩ 0 rfl rfl hP (hD _) hS hA2 rfl hl.1 (Nat.le_of_ble_eq_true rfl) dX4_does_221 rfl (fun H locs hP hS => ?_)
      exact CM.reti E hr hlk hA (by unfold doF; rw [← hτ, ← hpp]; simp only [dpF, h93]; exact hP) hS (by unfold doR; rw [← hτ, ← hpp]; simp only [dpR, h93]) dX4_does_224
    · refine tpi (y := nI 4) (by rw [h93]) ?_
      refine lv_tableIn (off := 132) (tgt := 225) E.1.1 E.1.2.1 dX4_does_93 (by decide) (by decide) (by decide) (by decide) ?_
      have hy9 := CI_y hC2 (p := pp) (by omega)
      have hl : lv_has ls 10 [(9, .int (nI (siF σ (gmbo σ ((gmfr σ) - 1)) (gmpl σ ((gmfr σ) - 1))))), (8, .int (gmcd τ (4 * pp + 3))), (7, .int (nI (yM τ pp))), (6, .int (nI (xM τ pp))), (5, .int (nI (6 * ((gmfr σ) - 1)))), (4, .int (nI (gmpl σ ((gmfr σ) - 1)))), (3, .int (nI (gmbo σ ((gmfr σ) - 1)))), (2, .int (nI ((gmfr σ) - 1))), (0, .ref (ad 0)), (1, .int (bI sh))] := by have q9 := hl; rw [hy9.1] at q9; exact q9
      refine lv_aload_n E.1.1 E.1.2.1 dX4_does_225 rfl (lv_at hl 8 rfl) ?_
      refine lv_iload E.1.1 E.1.2.1 dX4_does_226 (lv_at hl 0 rfl) ?_
      refine lv_iload E.1.1 E.1.2.1 dX4_does_228 (lv_at hl 4 rfl) ?_
      refine lv_iload E.1.1 E.1.2.1 dX4_does_230 (lv_at hl 3 rfl) ?_
      refine nv_iadd E dX4_does_232 ?_
      refine lv_iload E.1.1 E.1.2.1 dX4_does_233 (lv_at hl 2 rfl) ?_
      refine CM.callVi (n := 3) E (c_X4_news l D cI cJ cZ ad τ (siF σ (gmbo σ ((gmfr σ) - 1)) (gmpl σ ((gmfr σ) - 1))) ((6 * ((gmfr σ) - 1)) + (xM τ pp)) (yM τ pp) hV2 (by omega) hz0 (by omega)) ml_X4_144 im_X4_news se_X4_news ini_X4 co_X4_news hd_X4_news ⟨Nat.le_of_ble_eq_true rfl, Nat.le_of_ble_eq_true rfl⟩ ⟨Nat.le_refl _, Nat.le_refl _⟩ 0 rfl rfl hP (hD _) hS hA2 rfl hl.1 (Nat.le_of_ble_eq_true rfl) dX4_does_235 rfl (fun H locs hP hS => ?_)
      exact CM.reti E hr hlk hA (by unfold doF; rw [← hτ, ← hpp, hzz]; simp only [dpF, h93]; exact hP) hS (by unfold doR; rw [← hτ, ← hpp, hzz]; simp only [dpR, h93]) dX4_does_238
    · refine tpi (y := nI 5) (by rw [h93]) ?_
      refine lv_tableIn (off := 146) (tgt := 239) E.1.1 E.1.2.1 dX4_does_93 (by decide) (by decide) (by decide) (by decide) ?_
      have hy9 := CI_y hC2 (p := pp) (by omega)
      have hl : lv_has ls 10 [(9, .int (nI (siF σ (gmbo σ ((gmfr σ) - 1)) (gmpl σ ((gmfr σ) - 1))))), (8, .int (gmcd τ (4 * pp + 3))), (7, .int (nI (yM τ pp))), (6, .int (nI (xM τ pp))), (5, .int (nI (6 * ((gmfr σ) - 1)))), (4, .int (nI (gmpl σ ((gmfr σ) - 1)))), (3, .int (nI (gmbo σ ((gmfr σ) - 1)))), (2, .int (nI ((gmfr σ) - 1))), (0, .ref (ad 0)), (1, .int (bI sh))] := by have q9 := hl; rw [hy9.1] at q9; exact q9
      have hz9 := CI_z3 hC2 (p := pp) (by omega)
      have hl : lv_has ls 10 [(9, .int (nI (siF σ (gmbo σ ((gmfr σ) - 1)) (gmpl σ ((gmfr σ) - 1))))), (8, .int (nI (zM τ pp))), (7, .int (nI (yM τ pp))), (6, .int (nI (xM τ pp))), (5, .int (nI (6 * ((gmfr σ) - 1)))), (4, .int (nI (gmpl σ ((gmfr σ) - 1)))), (3, .int (nI (gmbo σ ((gmfr σ) - 1)))), (2, .int (nI ((gmfr σ) - 1))), (0, .ref (ad 0)), (1, .int (bI sh))] := by have q9 := hl; rw [hz9.1] at q9; exact q9
      refine lv_aload_n E.1.1 E.1.2.1 dX4_does_239 rfl (lv_at hl 8 rfl) ?_
      refine gt_X4_is E fl_X4_57 hP dX4_does_240 ?_
      refine lv_iload E.1.1 E.1.2.1 dX4_does_243 (lv_at hl 4 rfl) ?_
      refine lv_iload E.1.1 E.1.2.1 dX4_does_245 (lv_at hl 2 rfl) ?_
      refine nv_iadd E dX4_does_247 ?_
      refine ld_MS_is (i := (6 * ((gmfr σ) - 1)) + (yM τ pp)) E hP (by omega) dX4_does_248 ?_
      refine bv_if_ne (x := gmis τ ((6 * ((gmfr σ) - 1)) + (yM τ pp))) E dX4_does_249 (tgt := 254) (by decide) (fun h249 => ?_) (fun h249 => ?_)
      · have hv9 := hV2.2.2.1.1 _ h249
        refine lv_aload_n E.1.1 E.1.2.1 dX4_does_254 rfl (lv_at hl 8 rfl) ?_
        refine lv_iload E.1.1 E.1.2.1 dX4_does_255 (lv_at hl 4 rfl) ?_
        refine lv_iload E.1.1 E.1.2.1 dX4_does_257 (lv_at hl 3 rfl) ?_
        refine nv_iadd E dX4_does_259 ?_
        refine lv_aload_n E.1.1 E.1.2.1 dX4_does_260 rfl (lv_at hl 8 rfl) ?_
        refine gt_X4_fieldIs E fl_X4_42 hP dX4_does_261 ?_
        refine lv_iconst (v := nI 3) E.1.1 E.1.2.1 dX4_does_264 rfl ?_
        refine lv_aload_n E.1.1 E.1.2.1 dX4_does_265 rfl (lv_at hl 8 rfl) ?_
        refine gt_X4_value E fl_X4_60 hP dX4_does_266 ?_
        refine lv_iload E.1.1 E.1.2.1 dX4_does_269 (lv_at hl 4 rfl) ?_
        refine lv_iload E.1.1 E.1.2.1 dX4_does_271 (lv_at hl 2 rfl) ?_
        refine nv_iadd E dX4_does_273 ?_
        refine ld_MS_va (i := (6 * ((gmfr σ) - 1)) + (yM τ pp)) E hP (by omega) dX4_does_274 ?_
        refine tpi (y := nI (vN τ ((6 * (gmfr σ - 1)) + (yM τ pp)))) (hv9.1) ?_
        refine nv_imul E dX4_does_275 ?_
        refine lv_iload E.1.1 E.1.2.1 dX4_does_276 (lv_at hl 1 rfl) ?_
        refine nv_iadd E dX4_does_278 ?_
        refine ld_MS_fI (i := (3 * (vN τ ((6 * (gmfr σ - 1)) + (yM τ pp)))) + (zM τ pp)) E hP (by omega) dX4_does_279 ?_
        refine lv_aload_n E.1.1 E.1.2.1 dX4_does_280 rfl (lv_at hl 8 rfl) ?_
        refine gt_X4_field E fl_X4_45 hP dX4_does_281 ?_
        refine lv_iconst (v := nI 3) E.1.1 E.1.2.1 dX4_does_284 rfl ?_
        refine lv_aload_n E.1.1 E.1.2.1 dX4_does_285 rfl (lv_at hl 8 rfl) ?_
        refine gt_X4_value E fl_X4_60 hP dX4_does_286 ?_
        refine lv_iload E.1.1 E.1.2.1 dX4_does_289 (lv_at hl 4 rfl) ?_
        refine lv_iload E.1.1 E.1.2.1 dX4_does_291 (lv_at hl 2 rfl) ?_
        refine nv_iadd E dX4_does_293 ?_
        refine ld_MS_va (i := (6 * ((gmfr σ) - 1)) + (yM τ pp)) E hP (by omega) dX4_does_294 ?_
        refine tpi (y := nI (vN τ ((6 * (gmfr σ - 1)) + (yM τ pp)))) (hv9.1) ?_
        refine nv_imul E dX4_does_295 ?_
        refine lv_iload E.1.1 E.1.2.1 dX4_does_296 (lv_at hl 1 rfl) ?_
        refine nv_iadd E dX4_does_298 ?_
        refine ld_MS_fV (i := (3 * (vN τ ((6 * (gmfr σ - 1)) + (yM τ pp)))) + (zM τ pp)) E hP (by omega) dX4_does_299 ?_
        refine CM.callVv (n := 3) E (c_X4_set l D cI cJ cZ ad τ ((6 * ((gmfr σ) - 1)) + (xM τ pp)) (gmfI τ ((3 * (vN τ ((6 * (gmfr σ - 1)) + (yM τ pp)))) + (zM τ pp))) (gmfV τ ((3 * (vN τ ((6 * (gmfr σ - 1)) + (yM τ pp)))) + (zM τ pp))) (by omega)) ml_X4_128 im_X4_set se_X4_set ini_X4 co_X4_set hd_X4_set ⟨Nat.le_of_ble_eq_true rfl, Nat.le_of_ble_eq_true rfl⟩ ⟨Nat.le_refl _, Nat.le_refl _⟩ 0 rfl rfl hP (hD _) hS hA2 rfl hl.1 (Nat.le_of_ble_eq_true rfl) dX4_does_300 rfl (fun H locs hP hS => ?_)
        refine lv_iconst (v := nI 0) E.1.1 E.1.2.1 dX4_does_303 rfl ?_
        exact CM.reti E hr hlk hA (by unfold doF; rw [← hτ, ← hpp]; simp only [dpF, h93, if_pos h249]; exact hP) hS (by unfold doR; rw [← hτ, ← hpp]; simp only [dpR, h93, if_pos h249]) dX4_does_304
      · refine lv_iconst (v := nI 1) E.1.1 E.1.2.1 dX4_does_252 rfl ?_
        exact CM.reti E hr hlk hA (by unfold doF; rw [← hτ, ← hpp]; simp only [dpF, h93, if_neg (show ¬ gmis τ (6 * (gmfr σ - 1) + yM τ pp) = true from (by rw [h249]; decide))]; exact hP) hS (by unfold doR; rw [← hτ, ← hpp]; simp only [dpR, h93, if_neg (show ¬ gmis τ (6 * (gmfr σ - 1) + yM τ pp) = true from (by rw [h249]; decide))]) dX4_does_253
    · refine tpi (y := nI 6) (by rw [h93]) ?_
      refine lv_tableIn (off := 212) (tgt := 305) E.1.1 E.1.2.1 dX4_does_93 (by decide) (by decide) (by decide) (by decide) ?_
      have hy9 := CI_y hC2 (p := pp) (by omega)
      have hl : lv_has ls 10 [(9, .int (nI (siF σ (gmbo σ ((gmfr σ) - 1)) (gmpl σ ((gmfr σ) - 1))))), (8, .int (gmcd τ (4 * pp + 3))), (7, .int (nI (yM τ pp))), (6, .int (nI (xM τ pp))), (5, .int (nI (6 * ((gmfr σ) - 1)))), (4, .int (nI (gmpl σ ((gmfr σ) - 1)))), (3, .int (nI (gmbo σ ((gmfr σ) - 1)))), (2, .int (nI ((gmfr σ) - 1))), (0, .ref (ad 0)), (1, .int (bI sh))] := by have q9 := hl; rw [hy9.1] at q9; exact q9
      have hz9 := CI_z3 hC2 (p := pp) (by omega)
      have hl : lv_has ls 10 [(9, .int (nI (siF σ (gmbo σ ((gmfr σ) - 1)) (gmpl σ ((gmfr σ) - 1))))), (8, .int (nI (zM τ pp))), (7, .int (nI (yM τ pp))), (6, .int (nI (xM τ pp))), (5, .int (nI (6 * ((gmfr σ) - 1)))), (4, .int (nI (gmpl σ ((gmfr σ) - 1)))), (3, .int (nI (gmbo σ ((gmfr σ) - 1)))), (2, .int (nI ((gmfr σ) - 1))), (0, .ref (ad 0)), (1, .int (bI sh))] := by have q9 := hl; rw [hz9.1] at q9; exact q9
      refine lv_aload_n E.1.1 E.1.2.1 dX4_does_305 rfl (lv_at hl 8 rfl) ?_
      refine gt_X4_is E fl_X4_57 hP dX4_does_306 ?_
      refine lv_iload E.1.1 E.1.2.1 dX4_does_309 (lv_at hl 4 rfl) ?_
      refine lv_iload E.1.1 E.1.2.1 dX4_does_311 (lv_at hl 3 rfl) ?_
      refine nv_iadd E dX4_does_313 ?_
      refine ld_MS_is (i := (6 * ((gmfr σ) - 1)) + (xM τ pp)) E hP (by omega) dX4_does_314 ?_
      refine bv_if_ne (x := gmis τ ((6 * ((gmfr σ) - 1)) + (xM τ pp))) E dX4_does_315 (tgt := 320) (by decide) (fun h315 => ?_) (fun h315 => ?_)
      · have hv9 := hV2.2.2.1.1 _ h315
        refine lv_aload_n E.1.1 E.1.2.1 dX4_does_320 rfl (lv_at hl 8 rfl) ?_
        refine gt_X4_fieldIs E fl_X4_42 hP dX4_does_321 ?_
        refine lv_iconst (v := nI 3) E.1.1 E.1.2.1 dX4_does_324 rfl ?_
        refine lv_aload_n E.1.1 E.1.2.1 dX4_does_325 rfl (lv_at hl 8 rfl) ?_
        refine gt_X4_value E fl_X4_60 hP dX4_does_326 ?_
        refine lv_iload E.1.1 E.1.2.1 dX4_does_329 (lv_at hl 4 rfl) ?_
        refine lv_iload E.1.1 E.1.2.1 dX4_does_331 (lv_at hl 3 rfl) ?_
        refine nv_iadd E dX4_does_333 ?_
        refine ld_MS_va (i := (6 * ((gmfr σ) - 1)) + (xM τ pp)) E hP (by omega) dX4_does_334 ?_
        refine tpi (y := nI (vN τ ((6 * (gmfr σ - 1)) + (xM τ pp)))) (hv9.1) ?_
        refine nv_imul E dX4_does_335 ?_
        refine lv_iload E.1.1 E.1.2.1 dX4_does_336 (lv_at hl 1 rfl) ?_
        refine nv_iadd E dX4_does_338 ?_
        refine lv_aload_n E.1.1 E.1.2.1 dX4_does_339 rfl (lv_at hl 8 rfl) ?_
        refine gt_X4_is E fl_X4_57 hP dX4_does_340 ?_
        refine lv_iload E.1.1 E.1.2.1 dX4_does_343 (lv_at hl 4 rfl) ?_
        refine lv_iload E.1.1 E.1.2.1 dX4_does_345 (lv_at hl 2 rfl) ?_
        refine nv_iadd E dX4_does_347 ?_
        refine ld_MS_is (i := (6 * ((gmfr σ) - 1)) + (yM τ pp)) E hP (by omega) dX4_does_348 ?_
        refine as_MS_fI (i := (3 * (vN τ ((6 * (gmfr σ - 1)) + (xM τ pp)))) + (zM τ pp)) (v := gmis τ ((6 * ((gmfr σ) - 1)) + (yM τ pp))) E hP hD hS (by omega) dX4_does_349 (fun H locs hP hS => ?_)
        refine lv_aload_n E.1.1 E.1.2.1 dX4_does_350 rfl (lv_at hl 8 rfl) ?_
        refine gt_X4_field E fl_X4_45 hP dX4_does_351 ?_
        refine lv_iconst (v := nI 3) E.1.1 E.1.2.1 dX4_does_354 rfl ?_
        refine lv_aload_n E.1.1 E.1.2.1 dX4_does_355 rfl (lv_at hl 8 rfl) ?_
        refine gt_X4_value E fl_X4_60 hP dX4_does_356 ?_
        refine lv_iload E.1.1 E.1.2.1 dX4_does_359 (lv_at hl 4 rfl) ?_
        refine lv_iload E.1.1 E.1.2.1 dX4_does_361 (lv_at hl 3 rfl) ?_
        refine nv_iadd E dX4_does_363 ?_
        refine ld_MS_va (i := (6 * ((gmfr σ) - 1)) + (xM τ pp)) E hP (by omega) dX4_does_364 ?_
        refine tpi (y := gmva τ ((6 * ((gmfr σ) - 1)) + (xM τ pp))) (by rw [hs_va_fI]) ?_
        refine tpi (y := nI (vN τ ((6 * (gmfr σ - 1)) + (xM τ pp)))) (hv9.1) ?_
        refine nv_imul E dX4_does_365 ?_
        refine lv_iload E.1.1 E.1.2.1 dX4_does_366 (lv_at hl 1 rfl) ?_
        refine nv_iadd E dX4_does_368 ?_
        refine lv_aload_n E.1.1 E.1.2.1 dX4_does_369 rfl (lv_at hl 8 rfl) ?_
        refine gt_X4_value E fl_X4_60 hP dX4_does_370 ?_
        refine lv_iload E.1.1 E.1.2.1 dX4_does_373 (lv_at hl 4 rfl) ?_
        refine lv_iload E.1.1 E.1.2.1 dX4_does_375 (lv_at hl 2 rfl) ?_
        refine nv_iadd E dX4_does_377 ?_
        refine ld_MS_va (i := (6 * ((gmfr σ) - 1)) + (yM τ pp)) E hP (by omega) dX4_does_378 ?_
        refine tpi (y := gmva τ ((6 * ((gmfr σ) - 1)) + (yM τ pp))) (by rw [hs_va_fI]) ?_
        refine as_MS_fV (i := (3 * (vN τ ((6 * (gmfr σ - 1)) + (xM τ pp)))) + (zM τ pp)) (v := gmva τ ((6 * ((gmfr σ) - 1)) + (yM τ pp))) E hP hD hS (by omega) dX4_does_379 (fun H locs hP hS => ?_)
        have hP : va_P D vwCl (wR ad cI cJ cZ (smfV (smfI τ (va_up (gmfI τ) ((3 * (vN τ ((6 * (gmfr σ - 1)) + (xM τ pp)))) + (zM τ pp)) (gmis τ ((6 * ((gmfr σ) - 1)) + (yM τ pp))))) (va_up (gmfV τ) ((3 * (vN τ ((6 * (gmfr σ - 1)) + (xM τ pp)))) + (zM τ pp)) (gmva τ ((6 * ((gmfr σ) - 1)) + (yM τ pp)))))) H := by have q9 := hP; rw [hs_fV_fI] at q9; exact q9
        refine lv_iconst (v := nI 0) E.1.1 E.1.2.1 dX4_does_380 rfl ?_
        exact CM.reti E hr hlk hA (by unfold doF; rw [← hτ, ← hpp]; simp only [dpF, h93, if_pos h315]; exact hP) hS (by unfold doR; rw [← hτ, ← hpp]; simp only [dpR, h93, if_pos h315]) dX4_does_381
      · refine lv_iconst (v := nI 1) E.1.1 E.1.2.1 dX4_does_318 rfl ?_
        exact CM.reti E hr hlk hA (by unfold doF; rw [← hτ, ← hpp]; simp only [dpF, h93, if_neg (show ¬ gmis τ (6 * (gmfr σ - 1) + xM τ pp) = true from (by rw [h315]; decide))]; exact hP) hS (by unfold doR; rw [← hτ, ← hpp]; simp only [dpR, h93, if_neg (show ¬ gmis τ (6 * (gmfr σ - 1) + xM τ pp) = true from (by rw [h315]; decide))]) dX4_does_319
    · refine tpi (y := nI 7) (by rw [h93]) ?_
      refine lv_tableIn (off := 289) (tgt := 382) E.1.1 E.1.2.1 dX4_does_93 (by decide) (by decide) (by decide) (by decide) ?_
      have hy9 := CI_y hC2 (p := pp) (by omega)
      have hl : lv_has ls 10 [(9, .int (nI (siF σ (gmbo σ ((gmfr σ) - 1)) (gmpl σ ((gmfr σ) - 1))))), (8, .int (gmcd τ (4 * pp + 3))), (7, .int (nI (yM τ pp))), (6, .int (nI (xM τ pp))), (5, .int (nI (6 * ((gmfr σ) - 1)))), (4, .int (nI (gmpl σ ((gmfr σ) - 1)))), (3, .int (nI (gmbo σ ((gmfr σ) - 1)))), (2, .int (nI ((gmfr σ) - 1))), (0, .ref (ad 0)), (1, .int (bI sh))] := by have q9 := hl; rw [hy9.1] at q9; exact q9
      have hz9 := CI_z4 hC2 (p := pp) h93
      have hl : lv_has ls 10 [(9, .int (nI (siF σ (gmbo σ ((gmfr σ) - 1)) (gmpl σ ((gmfr σ) - 1))))), (8, .int (nI (zM τ pp))), (7, .int (nI (yM τ pp))), (6, .int (nI (xM τ pp))), (5, .int (nI (6 * ((gmfr σ) - 1)))), (4, .int (nI (gmpl σ ((gmfr σ) - 1)))), (3, .int (nI (gmbo σ ((gmfr σ) - 1)))), (2, .int (nI ((gmfr σ) - 1))), (0, .ref (ad 0)), (1, .int (bI sh))] := by have q9 := hl; rw [hz9.1] at q9; exact q9
      refine lv_aload_n E.1.1 E.1.2.1 dX4_does_382 rfl (lv_at hl 8 rfl) ?_
      refine lv_iload E.1.1 E.1.2.1 dX4_does_383 (lv_at hl 0 rfl) ?_
      refine lv_iload E.1.1 E.1.2.1 dX4_does_385 (lv_at hl 4 rfl) ?_
      refine lv_iload E.1.1 E.1.2.1 dX4_does_387 (lv_at hl 3 rfl) ?_
      refine lv_iload E.1.1 E.1.2.1 dX4_does_389 (lv_at hl 2 rfl) ?_
      refine lv_iload E.1.1 E.1.2.1 dX4_does_391 (lv_at hl 1 rfl) ?_
      refine CM.callVi (n := 5) E (c_X4_calls l D cI cJ cZ ad τ (siF σ (gmbo σ ((gmfr σ) - 1)) (gmpl σ ((gmfr σ) - 1))) (6 * ((gmfr σ) - 1)) (xM τ pp) (yM τ pp) (zM τ pp) hV2 hz0 (by omega) hy9.2 hz9.2) ml_X4_147 im_X4_calls se_X4_calls ini_X4 co_X4_calls hd_X4_calls ⟨Nat.le_of_ble_eq_true rfl, Nat.le_of_ble_eq_true rfl⟩ ⟨Nat.le_refl _, Nat.le_refl _⟩ 0 rfl rfl hP (hD _) hS hA2 rfl hl.1 (Nat.le_of_ble_eq_true rfl) dX4_does_393 rfl (fun H locs hP hS => ?_)
      exact CM.reti E hr hlk hA (by unfold doF; rw [← hτ, ← hpp, hzz]; simp only [dpF, h93]; exact hP) hS (by unfold doR; rw [← hτ, ← hpp]; simp only [dpR, h93]) dX4_does_396
    · refine tpi (y := nI 8) (by rw [h93]) ?_
      refine lv_tableIn (off := 304) (tgt := 397) E.1.1 E.1.2.1 dX4_does_93 (by decide) (by decide) (by decide) (by decide) ?_
      refine lv_aload_n E.1.1 E.1.2.1 dX4_does_397 rfl (lv_at hl 8 rfl) ?_
      refine lv_iload E.1.1 E.1.2.1 dX4_does_398 (lv_at hl 4 rfl) ?_
      refine lv_iload E.1.1 E.1.2.1 dX4_does_400 (lv_at hl 3 rfl) ?_
      refine nv_iadd E dX4_does_402 ?_
      refine CM.callVi (n := 1) E (c_X4_puts l D cI cJ cZ ad τ ((6 * ((gmfr σ) - 1)) + (xM τ pp)) hV2 (by omega)) ml_X4_151 im_X4_puts se_X4_puts ini_X4 co_X4_puts hd_X4_puts ⟨Nat.le_of_ble_eq_true rfl, Nat.le_of_ble_eq_true rfl⟩ ⟨Nat.le_refl _, Nat.le_refl _⟩ 0 rfl rfl hP (hD _) hS hA2 rfl hl.1 (Nat.le_of_ble_eq_true rfl) dX4_does_403 rfl (fun H locs hP hS => ?_)
      exact CM.reti E hr hlk hA (by unfold doF; rw [← hτ, ← hpp]; simp only [dpF, h93]; exact hP) hS (by unfold doR; rw [← hτ, ← hpp]; simp only [dpR, h93]) dX4_does_406
    · refine tpi (y := nI 9) (by rw [h93]) ?_
      refine lv_tableIn (off := 314) (tgt := 407) E.1.1 E.1.2.1 dX4_does_93 (by decide) (by decide) (by decide) (by decide) ?_
      have hy9 := CI_y9 hC2 h93
      have hl : lv_has ls 10 [(9, .int (nI (siF σ (gmbo σ ((gmfr σ) - 1)) (gmpl σ ((gmfr σ) - 1))))), (8, .int (gmcd τ (4 * pp + 3))), (7, .int (nI (yM τ pp))), (6, .int (nI (xM τ pp))), (5, .int (nI (6 * ((gmfr σ) - 1)))), (4, .int (nI (gmpl σ ((gmfr σ) - 1)))), (3, .int (nI (gmbo σ ((gmfr σ) - 1)))), (2, .int (nI ((gmfr σ) - 1))), (0, .ref (ad 0)), (1, .int (bI sh))] := by have q9 := hl; rw [hy9.1] at q9; exact q9
      refine lv_aload_n E.1.1 E.1.2.1 dX4_does_407 rfl (lv_at hl 8 rfl) ?_
      refine gt_X4_is E fl_X4_57 hP dX4_does_408 ?_
      refine lv_iload E.1.1 E.1.2.1 dX4_does_411 (lv_at hl 4 rfl) ?_
      refine lv_iload E.1.1 E.1.2.1 dX4_does_413 (lv_at hl 3 rfl) ?_
      refine nv_iadd E dX4_does_415 ?_
      refine ld_MS_is (i := (6 * ((gmfr σ) - 1)) + (xM τ pp)) E hP (by omega) dX4_does_416 ?_
      refine bv_if_ne (x := gmis τ ((6 * ((gmfr σ) - 1)) + (xM τ pp))) E dX4_does_417 (tgt := 444) (by decide) (fun h417 => ?_) (fun h417 => ?_)
      · refine lv_iconst (v := nI 0) E.1.1 E.1.2.1 dX4_does_444 rfl ?_
        exact CM.reti E hr hlk hA (by unfold doF; rw [← hτ, ← hpp]; simp only [dpF, h93]; first | (rw [if_pos ⟨h417, h430⟩]; exact hP) | (rw [if_neg (by intro z; first | exact absurd (h417.symm.trans z.1) (by decide) | exact h430 z.2)]; exact hP)) hS (by unfold doR; rw [← hτ, ← hpp]; simp only [dpR, h93]) dX4_does_445
      · refine lv_aload_n E.1.1 E.1.2.1 dX4_does_420 rfl (lv_at hl 8 rfl) ?_
        refine gt_X4_value E fl_X4_60 hP dX4_does_421 ?_
        refine lv_iload E.1.1 E.1.2.1 dX4_does_424 (lv_at hl 4 rfl) ?_
        refine lv_iload E.1.1 E.1.2.1 dX4_does_426 (lv_at hl 3 rfl) ?_
        refine nv_iadd E dX4_does_428 ?_
        refine ld_MS_va (i := (6 * ((gmfr σ) - 1)) + (xM τ pp)) E hP (by omega) dX4_does_429 ?_
        refine lv_if_ne (tgt := 444) E.1.1 E.1.2.1 dX4_does_430 (by decide) (fun h430 => ?_) (fun h430 => ?_)
        · refine lv_iconst (v := nI 0) E.1.1 E.1.2.1 dX4_does_444 rfl ?_
          exact CM.reti E hr hlk hA (by unfold doF; rw [← hτ, ← hpp]; simp only [dpF, h93]; first | (rw [if_pos ⟨h417, h430⟩]; exact hP) | (rw [if_neg (by intro z; first | exact absurd (h417.symm.trans z.1) (by decide) | exact h430 z.2)]; exact hP)) hS (by unfold doR; rw [← hτ, ← hpp]; simp only [dpR, h93]) dX4_does_445
        · refine lv_aload_n E.1.1 E.1.2.1 dX4_does_433 rfl (lv_at hl 8 rfl) ?_
          refine gt_X4_place E fl_X4_51 hP dX4_does_434 ?_
          refine lv_iload_n E.1.1 E.1.2.1 dX4_does_437 rfl (lv_at hl 7 rfl) ?_
          refine lv_dup2_11 E.1.1 E.1.2.1 dX4_does_438 rfl rfl ?_
          refine ld_MS_pl (i := (gmfr σ) - 1) E hP (by omega) dX4_does_439 ?_
          refine lv_iload E.1.1 E.1.2.1 dX4_does_440 (lv_at hl 2 rfl) ?_
          refine nv_iadd E dX4_does_442 ?_
          refine as_MS_pl (i := (gmfr σ) - 1) (v := (gmpl τ ((gmfr σ) - 1)) + (yM τ pp)) E hP hD hS (by omega) dX4_does_443 (fun H locs hP hS => ?_)
          refine lv_iconst (v := nI 0) E.1.1 E.1.2.1 dX4_does_444 rfl ?_
          exact CM.reti E hr hlk hA (by unfold doF; rw [← hτ, ← hpp]; simp only [dpF, h93]; first | (rw [if_pos ⟨h417, h430⟩]; exact hP) | (rw [if_neg (by intro z; first | exact absurd (h417.symm.trans z.1) (by decide) | exact h430 z.2)]; exact hP)) hS (by unfold doR; rw [← hτ, ← hpp]; simp only [dpR, h93]) dX4_does_445
    · refine tpi (y := nI 10) (by rw [h93]) ?_
      refine lv_tableIn (off := 353) (tgt := 446) E.1.1 E.1.2.1 dX4_does_93 (by decide) (by decide) (by decide) (by decide) ?_
      have hy9 := CI_y hC2 (p := pp) (by omega)
      have hl : lv_has ls 10 [(9, .int (nI (siF σ (gmbo σ ((gmfr σ) - 1)) (gmpl σ ((gmfr σ) - 1))))), (8, .int (gmcd τ (4 * pp + 3))), (7, .int (nI (yM τ pp))), (6, .int (nI (xM τ pp))), (5, .int (nI (6 * ((gmfr σ) - 1)))), (4, .int (nI (gmpl σ ((gmfr σ) - 1)))), (3, .int (nI (gmbo σ ((gmfr σ) - 1)))), (2, .int (nI ((gmfr σ) - 1))), (0, .ref (ad 0)), (1, .int (bI sh))] := by have q9 := hl; rw [hy9.1] at q9; exact q9
      refine lv_aload_n E.1.1 E.1.2.1 dX4_does_446 rfl (lv_at hl 8 rfl) ?_
      refine gt_X4_is E fl_X4_57 hP dX4_does_447 ?_
      refine lv_iload E.1.1 E.1.2.1 dX4_does_450 (lv_at hl 4 rfl) ?_
      refine lv_iload E.1.1 E.1.2.1 dX4_does_452 (lv_at hl 3 rfl) ?_
      refine nv_iadd E dX4_does_454 ?_
      refine ld_MS_is (i := (6 * ((gmfr σ) - 1)) + (xM τ pp)) E hP (by omega) dX4_does_455 ?_
      refine bv_if_ne (x := gmis τ ((6 * ((gmfr σ) - 1)) + (xM τ pp))) E dX4_does_456 (tgt := 463) (by decide) (fun h456 => ?_) (fun h456 => ?_)
      · have hv9 := hV2.2.2.1.1 _ h456
        refine lv_aload_n E.1.1 E.1.2.1 dX4_does_463 rfl (lv_at hl 8 rfl) ?_
        refine lv_aload_n E.1.1 E.1.2.1 dX4_does_464 rfl (lv_at hl 8 rfl) ?_
        refine gt_X4_classOf E fl_X4_39 hP dX4_does_465 ?_
        refine lv_aload_n E.1.1 E.1.2.1 dX4_does_468 rfl (lv_at hl 8 rfl) ?_
        refine gt_X4_value E fl_X4_60 hP dX4_does_469 ?_
        refine lv_iload E.1.1 E.1.2.1 dX4_does_472 (lv_at hl 4 rfl) ?_
        refine lv_iload E.1.1 E.1.2.1 dX4_does_474 (lv_at hl 3 rfl) ?_
        refine nv_iadd E dX4_does_476 ?_
        refine ld_MS_va (i := (6 * ((gmfr σ) - 1)) + (xM τ pp)) E hP (by omega) dX4_does_477 ?_
        refine tpi (y := nI (vN τ ((6 * (gmfr σ - 1)) + (xM τ pp)))) (hv9.1) ?_
        refine ld_MS_cl (i := vN τ ((6 * (gmfr σ - 1)) + (xM τ pp))) E hP (by omega) dX4_does_478 ?_
        refine lv_iload E.1.1 E.1.2.1 dX4_does_479 (lv_at hl 2 rfl) ?_
        refine CM.callVi (n := 2) E (c_X4_isAnother l D cI cJ cZ ad τ (gmcl τ (vN τ ((6 * (gmfr σ - 1)) + (xM τ pp)))) (yM τ pp) (hV2.2.1.1 _) hy9.2 hV2.1) ml_X4_154 im_X4_isAnother se_X4_isAnother ini_X4 co_X4_isAnother hd_X4_isAnother ⟨Nat.le_of_ble_eq_true rfl, Nat.le_of_ble_eq_true rfl⟩ ⟨Nat.le_refl _, Nat.le_refl _⟩ 0 rfl rfl hP (hD _) hS hA2 rfl hl.1 (Nat.le_of_ble_eq_true rfl) dX4_does_481 rfl (fun H locs hP hS => ?_)
        refine bv_if_eq (x := misF (gmpa τ) (gmty τ) (yM τ pp) 6 (some (gmcl τ (vN τ ((6 * (gmfr σ - 1)) + (xM τ pp)))))) E dX4_does_484 (tgt := 491) (by decide) (fun h484 => ?_) (fun h484 => ?_)
        · refine lv_iconst (v := nI 2) E.1.1 E.1.2.1 dX4_does_491 rfl ?_
          exact CM.reti E hr hlk hA (by unfold doF; rw [← hτ, ← hpp]; simp only [dpF, h93]; exact hP) hS (by unfold doR; rw [← hτ, ← hpp]; simp only [dpR, h93]; first | (rw [if_neg (by rw [h456]; decide)]; done) | (rw [if_pos h456, if_pos h484]; done) | (rw [if_pos h456, if_neg (by rw [h484]; decide)])) dX4_does_492
        · refine lv_iconst (v := nI 0) E.1.1 E.1.2.1 dX4_does_487 rfl ?_
          refine lv_goto (tgt := 492) E.1.1 E.1.2.1 dX4_does_488 (by decide) ?_
          exact CM.reti E hr hlk hA (by unfold doF; rw [← hτ, ← hpp]; simp only [dpF, h93]; exact hP) hS (by unfold doR; rw [← hτ, ← hpp]; simp only [dpR, h93]; first | (rw [if_neg (by rw [h456]; decide)]; done) | (rw [if_pos h456, if_pos h484]; done) | (rw [if_pos h456, if_neg (by rw [h484]; decide)])) dX4_does_492
      · refine lv_iconst (v := nI 1) E.1.1 E.1.2.1 dX4_does_459 rfl ?_
        refine lv_goto (tgt := 492) E.1.1 E.1.2.1 dX4_does_460 (by decide) ?_
        exact CM.reti E hr hlk hA (by unfold doF; rw [← hτ, ← hpp]; simp only [dpF, h93]; exact hP) hS (by unfold doR; rw [← hτ, ← hpp]; simp only [dpR, h93]; first | (rw [if_neg (by rw [h456]; decide)]; done) | (rw [if_pos h456, if_pos h484]; done) | (rw [if_pos h456, if_neg (by rw [h484]; decide)])) dX4_does_492
    · refine tpi (y := nI 11) (by rw [h93]) ?_
      refine lv_tableOut (tgt := 493) E.1.1 E.1.2.1 dX4_does_93 (by decide) (by decide) ?_
      refine lv_aload_n E.1.1 E.1.2.1 dX4_does_493 rfl (lv_at hl 8 rfl) ?_
      refine lv_aload_n E.1.1 E.1.2.1 dX4_does_494 rfl (lv_at hl 8 rfl) ?_
      refine gt_X4_is E fl_X4_57 hP dX4_does_495 ?_
      refine lv_iload E.1.1 E.1.2.1 dX4_does_498 (lv_at hl 4 rfl) ?_
      refine lv_iload E.1.1 E.1.2.1 dX4_does_500 (lv_at hl 3 rfl) ?_
      refine nv_iadd E dX4_does_502 ?_
      refine ld_MS_is (i := (6 * ((gmfr σ) - 1)) + (xM τ pp)) E hP (by omega) dX4_does_503 ?_
      refine lv_aload_n E.1.1 E.1.2.1 dX4_does_504 rfl (lv_at hl 8 rfl) ?_
      refine gt_X4_value E fl_X4_60 hP dX4_does_505 ?_
      refine lv_iload E.1.1 E.1.2.1 dX4_does_508 (lv_at hl 4 rfl) ?_
      refine lv_iload E.1.1 E.1.2.1 dX4_does_510 (lv_at hl 3 rfl) ?_
      refine nv_iadd E dX4_does_512 ?_
      refine ld_MS_va (i := (6 * ((gmfr σ) - 1)) + (xM τ pp)) E hP (by omega) dX4_does_513 ?_
      refine CM.callVv (n := 2) E (c_X4_answers l D cI cJ cZ ad τ (gmis τ ((6 * ((gmfr σ) - 1)) + (xM τ pp))) (gmva τ ((6 * ((gmfr σ) - 1)) + (xM τ pp))) (by omega) (by omega) hV2.2.1.2.2.2.1) ml_X4_157 im_X4_answers se_X4_answers ini_X4 co_X4_answers hd_X4_answers ⟨Nat.le_of_ble_eq_true rfl, Nat.le_of_ble_eq_true rfl⟩ ⟨Nat.le_refl _, Nat.le_refl _⟩ 0 rfl rfl hP (hD _) hS hA2 rfl hl.1 (Nat.le_of_ble_eq_true rfl) dX4_does_514 rfl (fun H locs hP hS => ?_)
      refine lv_iconst (v := nI 0) E.1.1 E.1.2.1 dX4_does_517 rfl ?_
      exact CM.reti E hr hlk hA (by unfold doF; rw [← hτ, ← hpp]; simp only [dpF, h93]; exact hP) hS (by unfold doR; rw [← hτ, ← hpp]; simp only [dpR, h93]) dX4_does_518
