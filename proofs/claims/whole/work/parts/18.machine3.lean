theorem cc_X (v : Nat) (σ : CS) : gcX (ccF v σ) = gcX σ := by
  unfold ccF
  by_cases e : v = 2
  · rw [if_pos e]; rfl
  · rw [if_neg e]
    by_cases e3 : v = 3
    · rw [if_pos e3]
    · rw [if_neg e3]; rfl
set_option maxRecDepth 100000 in
set_option maxHeartbeats 400000 in
theorem c_X0_send (l : Launch) (D : va_G) (cI cJ cZ : ClassId) (ad : Nat → Nat) (σ : CS) (pl : Nat) (ba : Nat)  (hpl : pl < 240) (hba : ba ≤ 66) (hR : RI σ) (hk : gcK σ pl = 7) : CM l D (t3 cI cJ cZ) yX0_send cX0_send 6 none 3 [.ref (ad 3), .int (nI pl), .int (nI ba)] (wC ad cI cJ cZ σ) (none) (wC ad cI cJ cZ (sdF pl ba σ)) := by
  refine CM.of (by decide) (Nat.le_of_ble_eq_true rfl) ?_
  intro p e s m below meth c A ls E hr hlk hP hD0 hA hA2 hS hl
  have hD := wC_D hD0
  have hl : lv_has ls 6 [(0, .ref (ad 3)), (1, .int (nI pl)), (2, .int (nI ba))] := hl
  refine lv_aload_n E.1.1 E.1.2.1 dX0_send_0 rfl (lv_at hl 0 rfl) ?_
  refine gt_X0_registers E fl_X0_9 hP dX0_send_1 ?_
  refine lv_iload_n E.1.1 E.1.2.1 dX0_send_4 rfl (lv_at hl 2 rfl) ?_
  refine lv_aload_n E.1.1 E.1.2.1 dX0_send_5 rfl (lv_at hl 0 rfl) ?_
  refine gt_X0_program E fl_X0_37 hP dX0_send_6 ?_
  refine lv_iload_n E.1.1 E.1.2.1 dX0_send_9 rfl (lv_at hl 1 rfl) ?_
  refine CM.callVi (n := 1) E (c_X1_y l D cI cJ cZ ad σ pl (by omega)) ml_X0_120 im_X1_y se_X1_y ini_X1 co_X1_y hd_X1_y ⟨Nat.le_of_ble_eq_true rfl, Nat.le_of_ble_eq_true rfl⟩ ⟨Nat.le_refl _, Nat.le_refl _⟩ 1 rfl rfl hP (hD _) hS hA2 rfl hl.1 (Nat.le_of_ble_eq_true rfl) dX0_send_10 rfl (fun H locs hP hS => ?_)
  refine tpi (y := nI (yN σ pl)) ((WI_y hR.1.2 (by omega)).1) ?_
  refine nv_iadd E dX0_send_13 ?_
  refine ld_CS_Rg (i := ba + (yN σ pl)) E hP (by have := (WI_y hR.1.2 (p := pl) (by omega)).2; omega) dX0_send_14 ?_
  refine lv_lstore_n (lv' := [(3, .long (vJ (gcRg σ (ba + (yN σ pl))))), (0, .ref (ad 3)), (1, .int (nI pl)), (2, .int (nI ba))]) E.1.1 E.1.2.1 dX0_send_15 rfl hl (by decide) rfl (fun ls hl => ?_)
  refine lv_lload_n E.1.1 E.1.2.1 dX0_send_16 rfl (lv_at hl 0 rfl) ?_
  refine CM.callSi (n := 1) E (c_X0_isObject l D cI cJ cZ ad σ (gcRg σ (ba + (yN σ pl))) (fun k9 hk9 => hR.2.2.2.1.1 _ k9 hk9)) ml_X0_150 st_X0_isObject ini_X0 co_X0_isObject hd_X0_isObject ⟨Nat.le_of_ble_eq_true rfl, Nat.le_of_ble_eq_true rfl⟩ ⟨Nat.le_refl _, Nat.le_refl _⟩ hP (hD _) hS hA2 rfl hl.1 (Nat.le_of_ble_eq_true rfl) dX0_send_17 rfl (fun H locs hP hS => ?_)
  refine bv_if_ne (x := objI (gcRg σ (ba + (yN σ pl)))) E dX0_send_20 (tgt := 29) (by decide) (fun h20 => ?_) (fun h20 => ?_)
  · obtain ⟨k1, hk1⟩ := objI_t h20
    have hk401 := hR.2.2.2.1.1 _ _ hk1
    have hl : lv_has ls 6 [(3, .long (vJ (.inr k1))), (0, .ref (ad 3)), (1, .int (nI pl)), (2, .int (nI ba))] := by have q9 := hl; rw [hk1] at q9; exact q9
    refine lv_aload_n E.1.1 E.1.2.1 dX0_send_29 rfl (lv_at hl 1 rfl) ?_
    refine gt_X0_program E fl_X0_37 hP dX0_send_30 ?_
    refine lv_aload_n E.1.1 E.1.2.1 dX0_send_33 rfl (lv_at hl 1 rfl) ?_
    refine gt_X0_classes E fl_X0_25 hP dX0_send_34 ?_
    refine lv_lload_n E.1.1 E.1.2.1 dX0_send_37 rfl (lv_at hl 0 rfl) ?_
    refine CM.callSi (n := 1) E (c_X0_objectOf l D cI cJ cZ ad σ (.inr k1) k1 rfl hk401) ml_X0_162 st_X0_objectOf ini_X0 co_X0_objectOf hd_X0_objectOf ⟨Nat.le_of_ble_eq_true rfl, Nat.le_of_ble_eq_true rfl⟩ ⟨Nat.le_refl _, Nat.le_refl _⟩ hP (hD _) hS hA2 rfl hl.1 (Nat.le_of_ble_eq_true rfl) dX0_send_38 rfl (fun H locs hP hS => ?_)
    refine ld_CS_Cl (i := k1) E hP (by omega) dX0_send_41 ?_
    refine lv_aload_n E.1.1 E.1.2.1 dX0_send_42 rfl (lv_at hl 1 rfl) ?_
    refine gt_X0_program E fl_X0_37 hP dX0_send_43 ?_
    refine lv_iload_n E.1.1 E.1.2.1 dX0_send_46 rfl (lv_at hl 2 rfl) ?_
    refine CM.callVi (n := 1) E (c_X1_z l D cI cJ cZ ad σ pl (by omega)) ml_X0_147 im_X1_z se_X1_z ini_X1 co_X1_z hd_X1_z ⟨Nat.le_of_ble_eq_true rfl, Nat.le_of_ble_eq_true rfl⟩ ⟨Nat.le_refl _, Nat.le_refl _⟩ 1 rfl rfl hP (hD _) hS hA2 rfl hl.1 (Nat.le_of_ble_eq_true rfl) dX0_send_47 rfl (fun H locs hP hS => ?_)
    refine tpi (y := nI (zN σ pl)) ((WI_z4 hR.1.2 hk).1) ?_
    refine CM.callVi (n := 2) E (c_X1_target l D cI cJ cZ ad σ (gcCl σ k1) (zN σ pl) (hR.2.2.1.2.2.2 k1) (WI_z4 hR.1.2 hk).2 hR.1.1) ml_X0_85 im_X1_target se_X1_target ini_X1 co_X1_target hd_X1_target ⟨Nat.le_of_ble_eq_true rfl, Nat.le_of_ble_eq_true rfl⟩ ⟨Nat.le_refl _, Nat.le_refl _⟩ 1 rfl rfl hP (hD _) hS hA2 rfl hl.1 (Nat.le_of_ble_eq_true rfl) dX0_send_50 rfl (fun H locs hP hS => ?_)
    refine W.eq (g2 := F0 m 53 ls [.int (oI (tgC σ (gcCl σ k1) (zN σ pl)))]) rfl ?_
    refine lv_istore (lv' := [(5, .int (oI (tgC σ (gcCl σ k1) (zN σ pl)))), (3, .long (vJ (.inr k1))), (0, .ref (ad 3)), (1, .int (nI pl)), (2, .int (nI ba))]) E.1.1 E.1.2.1 dX0_send_53 hl (by decide) rfl (fun ls hl => ?_)
    refine lv_iload E.1.1 E.1.2.1 dX0_send_55 (lv_at hl 0 rfl) ?_
    refine lv_iconst (v := -1) E.1.1 E.1.2.1 dX0_send_57 rfl ?_
    refine ov_m1_ne (o := (tgC σ (gcCl σ k1) (zN σ pl))) (fun j hj => by have := tgC_lt hR.1.1 (hR.2.2.1.2.2.2 k1) (WI_z4 hR.1.2 hk).2 hj; omega) E dX0_send_58 (tgt := 68) (by decide) (fun k58 h58 => ?_) (fun h58 => ?_)
    · have hk58 := tgC_lt hR.1.1 (hR.2.2.1.2.2.2 k1) (WI_z4 hR.1.2 hk).2 h58
      have hl : lv_has ls 6 [(5, .int (nI k58)), (3, .long (vJ (.inr k1))), (0, .ref (ad 3)), (1, .int (nI pl)), (2, .int (nI ba))] := by have q9 := hl; rw [h58] at q9; exact q9
      refine lv_aload_n E.1.1 E.1.2.1 dX0_send_68 rfl (lv_at hl 2 rfl) ?_
      refine gt_X0_frames E fl_X0_53 hP dX0_send_69 ?_
      refine lv_bipush (v := nI 12) E.1.1 E.1.2.1 dX0_send_72 rfl ?_
      refine nv_icmp_lt (by have := hR.2.2.2.2.2.1; omega) (by omega) E dX0_send_74 (tgt := 83) (by decide) (fun h74 => ?_) (fun h74 => ?_)
      · refine lv_aload_n E.1.1 E.1.2.1 dX0_send_83 rfl (lv_at hl 2 rfl) ?_
        refine lv_aload_n E.1.1 E.1.2.1 dX0_send_84 rfl (lv_at hl 2 rfl) ?_
        refine gt_X0_asShaped E fl_X0_45 hP dX0_send_85 ?_
        refine bv_if_eq (x := gcsh σ) E dX0_send_88 (tgt := 102) (by decide) (fun h88 => ?_) (fun h88 => ?_)
        · refine lv_iconst (v := nI 0) E.1.1 E.1.2.1 dX0_send_102 rfl ?_
          have hc9 := cc_ob (0) σ
          refine CM.callVv (n := 1) E (c_X0_countCall l D cI cJ cZ ad σ 0 (by first | exact hR.2.1 pl | exact Nat.zero_le 6)) ml_X0_166 im_X0_countCall se_X0_countCall ini_X0 co_X0_countCall hd_X0_countCall ⟨Nat.le_of_ble_eq_true rfl, Nat.le_of_ble_eq_true rfl⟩ ⟨Nat.le_refl _, Nat.le_refl _⟩ 3 rfl rfl hP (hD _) hS hA2 rfl hl.1 (Nat.le_of_ble_eq_true rfl) dX0_send_103 rfl (fun H locs hP hS => ?_)
          refine lv_aload_n E.1.1 E.1.2.1 dX0_send_106 rfl (lv_at hl 2 rfl) ?_
          refine gt_X0_answersTo E fl_X0_22 hP dX0_send_107 ?_
          refine lv_aload_n E.1.1 E.1.2.1 dX0_send_110 rfl (lv_at hl 2 rfl) ?_
          refine gt_X0_frames E fl_X0_53 hP dX0_send_111 ?_
          refine lv_iload_n E.1.1 E.1.2.1 dX0_send_114 rfl (lv_at hl 4 rfl) ?_
          refine lv_aload_n E.1.1 E.1.2.1 dX0_send_115 rfl (lv_at hl 2 rfl) ?_
          refine gt_X0_program E fl_X0_37 hP dX0_send_116 ?_
          refine lv_iload_n E.1.1 E.1.2.1 dX0_send_119 rfl (lv_at hl 3 rfl) ?_
          refine CM.callVi (n := 1) E (c_X1_x l D cI cJ cZ ad (ccF 0 σ) pl (by omega)) ml_X0_114 im_X1_x se_X1_x ini_X1 co_X1_x hd_X1_x ⟨Nat.le_of_ble_eq_true rfl, Nat.le_of_ble_eq_true rfl⟩ ⟨Nat.le_refl _, Nat.le_refl _⟩ 1 rfl rfl hP (hD _) hS hA2 rfl hl.1 (Nat.le_of_ble_eq_true rfl) dX0_send_120 rfl (fun H locs hP hS => ?_)
          refine nv_iadd E dX0_send_123 ?_
          refine as_CS_An (i := gcfr (ccF 0 σ)) (v := ba + (gcX (ccF 0 σ) pl)) E hP hD hS (by rw [hc9.2.2.1]; omega) dX0_send_124 (fun H locs hP hS => ?_)
          refine lv_aload_n E.1.1 E.1.2.1 dX0_send_125 rfl (lv_at hl 2 rfl) ?_
          refine lv_iload E.1.1 E.1.2.1 dX0_send_126 (lv_at hl 0 rfl) ?_
          refine lv_lload_n E.1.1 E.1.2.1 dX0_send_128 rfl (lv_at hl 1 rfl) ?_
          refine lv_aload_n E.1.1 E.1.2.1 dX0_send_129 rfl (lv_at hl 2 rfl) ?_
          refine gt_X0_registers E fl_X0_9 hP dX0_send_130 ?_
          refine lv_iload_n E.1.1 E.1.2.1 dX0_send_133 rfl (lv_at hl 4 rfl) ?_
          refine lv_iconst (v := nI 5) E.1.1 E.1.2.1 dX0_send_134 rfl ?_
          refine nv_iadd E dX0_send_135 ?_
          refine ld_CS_Rg (i := ba + 5) E hP (by omega) dX0_send_136 ?_
          refine tpl (y := vJ (gcRg (ccF 0 σ) (ba + 5))) (by rw [gs_Rg_An]) ?_
          refine CM.callVv (n := 3) E (c_X0_enter l D cI cJ cZ ad (scAn (ccF 0 σ) (va_up (gcAn (ccF 0 σ)) (gcfr (ccF 0 σ)) (ba + (gcX (ccF 0 σ) pl)))) k58 (.inr k1) (gcRg (ccF 0 σ) (ba + 5)) (by rw [gs_fr_An, hc9.2.2.1]; omega) (by rw [gs_Ct_An]; exact (RI_cc hR).2.2.2.2.1.2.1)) ml_X0_91 im_X0_enter se_X0_enter ini_X0 co_X0_enter hd_X0_enter ⟨Nat.le_of_ble_eq_true rfl, Nat.le_of_ble_eq_true rfl⟩ ⟨Nat.le_refl _, Nat.le_refl _⟩ 3 rfl rfl hP (hD _) hS hA2 rfl hl.1 (Nat.le_of_ble_eq_true rfl) dX0_send_137 rfl (fun H locs hP hS => ?_)
          exact CM.retv E hr hlk hA (by simp only [sdF, hk1, h58, if_neg (show ¬ 12 ≤ gcfr σ from (by omega))]; first | (simp only [h88, if_true]; rw [hc9.2.2.2.2, hc9.2.2.2.1, hc9.2.2.1, cc_X] at hP; exact hP) | (simp only [show (gcsh σ = true) = False from (by rw [h88]; simp), if_false]; rw [hc9.2.2.2.2, hc9.2.2.2.1, hc9.2.2.1, cc_X] at hP; exact hP)) hS rfl dX0_send_140
        · refine lv_aload_n E.1.1 E.1.2.1 dX0_send_91 rfl (lv_at hl 2 rfl) ?_
          refine gt_X0_shaping E fl_X0_41 hP dX0_send_92 ?_
          refine lv_iload_n E.1.1 E.1.2.1 dX0_send_95 rfl (lv_at hl 3 rfl) ?_
          refine CM.callVi (n := 1) E (c_X2_verdictAt l D cI cJ cZ ad σ pl (by omega)) ml_X0_154 im_X2_verdictAt se_X2_verdictAt ini_X2 co_X2_verdictAt hd_X2_verdictAt ⟨Nat.le_of_ble_eq_true rfl, Nat.le_of_ble_eq_true rfl⟩ ⟨Nat.le_refl _, Nat.le_refl _⟩ 2 rfl rfl hP (hD _) hS hA2 rfl hl.1 (Nat.le_of_ble_eq_true rfl) dX0_send_96 rfl (fun H locs hP hS => ?_)
          refine lv_goto (tgt := 103) E.1.1 E.1.2.1 dX0_send_99 (by decide) ?_
          have hc9 := cc_ob (gcV σ pl) σ
          refine CM.callVv (n := 1) E (c_X0_countCall l D cI cJ cZ ad σ (gcV σ pl) (by first | exact hR.2.1 pl | exact Nat.zero_le 6)) ml_X0_166 im_X0_countCall se_X0_countCall ini_X0 co_X0_countCall hd_X0_countCall ⟨Nat.le_of_ble_eq_true rfl, Nat.le_of_ble_eq_true rfl⟩ ⟨Nat.le_refl _, Nat.le_refl _⟩ 3 rfl rfl hP (hD _) hS hA2 rfl hl.1 (Nat.le_of_ble_eq_true rfl) dX0_send_103 rfl (fun H locs hP hS => ?_)
          refine lv_aload_n E.1.1 E.1.2.1 dX0_send_106 rfl (lv_at hl 2 rfl) ?_
          refine gt_X0_answersTo E fl_X0_22 hP dX0_send_107 ?_
          refine lv_aload_n E.1.1 E.1.2.1 dX0_send_110 rfl (lv_at hl 2 rfl) ?_
          refine gt_X0_frames E fl_X0_53 hP dX0_send_111 ?_
          refine lv_iload_n E.1.1 E.1.2.1 dX0_send_114 rfl (lv_at hl 4 rfl) ?_
          refine lv_aload_n E.1.1 E.1.2.1 dX0_send_115 rfl (lv_at hl 2 rfl) ?_
          refine gt_X0_program E fl_X0_37 hP dX0_send_116 ?_
          refine lv_iload_n E.1.1 E.1.2.1 dX0_send_119 rfl (lv_at hl 3 rfl) ?_
          refine CM.callVi (n := 1) E (c_X1_x l D cI cJ cZ ad (ccF (gcV σ pl) σ) pl (by omega)) ml_X0_114 im_X1_x se_X1_x ini_X1 co_X1_x hd_X1_x ⟨Nat.le_of_ble_eq_true rfl, Nat.le_of_ble_eq_true rfl⟩ ⟨Nat.le_refl _, Nat.le_refl _⟩ 1 rfl rfl hP (hD _) hS hA2 rfl hl.1 (Nat.le_of_ble_eq_true rfl) dX0_send_120 rfl (fun H locs hP hS => ?_)
          refine nv_iadd E dX0_send_123 ?_
          refine as_CS_An (i := gcfr (ccF (gcV σ pl) σ)) (v := ba + (gcX (ccF (gcV σ pl) σ) pl)) E hP hD hS (by rw [hc9.2.2.1]; omega) dX0_send_124 (fun H locs hP hS => ?_)
          refine lv_aload_n E.1.1 E.1.2.1 dX0_send_125 rfl (lv_at hl 2 rfl) ?_
          refine lv_iload E.1.1 E.1.2.1 dX0_send_126 (lv_at hl 0 rfl) ?_
          refine lv_lload_n E.1.1 E.1.2.1 dX0_send_128 rfl (lv_at hl 1 rfl) ?_
          refine lv_aload_n E.1.1 E.1.2.1 dX0_send_129 rfl (lv_at hl 2 rfl) ?_
          refine gt_X0_registers E fl_X0_9 hP dX0_send_130 ?_
          refine lv_iload_n E.1.1 E.1.2.1 dX0_send_133 rfl (lv_at hl 4 rfl) ?_
          refine lv_iconst (v := nI 5) E.1.1 E.1.2.1 dX0_send_134 rfl ?_
          refine nv_iadd E dX0_send_135 ?_
          refine ld_CS_Rg (i := ba + 5) E hP (by omega) dX0_send_136 ?_
          refine tpl (y := vJ (gcRg (ccF (gcV σ pl) σ) (ba + 5))) (by rw [gs_Rg_An]) ?_
          refine CM.callVv (n := 3) E (c_X0_enter l D cI cJ cZ ad (scAn (ccF (gcV σ pl) σ) (va_up (gcAn (ccF (gcV σ pl) σ)) (gcfr (ccF (gcV σ pl) σ)) (ba + (gcX (ccF (gcV σ pl) σ) pl)))) k58 (.inr k1) (gcRg (ccF (gcV σ pl) σ) (ba + 5)) (by rw [gs_fr_An, hc9.2.2.1]; omega) (by rw [gs_Ct_An]; exact (RI_cc hR).2.2.2.2.1.2.1)) ml_X0_91 im_X0_enter se_X0_enter ini_X0 co_X0_enter hd_X0_enter ⟨Nat.le_of_ble_eq_true rfl, Nat.le_of_ble_eq_true rfl⟩ ⟨Nat.le_refl _, Nat.le_refl _⟩ 3 rfl rfl hP (hD _) hS hA2 rfl hl.1 (Nat.le_of_ble_eq_true rfl) dX0_send_137 rfl (fun H locs hP hS => ?_)
          exact CM.retv E hr hlk hA (by simp only [sdF, hk1, h58, if_neg (show ¬ 12 ≤ gcfr σ from (by omega))]; first | (simp only [h88, if_true]; rw [hc9.2.2.2.2, hc9.2.2.2.1, hc9.2.2.1, cc_X] at hP; exact hP) | (simp only [show (gcsh σ = true) = False from (by rw [h88]; simp), if_false]; rw [hc9.2.2.2.2, hc9.2.2.2.1, hc9.2.2.1, cc_X] at hP; exact hP)) hS rfl dX0_send_140
      · refine lv_aload_n E.1.1 E.1.2.1 dX0_send_77 rfl (lv_at hl 2 rfl) ?_
        refine lv_iconst (v := nI 4) E.1.1 E.1.2.1 dX0_send_78 rfl ?_
        refine pt_X0_trap (v := 4) E fl_X0_59 hP hD hS dX0_send_79 (fun H locs hP hS => ?_)
        exact CM.retv E hr hlk hA (by simp only [sdF, hk1, h58, if_pos h74]; exact hP) hS rfl dX0_send_82
    · refine lv_aload_n E.1.1 E.1.2.1 dX0_send_61 rfl (lv_at hl 2 rfl) ?_
      refine lv_bipush (v := nI 6) E.1.1 E.1.2.1 dX0_send_62 rfl ?_
      refine pt_X0_trap (v := 6) E fl_X0_59 hP hD hS dX0_send_64 (fun H locs hP hS => ?_)
      exact CM.retv E hr hlk hA (by simp only [sdF, hk1, h58]; exact hP) hS rfl dX0_send_67
  · refine lv_aload_n E.1.1 E.1.2.1 dX0_send_23 rfl (lv_at hl 1 rfl) ?_
    refine lv_iconst (v := nI 1) E.1.1 E.1.2.1 dX0_send_24 rfl ?_
    refine pt_X0_trap (v := 1) E fl_X0_59 hP hD hS dX0_send_25 (fun H locs hP hS => ?_)
    exact CM.retv E hr hlk hA (by obtain ⟨a9, ha9⟩ := objI_f h20; simp only [sdF, ha9]; exact hP) hS rfl dX0_send_28
set_option maxRecDepth 100000 in
set_option maxHeartbeats 400000 in
theorem c_X0_perform (l : Launch) (D : va_G) (cI cJ cZ : ClassId) (ad : Nat → Nat) (σ : CS) (pl : Nat) (ba : Nat)  (hO : OI pl ba σ) : CM l D (t3 cI cJ cZ) yX0_perform cX0_perform 4 none 4 [.ref (ad 3), .int (nI pl), .int (nI ba)] (wC ad cI cJ cZ σ) (none) (wC ad cI cJ cZ (pfF pl ba σ)) := by
  refine CM.of (by decide) (Nat.le_of_ble_eq_true rfl) ?_
  intro p e s m below meth c A ls E hr hlk hP hD0 hA hA2 hS hl
  have hD := wC_D hD0
  have hl : lv_has ls 4 [(0, .ref (ad 3)), (1, .int (nI pl)), (2, .int (nI ba))] := hl
  obtain ⟨hR, hpl, hba, hfr, hob, h4o, hne⟩ := hO
  have hX := hR.1.1.2.2.2.1 pl
  refine lv_iload_n E.1.1 E.1.2.1 dX0_perform_0 rfl (lv_at hl 2 rfl) ?_
  refine lv_aload_n E.1.1 E.1.2.1 dX0_perform_1 rfl (lv_at hl 0 rfl) ?_
  refine gt_X0_program E fl_X0_37 hP dX0_perform_2 ?_
  refine lv_iload_n E.1.1 E.1.2.1 dX0_perform_5 rfl (lv_at hl 1 rfl) ?_
  refine CM.callVi (n := 1) E (c_X1_x l D cI cJ cZ ad σ pl (by omega)) ml_X0_114 im_X1_x se_X1_x ini_X1 co_X1_x hd_X1_x ⟨Nat.le_of_ble_eq_true rfl, Nat.le_of_ble_eq_true rfl⟩ ⟨Nat.le_refl _, Nat.le_refl _⟩ 1 rfl rfl hP (hD _) hS hA2 rfl hl.1 (Nat.le_of_ble_eq_true rfl) dX0_perform_6 rfl (fun H locs hP hS => ?_)
  refine nv_iadd E dX0_perform_9 ?_
  refine lv_istore_n (lv' := [(3, .int (nI (ba + (gcX σ pl)))), (0, .ref (ad 3)), (1, .int (nI pl)), (2, .int (nI ba))]) E.1.1 E.1.2.1 dX0_perform_10 rfl hl (by decide) rfl (fun ls hl => ?_)
  refine lv_aload_n E.1.1 E.1.2.1 dX0_perform_11 rfl (lv_at hl 1 rfl) ?_
  refine gt_X0_program E fl_X0_37 hP dX0_perform_12 ?_
  refine lv_iload_n E.1.1 E.1.2.1 dX0_perform_15 rfl (lv_at hl 2 rfl) ?_
  refine CM.callVi (n := 1) E (c_X1_kind l D cI cJ cZ ad σ pl (by omega)) ml_X0_117 im_X1_kind se_X1_kind ini_X1 co_X1_kind hd_X1_kind ⟨Nat.le_of_ble_eq_true rfl, Nat.le_of_ble_eq_true rfl⟩ ⟨Nat.le_refl _, Nat.le_refl _⟩ 1 rfl rfl hP (hD _) hS hA2 rfl hl.1 (Nat.le_of_ble_eq_true rfl) dX0_perform_16 rfl (fun H locs hP hS => ?_)
  rcases (show gcK σ pl = 0 ∨ gcK σ pl = 1 ∨ gcK σ pl = 2 ∨ gcK σ pl = 3 ∨ gcK σ pl = 4 ∨ gcK σ pl = 5 ∨ gcK σ pl = 6 ∨ gcK σ pl = 7 ∨ gcK σ pl = 8 ∨ gcK σ pl = 9 ∨ gcK σ pl = 10 ∨ gcK σ pl = 11 by have := hR.1.1.2.2.1 pl; omega) with h19 | h19 | h19 | h19 | h19 | h19 | h19 | h19 | h19 | h19 | h19 | h19
  · refine tpi (y := nI 0) (by rw [h19]) ?_
    refine lv_tableIn (off := 57) (tgt := 76) E.1.1 E.1.2.1 dX0_perform_19 (by decide) (by decide) (by decide) (by decide) ?_
    refine lv_aload_n E.1.1 E.1.2.1 dX0_perform_76 rfl (lv_at hl 1 rfl) ?_
    refine gt_X0_registers E fl_X0_9 hP dX0_perform_77 ?_
    refine lv_iload_n E.1.1 E.1.2.1 dX0_perform_80 rfl (lv_at hl 0 rfl) ?_
    refine lv_aload_n E.1.1 E.1.2.1 dX0_perform_81 rfl (lv_at hl 1 rfl) ?_
    refine gt_X0_program E fl_X0_37 hP dX0_perform_82 ?_
    refine lv_iload_n E.1.1 E.1.2.1 dX0_perform_85 rfl (lv_at hl 2 rfl) ?_
    refine CM.callVi (n := 1) E (c_X1_y l D cI cJ cZ ad σ pl (by omega)) ml_X0_120 im_X1_y se_X1_y ini_X1 co_X1_y hd_X1_y ⟨Nat.le_of_ble_eq_true rfl, Nat.le_of_ble_eq_true rfl⟩ ⟨Nat.le_refl _, Nat.le_refl _⟩ 1 rfl rfl hP (hD _) hS hA2 rfl hl.1 (Nat.le_of_ble_eq_true rfl) dX0_perform_86 rfl (fun H locs hP hS => ?_)
    refine lv_i2l (v := vJ (.inl (gcY σ pl))) E.1.1 E.1.2.1 dX0_perform_89 rfl ?_
    refine as_CS_Rg (i := ba + (gcX σ pl)) (v := .inl (gcY σ pl)) E hP hD hS (by omega) dX0_perform_90 (fun H locs hP hS => ?_)
    refine lv_goto (tgt := 243) E.1.1 E.1.2.1 dX0_perform_91 (by decide) ?_
    exact CM.retv E hr hlk hA (by simp only [pfF, h19]; first | exact hP | (simp only [skF, if_pos h184]; exact hP) | (simp only [skF, if_neg h184]; exact hP)) hS rfl dX0_perform_243
  · refine tpi (y := nI 1) (by rw [h19]) ?_
    refine lv_tableIn (off := 75) (tgt := 94) E.1.1 E.1.2.1 dX0_perform_19 (by decide) (by decide) (by decide) (by decide) ?_
    refine lv_aload_n E.1.1 E.1.2.1 dX0_perform_94 rfl (lv_at hl 1 rfl) ?_
    refine gt_X0_registers E fl_X0_9 hP dX0_perform_95 ?_
    refine lv_iload_n E.1.1 E.1.2.1 dX0_perform_98 rfl (lv_at hl 0 rfl) ?_
    refine lv_aload_n E.1.1 E.1.2.1 dX0_perform_99 rfl (lv_at hl 1 rfl) ?_
    refine gt_X0_registers E fl_X0_9 hP dX0_perform_100 ?_
    refine lv_iload_n E.1.1 E.1.2.1 dX0_perform_103 rfl (lv_at hl 3 rfl) ?_
    refine lv_aload_n E.1.1 E.1.2.1 dX0_perform_104 rfl (lv_at hl 1 rfl) ?_
    refine gt_X0_program E fl_X0_37 hP dX0_perform_105 ?_
    refine lv_iload_n E.1.1 E.1.2.1 dX0_perform_108 rfl (lv_at hl 2 rfl) ?_
    refine CM.callVi (n := 1) E (c_X1_y l D cI cJ cZ ad σ pl (by omega)) ml_X0_120 im_X1_y se_X1_y ini_X1 co_X1_y hd_X1_y ⟨Nat.le_of_ble_eq_true rfl, Nat.le_of_ble_eq_true rfl⟩ ⟨Nat.le_refl _, Nat.le_refl _⟩ 1 rfl rfl hP (hD _) hS hA2 rfl hl.1 (Nat.le_of_ble_eq_true rfl) dX0_perform_109 rfl (fun H locs hP hS => ?_)
    refine tpi (y := nI (yN σ pl)) ((WI_y hR.1.2 (by omega)).1) ?_
    refine nv_iadd E dX0_perform_112 ?_
    refine ld_CS_Rg (i := ba + (yN σ pl)) E hP (by have := (WI_y hR.1.2 (p := pl) (by omega)).2; omega) dX0_perform_113 ?_
    refine as_CS_Rg (i := ba + (gcX σ pl)) (v := gcRg σ (ba + (yN σ pl))) E hP hD hS (by omega) dX0_perform_114 (fun H locs hP hS => ?_)
    refine lv_goto (tgt := 243) E.1.1 E.1.2.1 dX0_perform_115 (by decide) ?_
    exact CM.retv E hr hlk hA (by simp only [pfF, h19]; first | exact hP | (simp only [skF, if_pos h184]; exact hP) | (simp only [skF, if_neg h184]; exact hP)) hS rfl dX0_perform_243
  · refine tpi (y := nI 2) (by rw [h19]) ?_
    refine lv_tableIn (off := 99) (tgt := 118) E.1.1 E.1.2.1 dX0_perform_19 (by decide) (by decide) (by decide) (by decide) ?_
    refine lv_aload_n E.1.1 E.1.2.1 dX0_perform_118 rfl (lv_at hl 1 rfl) ?_
    refine lv_iload_n E.1.1 E.1.2.1 dX0_perform_119 rfl (lv_at hl 2 rfl) ?_
    refine lv_iload_n E.1.1 E.1.2.1 dX0_perform_120 rfl (lv_at hl 3 rfl) ?_
    refine CM.callVv (n := 2) E (c_X0_reckon l D cI cJ cZ ad σ pl ba hpl hba hR (by omega)) ml_X0_123 im_X0_reckon se_X0_reckon ini_X0 co_X0_reckon hd_X0_reckon ⟨Nat.le_of_ble_eq_true rfl, Nat.le_of_ble_eq_true rfl⟩ ⟨Nat.le_refl _, Nat.le_refl _⟩ 3 rfl rfl hP (hD _) hS hA2 rfl hl.1 (Nat.le_of_ble_eq_true rfl) dX0_perform_121 rfl (fun H locs hP hS => ?_)
    refine lv_goto (tgt := 243) E.1.1 E.1.2.1 dX0_perform_124 (by decide) ?_
    exact CM.retv E hr hlk hA (by simp only [pfF, h19]; first | exact hP | (simp only [skF, if_pos h184]; exact hP) | (simp only [skF, if_neg h184]; exact hP)) hS rfl dX0_perform_243
  · refine tpi (y := nI 3) (by rw [h19]) ?_
    refine lv_tableIn (off := 99) (tgt := 118) E.1.1 E.1.2.1 dX0_perform_19 (by decide) (by decide) (by decide) (by decide) ?_
    refine lv_aload_n E.1.1 E.1.2.1 dX0_perform_118 rfl (lv_at hl 1 rfl) ?_
    refine lv_iload_n E.1.1 E.1.2.1 dX0_perform_119 rfl (lv_at hl 2 rfl) ?_
    refine lv_iload_n E.1.1 E.1.2.1 dX0_perform_120 rfl (lv_at hl 3 rfl) ?_
    refine CM.callVv (n := 2) E (c_X0_reckon l D cI cJ cZ ad σ pl ba hpl hba hR (by omega)) ml_X0_123 im_X0_reckon se_X0_reckon ini_X0 co_X0_reckon hd_X0_reckon ⟨Nat.le_of_ble_eq_true rfl, Nat.le_of_ble_eq_true rfl⟩ ⟨Nat.le_refl _, Nat.le_refl _⟩ 3 rfl rfl hP (hD _) hS hA2 rfl hl.1 (Nat.le_of_ble_eq_true rfl) dX0_perform_121 rfl (fun H locs hP hS => ?_)
    refine lv_goto (tgt := 243) E.1.1 E.1.2.1 dX0_perform_124 (by decide) ?_
    exact CM.retv E hr hlk hA (by simp only [pfF, h19]; first | exact hP | (simp only [skF, if_pos h184]; exact hP) | (simp only [skF, if_neg h184]; exact hP)) hS rfl dX0_perform_243
  · refine tpi (y := nI 4) (by rw [h19]) ?_
    refine lv_tableIn (off := 108) (tgt := 127) E.1.1 E.1.2.1 dX0_perform_19 (by decide) (by decide) (by decide) (by decide) ?_
    refine lv_aload_n E.1.1 E.1.2.1 dX0_perform_127 rfl (lv_at hl 1 rfl) ?_
    refine lv_iload_n E.1.1 E.1.2.1 dX0_perform_128 rfl (lv_at hl 2 rfl) ?_
    refine lv_iload_n E.1.1 E.1.2.1 dX0_perform_129 rfl (lv_at hl 0 rfl) ?_
    refine CM.callVv (n := 2) E (c_X0_make l D cI cJ cZ ad σ pl (ba + (gcX σ pl)) hpl (by omega) hR h19 (by omega)) ml_X0_126 im_X0_make se_X0_make ini_X0 co_X0_make hd_X0_make ⟨Nat.le_of_ble_eq_true rfl, Nat.le_of_ble_eq_true rfl⟩ ⟨Nat.le_refl _, Nat.le_refl _⟩ 3 rfl rfl hP (hD _) hS hA2 rfl hl.1 (Nat.le_of_ble_eq_true rfl) dX0_perform_130 rfl (fun H locs hP hS => ?_)
    refine lv_goto (tgt := 243) E.1.1 E.1.2.1 dX0_perform_133 (by decide) ?_
    exact CM.retv E hr hlk hA (by simp only [pfF, h19]; first | exact hP | (simp only [skF, if_pos h184]; exact hP) | (simp only [skF, if_neg h184]; exact hP)) hS rfl dX0_perform_243
  · refine tpi (y := nI 5) (by rw [h19]) ?_
    refine lv_tableIn (off := 117) (tgt := 136) E.1.1 E.1.2.1 dX0_perform_19 (by decide) (by decide) (by decide) (by decide) ?_
    refine lv_aload_n E.1.1 E.1.2.1 dX0_perform_136 rfl (lv_at hl 1 rfl) ?_
    refine lv_iload_n E.1.1 E.1.2.1 dX0_perform_137 rfl (lv_at hl 2 rfl) ?_
    refine lv_iload_n E.1.1 E.1.2.1 dX0_perform_138 rfl (lv_at hl 3 rfl) ?_
    refine CM.callVv (n := 2) E (c_X0_readField l D cI cJ cZ ad σ pl ba hpl hba hR h19) ml_X0_129 im_X0_readField se_X0_readField ini_X0 co_X0_readField hd_X0_readField ⟨Nat.le_of_ble_eq_true rfl, Nat.le_of_ble_eq_true rfl⟩ ⟨Nat.le_refl _, Nat.le_refl _⟩ 3 rfl rfl hP (hD _) hS hA2 rfl hl.1 (Nat.le_of_ble_eq_true rfl) dX0_perform_139 rfl (fun H locs hP hS => ?_)
    refine lv_goto (tgt := 243) E.1.1 E.1.2.1 dX0_perform_142 (by decide) ?_
    exact CM.retv E hr hlk hA (by simp only [pfF, h19]; first | exact hP | (simp only [skF, if_pos h184]; exact hP) | (simp only [skF, if_neg h184]; exact hP)) hS rfl dX0_perform_243
  · refine tpi (y := nI 6) (by rw [h19]) ?_
    refine lv_tableIn (off := 126) (tgt := 145) E.1.1 E.1.2.1 dX0_perform_19 (by decide) (by decide) (by decide) (by decide) ?_
    refine lv_aload_n E.1.1 E.1.2.1 dX0_perform_145 rfl (lv_at hl 1 rfl) ?_
    refine lv_iload_n E.1.1 E.1.2.1 dX0_perform_146 rfl (lv_at hl 2 rfl) ?_
    refine lv_iload_n E.1.1 E.1.2.1 dX0_perform_147 rfl (lv_at hl 3 rfl) ?_
    refine CM.callVv (n := 2) E (c_X0_writeField l D cI cJ cZ ad σ pl ba hpl hba hR h19) ml_X0_132 im_X0_writeField se_X0_writeField ini_X0 co_X0_writeField hd_X0_writeField ⟨Nat.le_of_ble_eq_true rfl, Nat.le_of_ble_eq_true rfl⟩ ⟨Nat.le_refl _, Nat.le_refl _⟩ 3 rfl rfl hP (hD _) hS hA2 rfl hl.1 (Nat.le_of_ble_eq_true rfl) dX0_perform_148 rfl (fun H locs hP hS => ?_)
    refine lv_goto (tgt := 243) E.1.1 E.1.2.1 dX0_perform_151 (by decide) ?_
    exact CM.retv E hr hlk hA (by simp only [pfF, h19]; first | exact hP | (simp only [skF, if_pos h184]; exact hP) | (simp only [skF, if_neg h184]; exact hP)) hS rfl dX0_perform_243
  · refine tpi (y := nI 7) (by rw [h19]) ?_
    refine lv_tableIn (off := 135) (tgt := 154) E.1.1 E.1.2.1 dX0_perform_19 (by decide) (by decide) (by decide) (by decide) ?_
    refine lv_aload_n E.1.1 E.1.2.1 dX0_perform_154 rfl (lv_at hl 1 rfl) ?_
    refine lv_iload_n E.1.1 E.1.2.1 dX0_perform_155 rfl (lv_at hl 2 rfl) ?_
    refine lv_iload_n E.1.1 E.1.2.1 dX0_perform_156 rfl (lv_at hl 3 rfl) ?_
    refine CM.callVv (n := 2) E (c_X0_send l D cI cJ cZ ad σ pl ba hpl hba hR h19) ml_X0_135 im_X0_send se_X0_send ini_X0 co_X0_send hd_X0_send ⟨Nat.le_of_ble_eq_true rfl, Nat.le_of_ble_eq_true rfl⟩ ⟨Nat.le_refl _, Nat.le_refl _⟩ 3 rfl rfl hP (hD _) hS hA2 rfl hl.1 (Nat.le_of_ble_eq_true rfl) dX0_perform_157 rfl (fun H locs hP hS => ?_)
    refine lv_goto (tgt := 243) E.1.1 E.1.2.1 dX0_perform_160 (by decide) ?_
    exact CM.retv E hr hlk hA (by simp only [pfF, h19]; first | exact hP | (simp only [skF, if_pos h184]; exact hP) | (simp only [skF, if_neg h184]; exact hP)) hS rfl dX0_perform_243
  · refine tpi (y := nI 8) (by rw [h19]) ?_
    refine lv_tableIn (off := 144) (tgt := 163) E.1.1 E.1.2.1 dX0_perform_19 (by decide) (by decide) (by decide) (by decide) ?_
    refine lv_aload_n E.1.1 E.1.2.1 dX0_perform_163 rfl (lv_at hl 1 rfl) ?_
    refine lv_aload_n E.1.1 E.1.2.1 dX0_perform_164 rfl (lv_at hl 1 rfl) ?_
    refine gt_X0_registers E fl_X0_9 hP dX0_perform_165 ?_
    refine lv_iload_n E.1.1 E.1.2.1 dX0_perform_168 rfl (lv_at hl 0 rfl) ?_
    refine ld_CS_Rg (i := ba + (gcX σ pl)) E hP (by omega) dX0_perform_169 ?_
    refine CM.callVv (n := 1) E (c_X0_print l D cI cJ cZ ad σ (gcRg σ (ba + (gcX σ pl))) hR (fun k9 hk9 => hR.2.2.2.1.1 _ k9 hk9)) ml_X0_138 im_X0_print se_X0_print ini_X0 co_X0_print hd_X0_print ⟨Nat.le_of_ble_eq_true rfl, Nat.le_of_ble_eq_true rfl⟩ ⟨Nat.le_refl _, Nat.le_refl _⟩ 3 rfl rfl hP (hD _) hS hA2 rfl hl.1 (Nat.le_of_ble_eq_true rfl) dX0_perform_170 rfl (fun H locs hP hS => ?_)
    refine lv_goto (tgt := 243) E.1.1 E.1.2.1 dX0_perform_173 (by decide) ?_
    exact CM.retv E hr hlk hA (by simp only [pfF, h19]; first | exact hP | (simp only [skF, if_pos h184]; exact hP) | (simp only [skF, if_neg h184]; exact hP)) hS rfl dX0_perform_243
  · refine tpi (y := nI 9) (by rw [h19]) ?_
    refine lv_tableIn (off := 157) (tgt := 176) E.1.1 E.1.2.1 dX0_perform_19 (by decide) (by decide) (by decide) (by decide) ?_
    refine lv_aload_n E.1.1 E.1.2.1 dX0_perform_176 rfl (lv_at hl 1 rfl) ?_
    refine gt_X0_registers E fl_X0_9 hP dX0_perform_177 ?_
    refine lv_iload_n E.1.1 E.1.2.1 dX0_perform_180 rfl (lv_at hl 0 rfl) ?_
    refine ld_CS_Rg (i := ba + (gcX σ pl)) E hP (by omega) dX0_perform_181 ?_
    refine lv_lconst (v := vJ (.inl 0)) E.1.1 E.1.2.1 dX0_perform_182 rfl ?_
    refine W.lcmp E.1.1 E.1.2.1 dX0_perform_183 ?_
    refine lv_if_ne (tgt := 243) E.1.1 E.1.2.1 dX0_perform_184 (by decide) (fun h184 => ?_) (fun h184 => ?_)
    · have h184 : ¬ gcRg σ (ba + gcX σ pl) = .inl 0 := fun z => h184 ((cmp_z _ (fun k9 hk9 => hR.2.2.2.1.1 _ k9 hk9)).mpr z)
      exact CM.retv E hr hlk hA (by simp only [pfF, h19]; first | exact hP | (simp only [skF, if_pos h184]; exact hP) | (simp only [skF, if_neg h184]; exact hP)) hS rfl dX0_perform_243
    · have h184 := (cmp_z _ (fun k9 hk9 => hR.2.2.2.1.1 _ k9 hk9)).mp h184
      refine lv_aload_n E.1.1 E.1.2.1 dX0_perform_187 rfl (lv_at hl 1 rfl) ?_
      refine gt_X0_nexts E fl_X0_19 hP dX0_perform_188 ?_
      refine lv_aload_n E.1.1 E.1.2.1 dX0_perform_191 rfl (lv_at hl 1 rfl) ?_
      refine gt_X0_frames E fl_X0_53 hP dX0_perform_192 ?_
      refine lv_iconst (v := nI 1) E.1.1 E.1.2.1 dX0_perform_195 rfl ?_
      refine nv_isub (by omega) E dX0_perform_196 ?_
      refine lv_dup2_11 E.1.1 E.1.2.1 dX0_perform_197 rfl rfl ?_
      refine ld_CS_Ne (i := (gcfr σ) - 1) E hP (by have := hR.2.2.2.2.2.1; omega) dX0_perform_198 ?_
      refine lv_aload_n E.1.1 E.1.2.1 dX0_perform_199 rfl (lv_at hl 1 rfl) ?_
      refine gt_X0_program E fl_X0_37 hP dX0_perform_200 ?_
      refine lv_iload_n E.1.1 E.1.2.1 dX0_perform_203 rfl (lv_at hl 2 rfl) ?_
      refine CM.callVi (n := 1) E (c_X1_y l D cI cJ cZ ad σ pl (by omega)) ml_X0_120 im_X1_y se_X1_y ini_X1 co_X1_y hd_X1_y ⟨Nat.le_of_ble_eq_true rfl, Nat.le_of_ble_eq_true rfl⟩ ⟨Nat.le_refl _, Nat.le_refl _⟩ 1 rfl rfl hP (hD _) hS hA2 rfl hl.1 (Nat.le_of_ble_eq_true rfl) dX0_perform_204 rfl (fun H locs hP hS => ?_)
      refine tpi (y := nI (yN σ pl)) ((WI_y9 hR.1.2 h19).1) ?_
      refine nv_iadd E dX0_perform_207 ?_
      refine as_CS_Ne (i := (gcfr σ) - 1) (v := (gcNe σ ((gcfr σ) - 1)) + (yN σ pl)) E hP hD hS (by have := hR.2.2.2.2.2.1; omega) dX0_perform_208 (fun H locs hP hS => ?_)
      refine lv_goto (tgt := 243) E.1.1 E.1.2.1 dX0_perform_209 (by decide) ?_
      exact CM.retv E hr hlk hA (by simp only [pfF, h19]; first | exact hP | (simp only [skF, if_pos h184]; exact hP) | (simp only [skF, if_neg h184]; exact hP)) hS rfl dX0_perform_243
  · refine tpi (y := nI 10) (by rw [h19]) ?_
    refine lv_tableIn (off := 193) (tgt := 212) E.1.1 E.1.2.1 dX0_perform_19 (by decide) (by decide) (by decide) (by decide) ?_
    refine lv_aload_n E.1.1 E.1.2.1 dX0_perform_212 rfl (lv_at hl 1 rfl) ?_
    refine lv_aload_n E.1.1 E.1.2.1 dX0_perform_213 rfl (lv_at hl 1 rfl) ?_
    refine gt_X0_registers E fl_X0_9 hP dX0_perform_214 ?_
    refine lv_iload_n E.1.1 E.1.2.1 dX0_perform_217 rfl (lv_at hl 0 rfl) ?_
    refine ld_CS_Rg (i := ba + (gcX σ pl)) E hP (by omega) dX0_perform_218 ?_
    refine lv_aload_n E.1.1 E.1.2.1 dX0_perform_219 rfl (lv_at hl 1 rfl) ?_
    refine gt_X0_program E fl_X0_37 hP dX0_perform_220 ?_
    refine lv_iload_n E.1.1 E.1.2.1 dX0_perform_223 rfl (lv_at hl 2 rfl) ?_
    refine CM.callVi (n := 1) E (c_X1_y l D cI cJ cZ ad σ pl (by omega)) ml_X0_120 im_X1_y se_X1_y ini_X1 co_X1_y hd_X1_y ⟨Nat.le_of_ble_eq_true rfl, Nat.le_of_ble_eq_true rfl⟩ ⟨Nat.le_refl _, Nat.le_refl _⟩ 1 rfl rfl hP (hD _) hS hA2 rfl hl.1 (Nat.le_of_ble_eq_true rfl) dX0_perform_224 rfl (fun H locs hP hS => ?_)
    refine tpi (y := nI (yN σ pl)) ((WI_y hR.1.2 (by omega)).1) ?_
    refine CM.callVv (n := 2) E (c_X0_checkClass l D cI cJ cZ ad σ (gcRg σ (ba + (gcX σ pl))) (yN σ pl) hR (fun k9 hk9 => hR.2.2.2.1.1 _ k9 hk9) (WI_y hR.1.2 (p := pl) (by omega)).2) ml_X0_141 im_X0_checkClass se_X0_checkClass ini_X0 co_X0_checkClass hd_X0_checkClass ⟨Nat.le_of_ble_eq_true rfl, Nat.le_of_ble_eq_true rfl⟩ ⟨Nat.le_refl _, Nat.le_refl _⟩ 3 rfl rfl hP (hD _) hS hA2 rfl hl.1 (Nat.le_of_ble_eq_true rfl) dX0_perform_227 rfl (fun H locs hP hS => ?_)
    refine lv_goto (tgt := 243) E.1.1 E.1.2.1 dX0_perform_230 (by decide) ?_
    exact CM.retv E hr hlk hA (by simp only [pfF, h19]; first | exact hP | (simp only [skF, if_pos h184]; exact hP) | (simp only [skF, if_neg h184]; exact hP)) hS rfl dX0_perform_243
  · refine tpi (y := nI 11) (by rw [h19]) ?_
    refine lv_tableOut (tgt := 233) E.1.1 E.1.2.1 dX0_perform_19 (by decide) (by decide) ?_
    refine lv_aload_n E.1.1 E.1.2.1 dX0_perform_233 rfl (lv_at hl 1 rfl) ?_
    refine lv_aload_n E.1.1 E.1.2.1 dX0_perform_234 rfl (lv_at hl 1 rfl) ?_
    refine gt_X0_registers E fl_X0_9 hP dX0_perform_235 ?_
    refine lv_iload_n E.1.1 E.1.2.1 dX0_perform_238 rfl (lv_at hl 0 rfl) ?_
    refine ld_CS_Rg (i := ba + (gcX σ pl)) E hP (by omega) dX0_perform_239 ?_
    refine CM.callVv (n := 1) E (c_X0_answer l D cI cJ cZ ad σ (gcRg σ (ba + (gcX σ pl))) hfr hR.2.2.2.2.2.1 hR.2.2.1.2.2.1) ml_X0_99 im_X0_answer se_X0_answer ini_X0 co_X0_answer hd_X0_answer ⟨Nat.le_of_ble_eq_true rfl, Nat.le_of_ble_eq_true rfl⟩ ⟨Nat.le_refl _, Nat.le_refl _⟩ 3 rfl rfl hP (hD _) hS hA2 rfl hl.1 (Nat.le_of_ble_eq_true rfl) dX0_perform_240 rfl (fun H locs hP hS => ?_)
    exact CM.retv E hr hlk hA (by simp only [pfF, h19]; first | exact hP | (simp only [skF, if_pos h184]; exact hP) | (simp only [skF, if_neg h184]; exact hP)) hS rfl dX0_perform_243
set_option maxRecDepth 100000 in
set_option maxHeartbeats 400000 in
theorem c_X0_step (l : Launch) (D : va_G) (cI cJ cZ : ClassId) (ad : Nat → Nat) (σ : CS)   (hG : GI σ) (hf : 0 < gcfr σ) (hn : gcNe σ (gcfr σ - 1) < gcL σ (gcBo σ (gcfr σ - 1))) : CM l D (t3 cI cJ cZ) yX0_step cX0_step 3 none 5 [.ref (ad 3)] (wC ad cI cJ cZ σ) (none) (wC ad cI cJ cZ (stF σ)) := by
  refine CM.of (by decide) (Nat.le_of_ble_eq_true rfl) ?_
  intro p e s m below meth c A ls E hr hlk hP hD0 hA hA2 hS hl
  have hD := wC_D hD0
  have hl : lv_has ls 3 [(0, .ref (ad 3))] := hl
  have hf12 := hG.1.2.2.2.2.2.1
  have hb9 := hG.1.2.2.1.1
  refine lv_aload_n E.1.1 E.1.2.1 dX0_step_0 rfl (lv_at hl 0 rfl) ?_
  refine gt_X0_counts E fl_X0_34 hP dX0_step_1 ?_
  refine lv_iconst (v := nI 4) E.1.1 E.1.2.1 dX0_step_4 rfl ?_
  refine ld_CS_Ct (i := 4) E hP (by omega) dX0_step_5 ?_
  refine lv_sipush (v := nI 400) E.1.1 E.1.2.1 dX0_step_6 rfl ?_
  refine nv_icmp_lt (by have := hG.1.2.2.2.2.1.2.2.1; omega) (by omega) E dX0_step_9 (tgt := 18) (by decide) (fun h9 => ?_) (fun h9 => ?_)
  · refine lv_aload_n E.1.1 E.1.2.1 dX0_step_18 rfl (lv_at hl 0 rfl) ?_
    refine gt_X0_counts E fl_X0_34 hP dX0_step_19 ?_
    refine lv_iconst (v := nI 4) E.1.1 E.1.2.1 dX0_step_22 rfl ?_
    refine lv_dup2_11 E.1.1 E.1.2.1 dX0_step_23 rfl rfl ?_
    refine ld_CS_Ct (i := 4) E hP (by omega) dX0_step_24 ?_
    refine lv_iconst (v := nI 1) E.1.1 E.1.2.1 dX0_step_25 rfl ?_
    refine nv_iadd E dX0_step_26 ?_
    refine as_CS_Ct (i := 4) (v := (gcCt σ 4) + 1) E hP hD hS (by omega) dX0_step_27 (fun H locs hP hS => ?_)
    refine lv_aload_n E.1.1 E.1.2.1 dX0_step_28 rfl (lv_at hl 0 rfl) ?_
    refine gt_X0_frames E fl_X0_53 hP dX0_step_29 ?_
    refine tpi (y := nI (gcfr σ)) (by rw [gs_fr_Ct]) ?_
    refine lv_iconst (v := nI 1) E.1.1 E.1.2.1 dX0_step_32 rfl ?_
    refine nv_isub (by omega) E dX0_step_33 ?_
    refine lv_istore_n (lv' := [(1, .int (nI ((gcfr σ) - 1))), (0, .ref (ad 3))]) E.1.1 E.1.2.1 dX0_step_34 rfl hl (by decide) rfl (fun ls hl => ?_)
    refine lv_aload_n E.1.1 E.1.2.1 dX0_step_35 rfl (lv_at hl 1 rfl) ?_
    refine gt_X0_bodies E fl_X0_15 hP dX0_step_36 ?_
    refine lv_iload_n E.1.1 E.1.2.1 dX0_step_39 rfl (lv_at hl 0 rfl) ?_
    refine ld_CS_Bo (i := (gcfr σ) - 1) E hP (by omega) dX0_step_40 ?_
    refine tpi (y := nI (gcBo σ ((gcfr σ) - 1))) (by rw [gs_Bo_Ct]) ?_
    refine lv_aload_n E.1.1 E.1.2.1 dX0_step_41 rfl (lv_at hl 1 rfl) ?_
    refine gt_X0_nexts E fl_X0_19 hP dX0_step_42 ?_
    refine lv_iload_n E.1.1 E.1.2.1 dX0_step_45 rfl (lv_at hl 0 rfl) ?_
    refine ld_CS_Ne (i := (gcfr σ) - 1) E hP (by omega) dX0_step_46 ?_
    refine tpi (y := nI (gcNe σ ((gcfr σ) - 1))) (by rw [gs_Ne_Ct]) ?_
    refine CM.callSi (n := 2) E (c_X1_placeOf l D cI cJ cZ ad (scCt σ (va_up (gcCt σ) 4 ((gcCt σ 4) + 1))) (gcBo σ ((gcfr σ) - 1)) (gcNe σ ((gcfr σ) - 1))) ml_X0_107 st_X1_placeOf ini_X1 co_X1_placeOf hd_X1_placeOf ⟨Nat.le_of_ble_eq_true rfl, Nat.le_of_ble_eq_true rfl⟩ ⟨Nat.le_refl _, Nat.le_refl _⟩ hP (hD _) hS hA2 rfl hl.1 (Nat.le_of_ble_eq_true rfl) dX0_step_47 rfl (fun H locs hP hS => ?_)
    refine lv_istore_n (lv' := [(2, .int (nI ((gcBo σ ((gcfr σ) - 1)) * 10 + (gcNe σ ((gcfr σ) - 1))))), (1, .int (nI ((gcfr σ) - 1))), (0, .ref (ad 3))]) E.1.1 E.1.2.1 dX0_step_50 rfl hl (by decide) rfl (fun ls hl => ?_)
    refine lv_aload_n E.1.1 E.1.2.1 dX0_step_51 rfl (lv_at hl 2 rfl) ?_
    refine gt_X0_nexts E fl_X0_19 hP dX0_step_52 ?_
    refine lv_iload_n E.1.1 E.1.2.1 dX0_step_55 rfl (lv_at hl 1 rfl) ?_
    refine lv_dup2_11 E.1.1 E.1.2.1 dX0_step_56 rfl rfl ?_
    refine ld_CS_Ne (i := (gcfr σ) - 1) E hP (by omega) dX0_step_57 ?_
    refine tpi (y := nI (gcNe σ ((gcfr σ) - 1))) (by rw [gs_Ne_Ct]) ?_
    refine lv_iconst (v := nI 1) E.1.1 E.1.2.1 dX0_step_58 rfl ?_
    refine nv_iadd E dX0_step_59 ?_
    refine as_CS_Ne (i := (gcfr σ) - 1) (v := (gcNe σ ((gcfr σ) - 1)) + 1) E hP hD hS (by omega) dX0_step_60 (fun H locs hP hS => ?_)
    have hP : va_P D vwCl (wC ad cI cJ cZ (scNe (scCt σ (va_up (gcCt σ) 4 ((gcCt σ 4) + 1))) (va_up (gcNe σ) ((gcfr σ) - 1) ((gcNe σ ((gcfr σ) - 1)) + 1)))) H := by have q9 := hP; rw [gs_Ne_Ct] at q9; exact q9
    refine lv_aload_n E.1.1 E.1.2.1 dX0_step_61 rfl (lv_at hl 2 rfl) ?_
    refine lv_iload_n E.1.1 E.1.2.1 dX0_step_62 rfl (lv_at hl 0 rfl) ?_
    refine lv_iload_n E.1.1 E.1.2.1 dX0_step_63 rfl (lv_at hl 1 rfl) ?_
    refine lv_bipush (v := nI 6) E.1.1 E.1.2.1 dX0_step_64 rfl ?_
    refine nv_imul E dX0_step_66 ?_
    refine CM.callVv (n := 2) E (c_X0_perform l D cI cJ cZ ad (scNe (scCt σ (va_up (gcCt σ) 4 ((gcCt σ 4) + 1))) (va_up (gcNe σ) ((gcfr σ) - 1) ((gcNe σ ((gcfr σ) - 1)) + 1))) ((gcBo σ ((gcfr σ) - 1)) * 10 + (gcNe σ ((gcfr σ) - 1))) (((gcfr σ) - 1) * 6) (OI_st hG hf hn (by omega))) ml_X0_110 im_X0_perform se_X0_perform ini_X0 co_X0_perform hd_X0_perform ⟨Nat.le_of_ble_eq_true rfl, Nat.le_of_ble_eq_true rfl⟩ ⟨Nat.le_refl _, Nat.le_refl _⟩ 3 rfl rfl hP (hD _) hS hA2 rfl hl.1 (Nat.le_of_ble_eq_true rfl) dX0_step_67 rfl (fun H locs hP hS => ?_)
    exact CM.retv E hr hlk hA (by unfold stF; rw [if_neg (by omega)]; exact hP) hS rfl dX0_step_70
  · refine lv_aload_n E.1.1 E.1.2.1 dX0_step_12 rfl (lv_at hl 0 rfl) ?_
    refine lv_iconst (v := nI 5) E.1.1 E.1.2.1 dX0_step_13 rfl ?_
    refine pt_X0_trap (v := 5) E fl_X0_59 hP hD hS dX0_step_14 (fun H locs hP hS => ?_)
    exact CM.retv E hr hlk hA (by unfold stF; rw [if_pos h9]; exact hP) hS rfl dX0_step_17
