set_option maxRecDepth 100000 in
set_option maxHeartbeats 400000 in
theorem c_X0_tally (l : Launch) (D : va_G) (cI cJ cZ : ClassId) (ad : Nat → Nat) (σ : CS) (i : Nat)  (hi : i < 6) : CM l D (t3 cI cJ cZ) yX0_tally cX0_tally 2 (some .int) 0 [.ref (ad 3), .int (nI i)] (wC ad cI cJ cZ σ) (some (.int (nI (gcCt σ i)))) (wC ad cI cJ cZ σ) := by
  refine CM.of (by decide) (Nat.le_of_ble_eq_true rfl) ?_
  intro p e s m below meth c A ls E hr hlk hP hD0 hA hA2 hS hl
  have hD := wC_D hD0
  have hl : lv_has ls 2 [(0, .ref (ad 3)), (1, .int (nI i))] := hl
  refine lv_aload_n E.1.1 E.1.2.1 dX0_tally_0 rfl (lv_at hl 0 rfl) ?_
  refine gt_X0_counts E fl_X0_34 hP dX0_tally_1 ?_
  refine lv_iload_n E.1.1 E.1.2.1 dX0_tally_4 rfl (lv_at hl 1 rfl) ?_
  refine ld_CS_Ct (i := i) E hP (by omega) dX0_tally_5 ?_
  exact CM.reti E hr hlk hA hP hS rfl dX0_tally_6
set_option maxRecDepth 100000 in
set_option maxHeartbeats 400000 in
theorem c_X0_valuePutOut (l : Launch) (D : va_G) (cI cJ cZ : ClassId) (ad : Nat → Nat) (σ : CS) (i : Nat)  (hi : i < 40) : CM l D (t3 cI cJ cZ) yX0_valuePutOut cX0_valuePutOut 2 (some .int) 0 [.ref (ad 3), .int (nI i)] (wC ad cI cJ cZ σ) (some (.int (gcPo σ i))) (wC ad cI cJ cZ σ) := by
  refine CM.of (by decide) (Nat.le_of_ble_eq_true rfl) ?_
  intro p e s m below meth c A ls E hr hlk hP hD0 hA hA2 hS hl
  have hD := wC_D hD0
  have hl : lv_has ls 2 [(0, .ref (ad 3)), (1, .int (nI i))] := hl
  refine lv_aload_n E.1.1 E.1.2.1 dX0_valuePutOut_0 rfl (lv_at hl 0 rfl) ?_
  refine gt_X0_putOut E fl_X0_31 hP dX0_valuePutOut_1 ?_
  refine lv_iload_n E.1.1 E.1.2.1 dX0_valuePutOut_4 rfl (lv_at hl 1 rfl) ?_
  refine ld_CS_Po (i := i) E hP (by omega) dX0_valuePutOut_5 ?_
  exact CM.reti E hr hlk hA hP hS rfl dX0_valuePutOut_6
set_option maxRecDepth 100000 in
set_option maxHeartbeats 400000 in
theorem c_X0_isObject (l : Launch) (D : va_G) (cI cJ cZ : ClassId) (ad : Nat → Nat) (σ : CS) (v : Val)  (hv : ∀ k, v = .inr k → k < 401) : CM l D (t3 cI cJ cZ) yX0_isObject cX0_isObject 2 (some .boolean) 0 [.long (vJ v)] (wC ad cI cJ cZ σ) (some (.int (bI (objI v)))) (wC ad cI cJ cZ σ) := by
  refine CM.of (by decide) (Nat.le_of_ble_eq_true rfl) ?_
  intro p e s m below meth c A ls E hr hlk hP hD0 hA hA2 hS hl
  have hD := wC_D hD0
  have hl : lv_has ls 2 [(0, .long (vJ v))] := hl
  refine lv_lload_n E.1.1 E.1.2.1 dX0_isObject_0 rfl (lv_at hl 0 rfl) ?_
  refine lv_ldc2 E.1.1 E.1.2.1 E.1.2.2.2.1 (E.1.2.2.2.2 _ (List.mem_cons_of_mem _ kl_X0_145)) dX0_isObject_1 ?_
  refine W.lcmp E.1.1 E.1.2.1 dX0_isObject_4 ?_
  refine lv_if_lt (tgt := 12) E.1.1 E.1.2.1 dX0_isObject_5 (by decide) (fun h5 => ?_) (fun h5 => ?_)
  · refine lv_iconst (v := nI 0) E.1.1 E.1.2.1 dX0_isObject_12 rfl ?_
    exact CM.retz E hr hlk hA hP hS (er_f (by first | exact (cmp_obj hv).mp h5 | exact ts_nf9 (fun z => h5 ((cmp_obj hv).mpr z)))) rfl dX0_isObject_13
  · refine lv_iconst (v := nI 1) E.1.1 E.1.2.1 dX0_isObject_8 rfl ?_
    refine lv_goto (tgt := 13) E.1.1 E.1.2.1 dX0_isObject_9 (by decide) ?_
    exact CM.retz E hr hlk hA hP hS (er_t (by first | exact (cmp_obj hv).mp h5 | exact ts_nf9 (fun z => h5 ((cmp_obj hv).mpr z)))) rfl dX0_isObject_13
set_option maxRecDepth 100000 in
set_option maxHeartbeats 400000 in
theorem c_X0_objectOf (l : Launch) (D : va_G) (cI cJ cZ : ClassId) (ad : Nat → Nat) (σ : CS) (v : Val) (k : Nat) (hv : v = .inr k) (hk : k < 401) : CM l D (t3 cI cJ cZ) yX0_objectOf cX0_objectOf 2 (some .int) 0 [.long (vJ v)] (wC ad cI cJ cZ σ) (some (.int (nI k))) (wC ad cI cJ cZ σ) := by
  refine CM.of (by decide) (Nat.le_of_ble_eq_true rfl) ?_
  intro p e s m below meth c A ls E hr hlk hP hD0 hA hA2 hS hl
  have hD := wC_D hD0
  have hl : lv_has ls 2 [(0, .long (vJ v))] := hl
  refine lv_lload_n E.1.1 E.1.2.1 dX0_objectOf_0 rfl (lv_at hl 0 rfl) ?_
  refine lv_ldc2 E.1.1 E.1.2.1 E.1.2.2.2.1 (E.1.2.2.2.2 _ (List.mem_cons_of_mem _ kl_X0_145)) dX0_objectOf_1 ?_
  refine lv_lsub E.1.1 E.1.2.1 dX0_objectOf_4 ?_
  refine lv_l2i (v := ((vJ v) - 4294967296).toInt32) E.1.1 E.1.2.1 dX0_objectOf_5 rfl ?_
  exact CM.reti E hr hlk hA hP hS (by subst hv; rw [sub_obj hk]) dX0_objectOf_6
set_option maxRecDepth 100000 in
set_option maxHeartbeats 400000 in
theorem c_X0_countCall (l : Launch) (D : va_G) (cI cJ cZ : ClassId) (ad : Nat → Nat) (σ : CS) (v : Nat)  (hv : v ≤ 6) : CM l D (t3 cI cJ cZ) yX0_countCall cX0_countCall 2 none 0 [.ref (ad 3), .int (nI v)] (wC ad cI cJ cZ σ) (none) (wC ad cI cJ cZ (ccF v σ)) := by
  refine CM.of (by decide) (Nat.le_of_ble_eq_true rfl) ?_
  intro p e s m below meth c A ls E hr hlk hP hD0 hA hA2 hS hl
  have hD := wC_D hD0
  have hl : lv_has ls 2 [(0, .ref (ad 3)), (1, .int (nI v))] := hl
  refine lv_iload_n E.1.1 E.1.2.1 dX0_countCall_0 rfl (lv_at hl 1 rfl) ?_
  refine lv_iconst (v := nI 2) E.1.1 E.1.2.1 dX0_countCall_1 rfl ?_
  refine nv_icmp_eq (by omega) (by omega) E dX0_countCall_2 (tgt := 20) (by decide) (fun h2 => ?_) (fun h2 => ?_)
  · refine lv_iload_n E.1.1 E.1.2.1 dX0_countCall_20 rfl (lv_at hl 1 rfl) ?_
    refine lv_iconst (v := nI 3) E.1.1 E.1.2.1 dX0_countCall_21 rfl ?_
    refine nv_icmp_eq (by omega) (by omega) E dX0_countCall_22 (tgt := 35) (by decide) (fun h22 => ?_) (fun h22 => ?_)
    · exact CM.retv E hr hlk hA (by unfold ccF; first | (exfalso; omega) | (rw [if_pos h2]; exact hP) | (rw [if_neg h2, if_pos h7]; exact hP) | (rw [if_neg h2, if_neg h7]; exact hP)) hS rfl dX0_countCall_35
    · refine lv_aload_n E.1.1 E.1.2.1 dX0_countCall_25 rfl (lv_at hl 0 rfl) ?_
      refine gt_X0_counts E fl_X0_34 hP dX0_countCall_26 ?_
      refine lv_iconst (v := nI 3) E.1.1 E.1.2.1 dX0_countCall_29 rfl ?_
      refine lv_dup2_11 E.1.1 E.1.2.1 dX0_countCall_30 rfl rfl ?_
      refine ld_CS_Ct (i := 3) E hP (by omega) dX0_countCall_31 ?_
      refine lv_iconst (v := nI 1) E.1.1 E.1.2.1 dX0_countCall_32 rfl ?_
      refine nv_iadd E dX0_countCall_33 ?_
      refine as_CS_Ct (i := 3) (v := (gcCt σ 3) + 1) E hP hD hS (by omega) dX0_countCall_34 (fun H locs hP hS => ?_)
      exact CM.retv E hr hlk hA (by unfold ccF; first | (exfalso; omega) | (rw [if_pos h2]; exact hP) | (rw [if_neg h2, if_pos h7]; exact hP) | (rw [if_neg h2, if_neg h7]; exact hP)) hS rfl dX0_countCall_35
  · refine lv_iload_n E.1.1 E.1.2.1 dX0_countCall_5 rfl (lv_at hl 1 rfl) ?_
    refine lv_iconst (v := nI 3) E.1.1 E.1.2.1 dX0_countCall_6 rfl ?_
    refine nv_icmp_eq (by omega) (by omega) E dX0_countCall_7 (tgt := 20) (by decide) (fun h7 => ?_) (fun h7 => ?_)
    · refine lv_iload_n E.1.1 E.1.2.1 dX0_countCall_20 rfl (lv_at hl 1 rfl) ?_
      refine lv_iconst (v := nI 3) E.1.1 E.1.2.1 dX0_countCall_21 rfl ?_
      refine nv_icmp_eq (by omega) (by omega) E dX0_countCall_22 (tgt := 35) (by decide) (fun h22 => ?_) (fun h22 => ?_)
      · exact CM.retv E hr hlk hA (by unfold ccF; first | (exfalso; omega) | (rw [if_pos h2]; exact hP) | (rw [if_neg h2, if_pos h7]; exact hP) | (rw [if_neg h2, if_neg h7]; exact hP)) hS rfl dX0_countCall_35
      · refine lv_aload_n E.1.1 E.1.2.1 dX0_countCall_25 rfl (lv_at hl 0 rfl) ?_
        refine gt_X0_counts E fl_X0_34 hP dX0_countCall_26 ?_
        refine lv_iconst (v := nI 3) E.1.1 E.1.2.1 dX0_countCall_29 rfl ?_
        refine lv_dup2_11 E.1.1 E.1.2.1 dX0_countCall_30 rfl rfl ?_
        refine ld_CS_Ct (i := 3) E hP (by omega) dX0_countCall_31 ?_
        refine lv_iconst (v := nI 1) E.1.1 E.1.2.1 dX0_countCall_32 rfl ?_
        refine nv_iadd E dX0_countCall_33 ?_
        refine as_CS_Ct (i := 3) (v := (gcCt σ 3) + 1) E hP hD hS (by omega) dX0_countCall_34 (fun H locs hP hS => ?_)
        exact CM.retv E hr hlk hA (by unfold ccF; first | (exfalso; omega) | (rw [if_pos h2]; exact hP) | (rw [if_neg h2, if_pos h7]; exact hP) | (rw [if_neg h2, if_neg h7]; exact hP)) hS rfl dX0_countCall_35
    · refine lv_aload_n E.1.1 E.1.2.1 dX0_countCall_10 rfl (lv_at hl 0 rfl) ?_
      refine gt_X0_counts E fl_X0_34 hP dX0_countCall_11 ?_
      refine lv_iconst (v := nI 2) E.1.1 E.1.2.1 dX0_countCall_14 rfl ?_
      refine lv_dup2_11 E.1.1 E.1.2.1 dX0_countCall_15 rfl rfl ?_
      refine ld_CS_Ct (i := 2) E hP (by omega) dX0_countCall_16 ?_
      refine lv_iconst (v := nI 1) E.1.1 E.1.2.1 dX0_countCall_17 rfl ?_
      refine nv_iadd E dX0_countCall_18 ?_
      refine as_CS_Ct (i := 2) (v := (gcCt σ 2) + 1) E hP hD hS (by omega) dX0_countCall_19 (fun H locs hP hS => ?_)
      refine lv_iload_n E.1.1 E.1.2.1 dX0_countCall_20 rfl (lv_at hl 1 rfl) ?_
      refine lv_iconst (v := nI 3) E.1.1 E.1.2.1 dX0_countCall_21 rfl ?_
      refine nv_icmp_eq (by omega) (by omega) E dX0_countCall_22 (tgt := 35) (by decide) (fun h22 => ?_) (fun h22 => ?_)
      · exact CM.retv E hr hlk hA (by unfold ccF; first | (exfalso; omega) | (rw [if_pos h2]; exact hP) | (rw [if_neg h2, if_pos h7]; exact hP) | (rw [if_neg h2, if_neg h7]; exact hP)) hS rfl dX0_countCall_35
      · refine lv_aload_n E.1.1 E.1.2.1 dX0_countCall_25 rfl (lv_at hl 0 rfl) ?_
        refine gt_X0_counts E fl_X0_34 hP dX0_countCall_26 ?_
        refine lv_iconst (v := nI 3) E.1.1 E.1.2.1 dX0_countCall_29 rfl ?_
        refine lv_dup2_11 E.1.1 E.1.2.1 dX0_countCall_30 rfl rfl ?_
        refine ld_CS_Ct (i := 3) E hP (by omega) dX0_countCall_31 ?_
        refine tpi (y := nI ((va_up (gcCt σ) 2 ((gcCt σ 2) + 1)) 3)) (by rw [gs_Ct_Ct]) ?_
        refine lv_iconst (v := nI 1) E.1.1 E.1.2.1 dX0_countCall_32 rfl ?_
        refine nv_iadd E dX0_countCall_33 ?_
        refine as_CS_Ct (i := 3) (v := ((va_up (gcCt σ) 2 ((gcCt σ 2) + 1)) 3) + 1) E hP hD hS (by omega) dX0_countCall_34 (fun H locs hP hS => ?_)
        have hP : va_P D vwCl (wC ad cI cJ cZ (scCt σ (va_up (va_up (gcCt σ) 2 ((gcCt σ 2) + 1)) 3 (((va_up (gcCt σ) 2 ((gcCt σ 2) + 1)) 3) + 1)))) H := by have q9 := hP; rw [ss_Ct, gs_Ct_Ct] at q9; exact q9
        exact CM.retv E hr hlk hA (by unfold ccF; first | (exfalso; omega) | (rw [if_pos h2]; exact hP) | (rw [if_neg h2, if_pos h7]; exact hP) | (rw [if_neg h2, if_neg h7]; exact hP)) hS rfl dX0_countCall_35
set_option maxRecDepth 100000 in
set_option maxHeartbeats 400000 in
theorem c_X0_answer (l : Launch) (D : va_G) (cI cJ cZ : ClassId) (ad : Nat → Nat) (σ : CS) (v : Val)  (hf : 0 < gcfr σ) (hf2 : gcfr σ ≤ 12) (hA9 : ∀ i, gcAn σ i < 72) : CM l D (t3 cI cJ cZ) yX0_answer cX0_answer 3 none 0 [.ref (ad 3), .long (vJ v)] (wC ad cI cJ cZ σ) (none) (wC ad cI cJ cZ (anF v σ)) := by
  refine CM.of (by decide) (Nat.le_of_ble_eq_true rfl) ?_
  intro p e s m below meth c A ls E hr hlk hP hD0 hA hA2 hS hl
  have hD := wC_D hD0
  have hl : lv_has ls 3 [(0, .ref (ad 3)), (1, .long (vJ v))] := hl
  refine lv_aload_n E.1.1 E.1.2.1 dX0_answer_0 rfl (lv_at hl 0 rfl) ?_
  refine lv_dup E.1.1 E.1.2.1 dX0_answer_1 rfl ?_
  refine gt_X0_frames E fl_X0_53 hP dX0_answer_2 ?_
  refine lv_iconst (v := nI 1) E.1.1 E.1.2.1 dX0_answer_5 rfl ?_
  refine nv_isub (by omega) E dX0_answer_6 ?_
  refine pt_X0_frames (v := (gcfr σ) - 1) E fl_X0_53 hP hD hS dX0_answer_7 (fun H locs hP hS => ?_)
  refine lv_aload_n E.1.1 E.1.2.1 dX0_answer_10 rfl (lv_at hl 0 rfl) ?_
  refine gt_X0_frames E fl_X0_53 hP dX0_answer_11 ?_
  refine tpi (y := nI ((gcfr σ) - 1)) (by rw [gs_fr_fr]) ?_
  refine nv_if_le (by omega) E dX0_answer_14 (tgt := 32) (by decide) (fun h14 => ?_) (fun h14 => ?_)
  · exact CM.retv E hr hlk hA (by unfold anF; first | (rw [if_pos h14]; exact hP) | (rw [if_neg (by omega)]; exact hP)) hS rfl dX0_answer_32
  · refine lv_aload_n E.1.1 E.1.2.1 dX0_answer_17 rfl (lv_at hl 0 rfl) ?_
    refine gt_X0_registers E fl_X0_9 hP dX0_answer_18 ?_
    refine lv_aload_n E.1.1 E.1.2.1 dX0_answer_21 rfl (lv_at hl 0 rfl) ?_
    refine gt_X0_answersTo E fl_X0_22 hP dX0_answer_22 ?_
    refine lv_aload_n E.1.1 E.1.2.1 dX0_answer_25 rfl (lv_at hl 0 rfl) ?_
    refine gt_X0_frames E fl_X0_53 hP dX0_answer_26 ?_
    refine tpi (y := nI ((gcfr σ) - 1)) (by rw [gs_fr_fr]) ?_
    refine ld_CS_An (i := (gcfr σ) - 1) E hP (by omega) dX0_answer_29 ?_
    refine tpi (y := nI (gcAn σ ((gcfr σ) - 1))) (by rw [gs_An_fr]) ?_
    refine lv_lload_n E.1.1 E.1.2.1 dX0_answer_30 rfl (lv_at hl 1 rfl) ?_
    refine as_CS_Rg (i := gcAn σ ((gcfr σ) - 1)) (v := v) E hP hD hS (hA9 _) dX0_answer_31 (fun H locs hP hS => ?_)
    have hP : va_P D vwCl (wC ad cI cJ cZ (scRg (scfr σ ((gcfr σ) - 1)) (va_up (gcRg σ) (gcAn σ ((gcfr σ) - 1)) v))) H := by have q9 := hP; rw [gs_Rg_fr] at q9; exact q9
    exact CM.retv E hr hlk hA (by unfold anF; first | (rw [if_pos h14]; exact hP) | (rw [if_neg (by omega)]; exact hP)) hS rfl dX0_answer_32
set_option maxRecDepth 100000 in
set_option maxHeartbeats 400000 in
theorem c_X0_reckon (l : Launch) (D : va_G) (cI cJ cZ : ClassId) (ad : Nat → Nat) (σ : CS) (pl : Nat) (ba : Nat)  (hpl : pl < 240) (hba : ba ≤ 66) (hR : RI σ) (hk : gcK σ pl = 2 ∨ gcK σ pl = 3) : CM l D (t3 cI cJ cZ) yX0_reckon cX0_reckon 7 none 1 [.ref (ad 3), .int (nI pl), .int (nI ba)] (wC ad cI cJ cZ σ) (none) (wC ad cI cJ cZ (rkF pl ba σ)) := by
  refine CM.of (by decide) (Nat.le_of_ble_eq_true rfl) ?_
  intro p e s m below meth c A ls E hr hlk hP hD0 hA hA2 hS hl
  have hD := wC_D hD0
  have hl : lv_has ls 7 [(0, .ref (ad 3)), (1, .int (nI pl)), (2, .int (nI ba))] := hl
  refine lv_aload_n E.1.1 E.1.2.1 dX0_reckon_0 rfl (lv_at hl 0 rfl) ?_
  refine gt_X0_registers E fl_X0_9 hP dX0_reckon_1 ?_
  refine lv_iload_n E.1.1 E.1.2.1 dX0_reckon_4 rfl (lv_at hl 2 rfl) ?_
  refine lv_aload_n E.1.1 E.1.2.1 dX0_reckon_5 rfl (lv_at hl 0 rfl) ?_
  refine gt_X0_program E fl_X0_37 hP dX0_reckon_6 ?_
  refine lv_iload_n E.1.1 E.1.2.1 dX0_reckon_9 rfl (lv_at hl 1 rfl) ?_
  refine CM.callVi (n := 1) E (c_X1_y l D cI cJ cZ ad σ pl (by omega)) ml_X0_120 im_X1_y se_X1_y ini_X1 co_X1_y hd_X1_y ⟨Nat.le_of_ble_eq_true rfl, Nat.le_of_ble_eq_true rfl⟩ ⟨Nat.le_refl _, Nat.le_refl _⟩ 1 rfl rfl hP (hD _) hS hA2 rfl hl.1 (Nat.le_of_ble_eq_true rfl) dX0_reckon_10 rfl (fun H locs hP hS => ?_)
  refine tpi (y := nI (yN σ pl)) ((WI_y hR.1.2 (by omega)).1) ?_
  refine nv_iadd E dX0_reckon_13 ?_
  refine ld_CS_Rg (i := ba + (yN σ pl)) E hP (by have := (WI_y hR.1.2 (p := pl) (by omega)).2; omega) dX0_reckon_14 ?_
  refine lv_lstore_n (lv' := [(3, .long (vJ (gcRg σ (ba + (yN σ pl))))), (0, .ref (ad 3)), (1, .int (nI pl)), (2, .int (nI ba))]) E.1.1 E.1.2.1 dX0_reckon_15 rfl hl (by decide) rfl (fun ls hl => ?_)
  refine lv_aload_n E.1.1 E.1.2.1 dX0_reckon_16 rfl (lv_at hl 1 rfl) ?_
  refine gt_X0_registers E fl_X0_9 hP dX0_reckon_17 ?_
  refine lv_iload_n E.1.1 E.1.2.1 dX0_reckon_20 rfl (lv_at hl 3 rfl) ?_
  refine lv_aload_n E.1.1 E.1.2.1 dX0_reckon_21 rfl (lv_at hl 1 rfl) ?_
  refine gt_X0_program E fl_X0_37 hP dX0_reckon_22 ?_
  refine lv_iload_n E.1.1 E.1.2.1 dX0_reckon_25 rfl (lv_at hl 2 rfl) ?_
  refine CM.callVi (n := 1) E (c_X1_z l D cI cJ cZ ad σ pl (by omega)) ml_X0_147 im_X1_z se_X1_z ini_X1 co_X1_z hd_X1_z ⟨Nat.le_of_ble_eq_true rfl, Nat.le_of_ble_eq_true rfl⟩ ⟨Nat.le_refl _, Nat.le_refl _⟩ 1 rfl rfl hP (hD _) hS hA2 rfl hl.1 (Nat.le_of_ble_eq_true rfl) dX0_reckon_26 rfl (fun H locs hP hS => ?_)
  refine tpi (y := nI (zN σ pl)) ((WI_z6 hR.1.2 hk).1) ?_
  refine nv_iadd E dX0_reckon_29 ?_
  refine ld_CS_Rg (i := ba + (zN σ pl)) E hP (by have := (WI_z6 hR.1.2 hk).2; omega) dX0_reckon_30 ?_
  refine lv_lstore (lv' := [(5, .long (vJ (gcRg σ (ba + (zN σ pl))))), (3, .long (vJ (gcRg σ (ba + (yN σ pl))))), (0, .ref (ad 3)), (1, .int (nI pl)), (2, .int (nI ba))]) E.1.1 E.1.2.1 dX0_reckon_31 hl (by decide) rfl (fun ls hl => ?_)
  refine lv_lload_n E.1.1 E.1.2.1 dX0_reckon_33 rfl (lv_at hl 1 rfl) ?_
  refine CM.callSi (n := 1) E (c_X0_isObject l D cI cJ cZ ad σ (gcRg σ (ba + (yN σ pl))) (fun k9 hk9 => hR.2.2.2.1.1 _ k9 hk9)) ml_X0_150 st_X0_isObject ini_X0 co_X0_isObject hd_X0_isObject ⟨Nat.le_of_ble_eq_true rfl, Nat.le_of_ble_eq_true rfl⟩ ⟨Nat.le_refl _, Nat.le_refl _⟩ hP (hD _) hS hA2 rfl hl.1 (Nat.le_of_ble_eq_true rfl) dX0_reckon_34 rfl (fun H locs hP hS => ?_)
  refine bv_if_ne (x := objI (gcRg σ (ba + (yN σ pl)))) E dX0_reckon_37 (tgt := 48) (by decide) (fun h37 => ?_) (fun h37 => ?_)
  · refine lv_aload_n E.1.1 E.1.2.1 dX0_reckon_48 rfl (lv_at hl 2 rfl) ?_
    refine lv_iconst (v := nI 1) E.1.1 E.1.2.1 dX0_reckon_49 rfl ?_
    refine pt_X0_trap (v := 1) E fl_X0_59 hP hD hS dX0_reckon_50 (fun H locs hP hS => ?_)
    refine lv_goto (tgt := 120) E.1.1 E.1.2.1 dX0_reckon_53 (by decide) ?_
    exact CM.retv E hr hlk hA (by first | (obtain ⟨k9, hk9⟩ := objI_t h37; simp only [rkF, hk9]; exact hP) | (obtain ⟨k9, hk9⟩ := objI_t h45; simp only [rkF, ha1, hk9]; exact hP) | (simp only [rkF, ha1, ha2, if_pos h65]; exact hP) | (simp only [rkF, ha1, ha2, if_neg h65, if_pos h111]; exact hP) | (simp only [rkF, ha1, ha2, if_neg h65, if_neg h111]; exact hP)) hS rfl dX0_reckon_120
  · obtain ⟨a1, ha1⟩ := objI_f h37
    have hl : lv_has ls 7 [(5, .long (vJ (gcRg σ (ba + (zN σ pl))))), (3, .long (vJ (.inl a1))), (0, .ref (ad 3)), (1, .int (nI pl)), (2, .int (nI ba))] := by have q9 := hl; rw [ha1] at q9; exact q9
    refine lv_lload E.1.1 E.1.2.1 dX0_reckon_40 (lv_at hl 0 rfl) ?_
    refine CM.callSi (n := 1) E (c_X0_isObject l D cI cJ cZ ad σ (gcRg σ (ba + (zN σ pl))) (fun k9 hk9 => hR.2.2.2.1.1 _ k9 hk9)) ml_X0_150 st_X0_isObject ini_X0 co_X0_isObject hd_X0_isObject ⟨Nat.le_of_ble_eq_true rfl, Nat.le_of_ble_eq_true rfl⟩ ⟨Nat.le_refl _, Nat.le_refl _⟩ hP (hD _) hS hA2 rfl hl.1 (Nat.le_of_ble_eq_true rfl) dX0_reckon_42 rfl (fun H locs hP hS => ?_)
    refine bv_if_eq (x := objI (gcRg σ (ba + (zN σ pl)))) E dX0_reckon_45 (tgt := 56) (by decide) (fun h45 => ?_) (fun h45 => ?_)
    · obtain ⟨a2, ha2⟩ := objI_f h45
      have hl : lv_has ls 7 [(5, .long (vJ (.inl a2))), (3, .long (vJ (.inl a1))), (0, .ref (ad 3)), (1, .int (nI pl)), (2, .int (nI ba))] := by have q9 := hl; rw [ha2] at q9; exact q9
      refine lv_aload_n E.1.1 E.1.2.1 dX0_reckon_56 rfl (lv_at hl 2 rfl) ?_
      refine gt_X0_program E fl_X0_37 hP dX0_reckon_57 ?_
      refine lv_iload_n E.1.1 E.1.2.1 dX0_reckon_60 rfl (lv_at hl 3 rfl) ?_
      refine CM.callVi (n := 1) E (c_X1_kind l D cI cJ cZ ad σ pl (by omega)) ml_X0_117 im_X1_kind se_X1_kind ini_X1 co_X1_kind hd_X1_kind ⟨Nat.le_of_ble_eq_true rfl, Nat.le_of_ble_eq_true rfl⟩ ⟨Nat.le_refl _, Nat.le_refl _⟩ 1 rfl rfl hP (hD _) hS hA2 rfl hl.1 (Nat.le_of_ble_eq_true rfl) dX0_reckon_61 rfl (fun H locs hP hS => ?_)
      refine lv_iconst (v := nI 2) E.1.1 E.1.2.1 dX0_reckon_64 rfl ?_
      refine nv_icmp_ne (by omega) (by omega) E dX0_reckon_65 (tgt := 93) (by decide) (fun h65 => ?_) (fun h65 => ?_)
      · refine lv_aload_n E.1.1 E.1.2.1 dX0_reckon_93 rfl (lv_at hl 2 rfl) ?_
        refine gt_X0_registers E fl_X0_9 hP dX0_reckon_94 ?_
        refine lv_iload_n E.1.1 E.1.2.1 dX0_reckon_97 rfl (lv_at hl 4 rfl) ?_
        refine lv_aload_n E.1.1 E.1.2.1 dX0_reckon_98 rfl (lv_at hl 2 rfl) ?_
        refine gt_X0_program E fl_X0_37 hP dX0_reckon_99 ?_
        refine lv_iload_n E.1.1 E.1.2.1 dX0_reckon_102 rfl (lv_at hl 3 rfl) ?_
        refine CM.callVi (n := 1) E (c_X1_x l D cI cJ cZ ad σ pl (by omega)) ml_X0_114 im_X1_x se_X1_x ini_X1 co_X1_x hd_X1_x ⟨Nat.le_of_ble_eq_true rfl, Nat.le_of_ble_eq_true rfl⟩ ⟨Nat.le_refl _, Nat.le_refl _⟩ 1 rfl rfl hP (hD _) hS hA2 rfl hl.1 (Nat.le_of_ble_eq_true rfl) dX0_reckon_103 rfl (fun H locs hP hS => ?_)
        refine nv_iadd E dX0_reckon_106 ?_
        refine lv_lload_n E.1.1 E.1.2.1 dX0_reckon_107 rfl (lv_at hl 1 rfl) ?_
        refine lv_lload E.1.1 E.1.2.1 dX0_reckon_108 (lv_at hl 0 rfl) ?_
        refine W.lcmp E.1.1 E.1.2.1 dX0_reckon_110 ?_
        refine lv_if_ge (tgt := 118) E.1.1 E.1.2.1 dX0_reckon_111 (by decide) (fun h111 => ?_) (fun h111 => ?_)
        · have h111 := (cmp_ll a1 a2).mp h111
          refine lv_lconst (v := vJ (.inl 0)) E.1.1 E.1.2.1 dX0_reckon_118 rfl ?_
          refine as_CS_Rg (i := ba + (gcX σ pl)) (v := (.inl 0)) E hP hD hS (by have := hR.1.1.2.2.2.1 pl; omega) dX0_reckon_119 (fun H locs hP hS => ?_)
          exact CM.retv E hr hlk hA (by first | (obtain ⟨k9, hk9⟩ := objI_t h37; simp only [rkF, hk9]; exact hP) | (obtain ⟨k9, hk9⟩ := objI_t h45; simp only [rkF, ha1, hk9]; exact hP) | (simp only [rkF, ha1, ha2, if_pos h65]; exact hP) | (simp only [rkF, ha1, ha2, if_neg h65, if_pos h111]; exact hP) | (simp only [rkF, ha1, ha2, if_neg h65, if_neg h111]; exact hP)) hS rfl dX0_reckon_120
        · have h111 := Decidable.not_not.mp (fun z => h111 ((cmp_ll a1 a2).mpr z))
          refine lv_lconst (v := vJ (.inl 1)) E.1.1 E.1.2.1 dX0_reckon_114 rfl ?_
          refine lv_goto (tgt := 119) E.1.1 E.1.2.1 dX0_reckon_115 (by decide) ?_
          refine as_CS_Rg (i := ba + (gcX σ pl)) (v := (.inl 1)) E hP hD hS (by have := hR.1.1.2.2.2.1 pl; omega) dX0_reckon_119 (fun H locs hP hS => ?_)
          exact CM.retv E hr hlk hA (by first | (obtain ⟨k9, hk9⟩ := objI_t h37; simp only [rkF, hk9]; exact hP) | (obtain ⟨k9, hk9⟩ := objI_t h45; simp only [rkF, ha1, hk9]; exact hP) | (simp only [rkF, ha1, ha2, if_pos h65]; exact hP) | (simp only [rkF, ha1, ha2, if_neg h65, if_pos h111]; exact hP) | (simp only [rkF, ha1, ha2, if_neg h65, if_neg h111]; exact hP)) hS rfl dX0_reckon_120
      · refine lv_aload_n E.1.1 E.1.2.1 dX0_reckon_68 rfl (lv_at hl 2 rfl) ?_
        refine gt_X0_registers E fl_X0_9 hP dX0_reckon_69 ?_
        refine lv_iload_n E.1.1 E.1.2.1 dX0_reckon_72 rfl (lv_at hl 4 rfl) ?_
        refine lv_aload_n E.1.1 E.1.2.1 dX0_reckon_73 rfl (lv_at hl 2 rfl) ?_
        refine gt_X0_program E fl_X0_37 hP dX0_reckon_74 ?_
        refine lv_iload_n E.1.1 E.1.2.1 dX0_reckon_77 rfl (lv_at hl 3 rfl) ?_
        refine CM.callVi (n := 1) E (c_X1_x l D cI cJ cZ ad σ pl (by omega)) ml_X0_114 im_X1_x se_X1_x ini_X1 co_X1_x hd_X1_x ⟨Nat.le_of_ble_eq_true rfl, Nat.le_of_ble_eq_true rfl⟩ ⟨Nat.le_refl _, Nat.le_refl _⟩ 1 rfl rfl hP (hD _) hS hA2 rfl hl.1 (Nat.le_of_ble_eq_true rfl) dX0_reckon_78 rfl (fun H locs hP hS => ?_)
        refine nv_iadd E dX0_reckon_81 ?_
        refine lv_lload_n E.1.1 E.1.2.1 dX0_reckon_82 rfl (lv_at hl 1 rfl) ?_
        refine lv_l2i (v := (vJ (.inl a1)).toInt32) E.1.1 E.1.2.1 dX0_reckon_83 rfl ?_
        refine tpi (y := a1) (l2i_l a1) ?_
        refine lv_lload E.1.1 E.1.2.1 dX0_reckon_84 (lv_at hl 0 rfl) ?_
        refine lv_l2i (v := (vJ (.inl a2)).toInt32) E.1.1 E.1.2.1 dX0_reckon_86 rfl ?_
        refine tpi (y := a2) (l2i_l a2) ?_
        refine lv_iadd E.1.1 E.1.2.1 dX0_reckon_87 ?_
        refine lv_i2l (v := vJ (.inl (a1 + a2))) E.1.1 E.1.2.1 dX0_reckon_88 rfl ?_
        refine as_CS_Rg (i := ba + (gcX σ pl)) (v := .inl (a1 + a2)) E hP hD hS (by have := hR.1.1.2.2.2.1 pl; omega) dX0_reckon_89 (fun H locs hP hS => ?_)
        refine lv_goto (tgt := 120) E.1.1 E.1.2.1 dX0_reckon_90 (by decide) ?_
        exact CM.retv E hr hlk hA (by first | (obtain ⟨k9, hk9⟩ := objI_t h37; simp only [rkF, hk9]; exact hP) | (obtain ⟨k9, hk9⟩ := objI_t h45; simp only [rkF, ha1, hk9]; exact hP) | (simp only [rkF, ha1, ha2, if_pos h65]; exact hP) | (simp only [rkF, ha1, ha2, if_neg h65, if_pos h111]; exact hP) | (simp only [rkF, ha1, ha2, if_neg h65, if_neg h111]; exact hP)) hS rfl dX0_reckon_120
    · refine lv_aload_n E.1.1 E.1.2.1 dX0_reckon_48 rfl (lv_at hl 2 rfl) ?_
      refine lv_iconst (v := nI 1) E.1.1 E.1.2.1 dX0_reckon_49 rfl ?_
      refine pt_X0_trap (v := 1) E fl_X0_59 hP hD hS dX0_reckon_50 (fun H locs hP hS => ?_)
      refine lv_goto (tgt := 120) E.1.1 E.1.2.1 dX0_reckon_53 (by decide) ?_
      exact CM.retv E hr hlk hA (by first | (obtain ⟨k9, hk9⟩ := objI_t h37; simp only [rkF, hk9]; exact hP) | (obtain ⟨k9, hk9⟩ := objI_t h45; simp only [rkF, ha1, hk9]; exact hP) | (simp only [rkF, ha1, ha2, if_pos h65]; exact hP) | (simp only [rkF, ha1, ha2, if_neg h65, if_pos h111]; exact hP) | (simp only [rkF, ha1, ha2, if_neg h65, if_neg h111]; exact hP)) hS rfl dX0_reckon_120
set_option maxRecDepth 100000 in
set_option maxHeartbeats 400000 in
theorem c_X0_readField (l : Launch) (D : va_G) (cI cJ cZ : ClassId) (ad : Nat → Nat) (σ : CS) (pl : Nat) (ba : Nat)  (hpl : pl < 240) (hba : ba ≤ 66) (hR : RI σ) (hk : gcK σ pl = 5) : CM l D (t3 cI cJ cZ) yX0_readField cX0_readField 5 none 1 [.ref (ad 3), .int (nI pl), .int (nI ba)] (wC ad cI cJ cZ σ) (none) (wC ad cI cJ cZ (rfF pl ba σ)) := by
  refine CM.of (by decide) (Nat.le_of_ble_eq_true rfl) ?_
  intro p e s m below meth c A ls E hr hlk hP hD0 hA hA2 hS hl
  have hD := wC_D hD0
  have hl : lv_has ls 5 [(0, .ref (ad 3)), (1, .int (nI pl)), (2, .int (nI ba))] := hl
  refine lv_aload_n E.1.1 E.1.2.1 dX0_readField_0 rfl (lv_at hl 0 rfl) ?_
  refine gt_X0_registers E fl_X0_9 hP dX0_readField_1 ?_
  refine lv_iload_n E.1.1 E.1.2.1 dX0_readField_4 rfl (lv_at hl 2 rfl) ?_
  refine lv_aload_n E.1.1 E.1.2.1 dX0_readField_5 rfl (lv_at hl 0 rfl) ?_
  refine gt_X0_program E fl_X0_37 hP dX0_readField_6 ?_
  refine lv_iload_n E.1.1 E.1.2.1 dX0_readField_9 rfl (lv_at hl 1 rfl) ?_
  refine CM.callVi (n := 1) E (c_X1_y l D cI cJ cZ ad σ pl (by omega)) ml_X0_120 im_X1_y se_X1_y ini_X1 co_X1_y hd_X1_y ⟨Nat.le_of_ble_eq_true rfl, Nat.le_of_ble_eq_true rfl⟩ ⟨Nat.le_refl _, Nat.le_refl _⟩ 1 rfl rfl hP (hD _) hS hA2 rfl hl.1 (Nat.le_of_ble_eq_true rfl) dX0_readField_10 rfl (fun H locs hP hS => ?_)
  refine tpi (y := nI (yN σ pl)) ((WI_y hR.1.2 (by omega)).1) ?_
  refine nv_iadd E dX0_readField_13 ?_
  refine ld_CS_Rg (i := ba + (yN σ pl)) E hP (by have := (WI_y hR.1.2 (p := pl) (by omega)).2; omega) dX0_readField_14 ?_
  refine lv_lstore_n (lv' := [(3, .long (vJ (gcRg σ (ba + (yN σ pl))))), (0, .ref (ad 3)), (1, .int (nI pl)), (2, .int (nI ba))]) E.1.1 E.1.2.1 dX0_readField_15 rfl hl (by decide) rfl (fun ls hl => ?_)
  refine lv_lload_n E.1.1 E.1.2.1 dX0_readField_16 rfl (lv_at hl 0 rfl) ?_
  refine CM.callSi (n := 1) E (c_X0_isObject l D cI cJ cZ ad σ (gcRg σ (ba + (yN σ pl))) (fun k9 hk9 => hR.2.2.2.1.1 _ k9 hk9)) ml_X0_150 st_X0_isObject ini_X0 co_X0_isObject hd_X0_isObject ⟨Nat.le_of_ble_eq_true rfl, Nat.le_of_ble_eq_true rfl⟩ ⟨Nat.le_refl _, Nat.le_refl _⟩ hP (hD _) hS hA2 rfl hl.1 (Nat.le_of_ble_eq_true rfl) dX0_readField_17 rfl (fun H locs hP hS => ?_)
  refine bv_if_eq (x := objI (gcRg σ (ba + (yN σ pl)))) E dX0_readField_20 (tgt := 61) (by decide) (fun h20 => ?_) (fun h20 => ?_)
  · refine lv_aload_n E.1.1 E.1.2.1 dX0_readField_61 rfl (lv_at hl 1 rfl) ?_
    refine lv_iconst (v := nI 1) E.1.1 E.1.2.1 dX0_readField_62 rfl ?_
    refine pt_X0_trap (v := 1) E fl_X0_59 hP hD hS dX0_readField_63 (fun H locs hP hS => ?_)
    exact CM.retv E hr hlk hA (by first | (obtain ⟨a9, ha9⟩ := objI_f h20; simp only [rfF, ha9]; exact hP) | (simp only [rfF, hk1]; exact hP)) hS rfl dX0_readField_66
  · obtain ⟨k1, hk1⟩ := objI_t h20
    have hk401 := hR.2.2.2.1.1 _ _ hk1
    have hl : lv_has ls 5 [(3, .long (vJ (.inr k1))), (0, .ref (ad 3)), (1, .int (nI pl)), (2, .int (nI ba))] := by have q9 := hl; rw [hk1] at q9; exact q9
    refine lv_aload_n E.1.1 E.1.2.1 dX0_readField_23 rfl (lv_at hl 1 rfl) ?_
    refine gt_X0_registers E fl_X0_9 hP dX0_readField_24 ?_
    refine lv_iload_n E.1.1 E.1.2.1 dX0_readField_27 rfl (lv_at hl 3 rfl) ?_
    refine lv_aload_n E.1.1 E.1.2.1 dX0_readField_28 rfl (lv_at hl 1 rfl) ?_
    refine gt_X0_program E fl_X0_37 hP dX0_readField_29 ?_
    refine lv_iload_n E.1.1 E.1.2.1 dX0_readField_32 rfl (lv_at hl 2 rfl) ?_
    refine CM.callVi (n := 1) E (c_X1_x l D cI cJ cZ ad σ pl (by omega)) ml_X0_114 im_X1_x se_X1_x ini_X1 co_X1_x hd_X1_x ⟨Nat.le_of_ble_eq_true rfl, Nat.le_of_ble_eq_true rfl⟩ ⟨Nat.le_refl _, Nat.le_refl _⟩ 1 rfl rfl hP (hD _) hS hA2 rfl hl.1 (Nat.le_of_ble_eq_true rfl) dX0_readField_33 rfl (fun H locs hP hS => ?_)
    refine nv_iadd E dX0_readField_36 ?_
    refine lv_aload_n E.1.1 E.1.2.1 dX0_readField_37 rfl (lv_at hl 1 rfl) ?_
    refine gt_X0_fields E fl_X0_28 hP dX0_readField_38 ?_
    refine lv_lload_n E.1.1 E.1.2.1 dX0_readField_41 rfl (lv_at hl 0 rfl) ?_
    refine CM.callSi (n := 1) E (c_X0_objectOf l D cI cJ cZ ad σ (.inr k1) k1 rfl hk401) ml_X0_162 st_X0_objectOf ini_X0 co_X0_objectOf hd_X0_objectOf ⟨Nat.le_of_ble_eq_true rfl, Nat.le_of_ble_eq_true rfl⟩ ⟨Nat.le_refl _, Nat.le_refl _⟩ hP (hD _) hS hA2 rfl hl.1 (Nat.le_of_ble_eq_true rfl) dX0_readField_42 rfl (fun H locs hP hS => ?_)
    refine lv_iconst (v := nI 3) E.1.1 E.1.2.1 dX0_readField_45 rfl ?_
    refine nv_imul E dX0_readField_46 ?_
    refine lv_aload_n E.1.1 E.1.2.1 dX0_readField_47 rfl (lv_at hl 1 rfl) ?_
    refine gt_X0_program E fl_X0_37 hP dX0_readField_48 ?_
    refine lv_iload_n E.1.1 E.1.2.1 dX0_readField_51 rfl (lv_at hl 2 rfl) ?_
    refine CM.callVi (n := 1) E (c_X1_z l D cI cJ cZ ad σ pl (by omega)) ml_X0_147 im_X1_z se_X1_z ini_X1 co_X1_z hd_X1_z ⟨Nat.le_of_ble_eq_true rfl, Nat.le_of_ble_eq_true rfl⟩ ⟨Nat.le_refl _, Nat.le_refl _⟩ 1 rfl rfl hP (hD _) hS hA2 rfl hl.1 (Nat.le_of_ble_eq_true rfl) dX0_readField_52 rfl (fun H locs hP hS => ?_)
    refine tpi (y := nI (zN σ pl)) ((WI_z3 hR.1.2 (by omega)).1) ?_
    refine nv_iadd E dX0_readField_55 ?_
    refine ld_CS_Fl (i := (k1 * 3) + (zN σ pl)) E hP (by have := (WI_z3 hR.1.2 (p := pl) (by omega)).2; omega) dX0_readField_56 ?_
    refine as_CS_Rg (i := ba + (gcX σ pl)) (v := gcFl σ ((k1 * 3) + (zN σ pl))) E hP hD hS (by have := hR.1.1.2.2.2.1 pl; omega) dX0_readField_57 (fun H locs hP hS => ?_)
    refine lv_goto (tgt := 66) E.1.1 E.1.2.1 dX0_readField_58 (by decide) ?_
    exact CM.retv E hr hlk hA (by first | (obtain ⟨a9, ha9⟩ := objI_f h20; simp only [rfF, ha9]; exact hP) | (simp only [rfF, hk1]; exact hP)) hS rfl dX0_readField_66
set_option maxRecDepth 100000 in
set_option maxHeartbeats 400000 in
theorem c_X0_writeField (l : Launch) (D : va_G) (cI cJ cZ : ClassId) (ad : Nat → Nat) (σ : CS) (pl : Nat) (ba : Nat)  (hpl : pl < 240) (hba : ba ≤ 66) (hR : RI σ) (hk : gcK σ pl = 6) : CM l D (t3 cI cJ cZ) yX0_writeField cX0_writeField 5 none 1 [.ref (ad 3), .int (nI pl), .int (nI ba)] (wC ad cI cJ cZ σ) (none) (wC ad cI cJ cZ (wfF2 pl ba σ)) := by
  refine CM.of (by decide) (Nat.le_of_ble_eq_true rfl) ?_
  intro p e s m below meth c A ls E hr hlk hP hD0 hA hA2 hS hl
  have hD := wC_D hD0
  have hl : lv_has ls 5 [(0, .ref (ad 3)), (1, .int (nI pl)), (2, .int (nI ba))] := hl
  refine lv_aload_n E.1.1 E.1.2.1 dX0_writeField_0 rfl (lv_at hl 0 rfl) ?_
  refine gt_X0_registers E fl_X0_9 hP dX0_writeField_1 ?_
  refine lv_iload_n E.1.1 E.1.2.1 dX0_writeField_4 rfl (lv_at hl 2 rfl) ?_
  refine lv_aload_n E.1.1 E.1.2.1 dX0_writeField_5 rfl (lv_at hl 0 rfl) ?_
  refine gt_X0_program E fl_X0_37 hP dX0_writeField_6 ?_
  refine lv_iload_n E.1.1 E.1.2.1 dX0_writeField_9 rfl (lv_at hl 1 rfl) ?_
  refine CM.callVi (n := 1) E (c_X1_x l D cI cJ cZ ad σ pl (by omega)) ml_X0_114 im_X1_x se_X1_x ini_X1 co_X1_x hd_X1_x ⟨Nat.le_of_ble_eq_true rfl, Nat.le_of_ble_eq_true rfl⟩ ⟨Nat.le_refl _, Nat.le_refl _⟩ 1 rfl rfl hP (hD _) hS hA2 rfl hl.1 (Nat.le_of_ble_eq_true rfl) dX0_writeField_10 rfl (fun H locs hP hS => ?_)
  refine nv_iadd E dX0_writeField_13 ?_
  refine ld_CS_Rg (i := ba + (gcX σ pl)) E hP (by have := hR.1.1.2.2.2.1 pl; omega) dX0_writeField_14 ?_
  refine lv_lstore_n (lv' := [(3, .long (vJ (gcRg σ (ba + (gcX σ pl))))), (0, .ref (ad 3)), (1, .int (nI pl)), (2, .int (nI ba))]) E.1.1 E.1.2.1 dX0_writeField_15 rfl hl (by decide) rfl (fun ls hl => ?_)
  refine lv_lload_n E.1.1 E.1.2.1 dX0_writeField_16 rfl (lv_at hl 0 rfl) ?_
  refine CM.callSi (n := 1) E (c_X0_isObject l D cI cJ cZ ad σ (gcRg σ (ba + (gcX σ pl))) (fun k9 hk9 => hR.2.2.2.1.1 _ k9 hk9)) ml_X0_150 st_X0_isObject ini_X0 co_X0_isObject hd_X0_isObject ⟨Nat.le_of_ble_eq_true rfl, Nat.le_of_ble_eq_true rfl⟩ ⟨Nat.le_refl _, Nat.le_refl _⟩ hP (hD _) hS hA2 rfl hl.1 (Nat.le_of_ble_eq_true rfl) dX0_writeField_17 rfl (fun H locs hP hS => ?_)
  refine bv_if_eq (x := objI (gcRg σ (ba + (gcX σ pl)))) E dX0_writeField_20 (tgt := 61) (by decide) (fun h20 => ?_) (fun h20 => ?_)
  · refine lv_aload_n E.1.1 E.1.2.1 dX0_writeField_61 rfl (lv_at hl 1 rfl) ?_
    refine lv_iconst (v := nI 1) E.1.1 E.1.2.1 dX0_writeField_62 rfl ?_
    refine pt_X0_trap (v := 1) E fl_X0_59 hP hD hS dX0_writeField_63 (fun H locs hP hS => ?_)
    exact CM.retv E hr hlk hA (by first | (obtain ⟨a9, ha9⟩ := objI_f h20; simp only [wfF2, ha9]; exact hP) | (simp only [wfF2, hk1]; exact hP)) hS rfl dX0_writeField_66
  · obtain ⟨k1, hk1⟩ := objI_t h20
    have hk401 := hR.2.2.2.1.1 _ _ hk1
    have hl : lv_has ls 5 [(3, .long (vJ (.inr k1))), (0, .ref (ad 3)), (1, .int (nI pl)), (2, .int (nI ba))] := by have q9 := hl; rw [hk1] at q9; exact q9
    refine lv_aload_n E.1.1 E.1.2.1 dX0_writeField_23 rfl (lv_at hl 1 rfl) ?_
    refine gt_X0_fields E fl_X0_28 hP dX0_writeField_24 ?_
    refine lv_lload_n E.1.1 E.1.2.1 dX0_writeField_27 rfl (lv_at hl 0 rfl) ?_
    refine CM.callSi (n := 1) E (c_X0_objectOf l D cI cJ cZ ad σ (.inr k1) k1 rfl hk401) ml_X0_162 st_X0_objectOf ini_X0 co_X0_objectOf hd_X0_objectOf ⟨Nat.le_of_ble_eq_true rfl, Nat.le_of_ble_eq_true rfl⟩ ⟨Nat.le_refl _, Nat.le_refl _⟩ hP (hD _) hS hA2 rfl hl.1 (Nat.le_of_ble_eq_true rfl) dX0_writeField_28 rfl (fun H locs hP hS => ?_)
    refine lv_iconst (v := nI 3) E.1.1 E.1.2.1 dX0_writeField_31 rfl ?_
    refine nv_imul E dX0_writeField_32 ?_
    refine lv_aload_n E.1.1 E.1.2.1 dX0_writeField_33 rfl (lv_at hl 1 rfl) ?_
    refine gt_X0_program E fl_X0_37 hP dX0_writeField_34 ?_
    refine lv_iload_n E.1.1 E.1.2.1 dX0_writeField_37 rfl (lv_at hl 2 rfl) ?_
    refine CM.callVi (n := 1) E (c_X1_z l D cI cJ cZ ad σ pl (by omega)) ml_X0_147 im_X1_z se_X1_z ini_X1 co_X1_z hd_X1_z ⟨Nat.le_of_ble_eq_true rfl, Nat.le_of_ble_eq_true rfl⟩ ⟨Nat.le_refl _, Nat.le_refl _⟩ 1 rfl rfl hP (hD _) hS hA2 rfl hl.1 (Nat.le_of_ble_eq_true rfl) dX0_writeField_38 rfl (fun H locs hP hS => ?_)
    refine tpi (y := nI (zN σ pl)) ((WI_z3 hR.1.2 (by omega)).1) ?_
    refine nv_iadd E dX0_writeField_41 ?_
    refine lv_aload_n E.1.1 E.1.2.1 dX0_writeField_42 rfl (lv_at hl 1 rfl) ?_
    refine gt_X0_registers E fl_X0_9 hP dX0_writeField_43 ?_
    refine lv_iload_n E.1.1 E.1.2.1 dX0_writeField_46 rfl (lv_at hl 3 rfl) ?_
    refine lv_aload_n E.1.1 E.1.2.1 dX0_writeField_47 rfl (lv_at hl 1 rfl) ?_
    refine gt_X0_program E fl_X0_37 hP dX0_writeField_48 ?_
    refine lv_iload_n E.1.1 E.1.2.1 dX0_writeField_51 rfl (lv_at hl 2 rfl) ?_
    refine CM.callVi (n := 1) E (c_X1_y l D cI cJ cZ ad σ pl (by omega)) ml_X0_120 im_X1_y se_X1_y ini_X1 co_X1_y hd_X1_y ⟨Nat.le_of_ble_eq_true rfl, Nat.le_of_ble_eq_true rfl⟩ ⟨Nat.le_refl _, Nat.le_refl _⟩ 1 rfl rfl hP (hD _) hS hA2 rfl hl.1 (Nat.le_of_ble_eq_true rfl) dX0_writeField_52 rfl (fun H locs hP hS => ?_)
    refine tpi (y := nI (yN σ pl)) ((WI_y hR.1.2 (by omega)).1) ?_
    refine nv_iadd E dX0_writeField_55 ?_
    refine ld_CS_Rg (i := ba + (yN σ pl)) E hP (by have := (WI_y hR.1.2 (p := pl) (by omega)).2; omega) dX0_writeField_56 ?_
    refine as_CS_Fl (i := (k1 * 3) + (zN σ pl)) (v := gcRg σ (ba + (yN σ pl))) E hP hD hS (by have := (WI_z3 hR.1.2 (p := pl) (by omega)).2; omega) dX0_writeField_57 (fun H locs hP hS => ?_)
    refine lv_goto (tgt := 66) E.1.1 E.1.2.1 dX0_writeField_58 (by decide) ?_
    exact CM.retv E hr hlk hA (by first | (obtain ⟨a9, ha9⟩ := objI_f h20; simp only [wfF2, ha9]; exact hP) | (simp only [wfF2, hk1]; exact hP)) hS rfl dX0_writeField_66
set_option maxRecDepth 100000 in
set_option maxHeartbeats 400000 in
theorem c_X0_print (l : Launch) (D : va_G) (cI cJ cZ : ClassId) (ad : Nat → Nat) (σ : CS) (v : Val)  (hR : RI σ) (hv : ∀ k, v = .inr k → k < 401) : CM l D (t3 cI cJ cZ) yX0_print cX0_print 4 none 1 [.ref (ad 3), .long (vJ v)] (wC ad cI cJ cZ σ) (none) (wC ad cI cJ cZ (prF v σ)) := by
  refine CM.of (by decide) (Nat.le_of_ble_eq_true rfl) ?_
  intro p e s m below meth c A ls E hr hlk hP hD0 hA hA2 hS hl
  have hD := wC_D hD0
  have hl : lv_has ls 4 [(0, .ref (ad 3)), (1, .long (vJ v))] := hl
  refine lv_aload_n E.1.1 E.1.2.1 dX0_print_0 rfl (lv_at hl 0 rfl) ?_
  refine gt_X0_counts E fl_X0_34 hP dX0_print_1 ?_
  refine lv_iconst (v := nI 0) E.1.1 E.1.2.1 dX0_print_4 rfl ?_
  refine ld_CS_Ct (i := 0) E hP (by omega) dX0_print_5 ?_
  refine lv_istore_n (lv' := [(3, .int (nI (gcCt σ 0))), (0, .ref (ad 3)), (1, .long (vJ v))]) E.1.1 E.1.2.1 dX0_print_6 rfl hl (by decide) rfl (fun ls hl => ?_)
  refine lv_iload_n E.1.1 E.1.2.1 dX0_print_7 rfl (lv_at hl 0 rfl) ?_
  refine lv_bipush (v := nI 40) E.1.1 E.1.2.1 dX0_print_8 rfl ?_
  refine nv_icmp_lt (by have := hR.2.2.2.2.1.1; omega) (by omega) E dX0_print_10 (tgt := 20) (by decide) (fun h10 => ?_) (fun h10 => ?_)
  · refine lv_aload_n E.1.1 E.1.2.1 dX0_print_20 rfl (lv_at hl 1 rfl) ?_
    refine gt_X0_putOut E fl_X0_31 hP dX0_print_21 ?_
    refine lv_iload_n E.1.1 E.1.2.1 dX0_print_24 rfl (lv_at hl 0 rfl) ?_
    refine lv_lload_n E.1.1 E.1.2.1 dX0_print_25 rfl (lv_at hl 2 rfl) ?_
    refine CM.callSi (n := 1) E (c_X0_isObject l D cI cJ cZ ad σ v hv) ml_X0_150 st_X0_isObject ini_X0 co_X0_isObject hd_X0_isObject ⟨Nat.le_of_ble_eq_true rfl, Nat.le_of_ble_eq_true rfl⟩ ⟨Nat.le_refl _, Nat.le_refl _⟩ hP (hD _) hS hA2 rfl hl.1 (Nat.le_of_ble_eq_true rfl) dX0_print_26 rfl (fun H locs hP hS => ?_)
    refine bv_if_eq (x := objI v) E dX0_print_29 (tgt := 48) (by decide) (fun h29 => ?_) (fun h29 => ?_)
    · obtain ⟨a1, ha1⟩ := objI_f h29
      subst ha1
      have hl : lv_has ls 4 [(3, .int (nI (gcCt σ 0))), (0, .ref (ad 3)), (1, .long (vJ (.inl a1)))] := hl
      refine lv_lload_n E.1.1 E.1.2.1 dX0_print_48 rfl (lv_at hl 2 rfl) ?_
      refine lv_l2i (v := (vJ (.inl a1)).toInt32) E.1.1 E.1.2.1 dX0_print_49 rfl ?_
      refine tpi (y := a1) (l2i_l a1) ?_
      refine as_CS_Po (i := gcCt σ 0) (v := a1) E hP hD hS (by omega) dX0_print_50 (fun H locs hP hS => ?_)
      refine lv_aload_n E.1.1 E.1.2.1 dX0_print_51 rfl (lv_at hl 1 rfl) ?_
      refine gt_X0_counts E fl_X0_34 hP dX0_print_52 ?_
      refine lv_iconst (v := nI 0) E.1.1 E.1.2.1 dX0_print_55 rfl ?_
      refine lv_iload_n E.1.1 E.1.2.1 dX0_print_56 rfl (lv_at hl 0 rfl) ?_
      refine lv_iconst (v := nI 1) E.1.1 E.1.2.1 dX0_print_57 rfl ?_
      refine nv_iadd E dX0_print_58 ?_
      refine as_CS_Ct (i := 0) (v := (gcCt σ 0) + 1) E hP hD hS (by omega) dX0_print_59 (fun H locs hP hS => ?_)
      have hP : va_P D vwCl (wC ad cI cJ cZ (scCt (scPo σ (va_up (gcPo σ) (gcCt σ 0) a1)) (va_up (gcCt σ) 0 ((gcCt σ 0) + 1)))) H := by have q9 := hP; rw [gs_Ct_Po] at q9; exact q9
      exact CM.retv E hr hlk hA (by unfold prF; rw [if_neg (show ¬ 40 ≤ gcCt σ 0 from (by omega))]; exact hP) hS rfl dX0_print_60
    · obtain ⟨k1, hk1⟩ := objI_t h29
      have hk401 := hv _ hk1
      subst hk1
      have hl : lv_has ls 4 [(3, .int (nI (gcCt σ 0))), (0, .ref (ad 3)), (1, .long (vJ (.inr k1)))] := hl
      refine lv_sipush (v := nI 1000) E.1.1 E.1.2.1 dX0_print_32 rfl ?_
      refine lv_aload_n E.1.1 E.1.2.1 dX0_print_35 rfl (lv_at hl 1 rfl) ?_
      refine gt_X0_classes E fl_X0_25 hP dX0_print_36 ?_
      refine lv_lload_n E.1.1 E.1.2.1 dX0_print_39 rfl (lv_at hl 2 rfl) ?_
      refine CM.callSi (n := 1) E (c_X0_objectOf l D cI cJ cZ ad σ (.inr k1) k1 rfl hk401) ml_X0_162 st_X0_objectOf ini_X0 co_X0_objectOf hd_X0_objectOf ⟨Nat.le_of_ble_eq_true rfl, Nat.le_of_ble_eq_true rfl⟩ ⟨Nat.le_refl _, Nat.le_refl _⟩ hP (hD _) hS hA2 rfl hl.1 (Nat.le_of_ble_eq_true rfl) dX0_print_40 rfl (fun H locs hP hS => ?_)
      refine ld_CS_Cl (i := k1) E hP (by omega) dX0_print_43 ?_
      refine nv_iadd E dX0_print_44 ?_
      refine lv_goto (tgt := 50) E.1.1 E.1.2.1 dX0_print_45 (by decide) ?_
      skip
      refine as_CS_Po (i := gcCt σ 0) (v := nI (1000 + (gcCl σ k1))) E hP hD hS (by omega) dX0_print_50 (fun H locs hP hS => ?_)
      refine lv_aload_n E.1.1 E.1.2.1 dX0_print_51 rfl (lv_at hl 1 rfl) ?_
      refine gt_X0_counts E fl_X0_34 hP dX0_print_52 ?_
      refine lv_iconst (v := nI 0) E.1.1 E.1.2.1 dX0_print_55 rfl ?_
      refine lv_iload_n E.1.1 E.1.2.1 dX0_print_56 rfl (lv_at hl 0 rfl) ?_
      refine lv_iconst (v := nI 1) E.1.1 E.1.2.1 dX0_print_57 rfl ?_
      refine nv_iadd E dX0_print_58 ?_
      refine as_CS_Ct (i := 0) (v := (gcCt σ 0) + 1) E hP hD hS (by omega) dX0_print_59 (fun H locs hP hS => ?_)
      have hP : va_P D vwCl (wC ad cI cJ cZ (scCt (scPo σ (va_up (gcPo σ) (gcCt σ 0) (nI (1000 + (gcCl σ k1))))) (va_up (gcCt σ) 0 ((gcCt σ 0) + 1)))) H := by have q9 := hP; rw [gs_Ct_Po] at q9; exact q9
      exact CM.retv E hr hlk hA (by unfold prF; rw [if_neg (show ¬ 40 ≤ gcCt σ 0 from (by omega))]; exact hP) hS rfl dX0_print_60
  · refine lv_aload_n E.1.1 E.1.2.1 dX0_print_13 rfl (lv_at hl 1 rfl) ?_
    refine lv_bipush (v := nI 7) E.1.1 E.1.2.1 dX0_print_14 rfl ?_
    refine pt_X0_trap (v := 7) E fl_X0_59 hP hD hS dX0_print_16 (fun H locs hP hS => ?_)
    exact CM.retv E hr hlk hA (by unfold prF; rw [if_pos h10]; exact hP) hS rfl dX0_print_19
set_option maxRecDepth 100000 in
set_option maxHeartbeats 400000 in
theorem c_X0_checkClass (l : Launch) (D : va_G) (cI cJ cZ : ClassId) (ad : Nat → Nat) (σ : CS) (v : Val) (t : Nat)  (hR : RI σ) (hv : ∀ k, v = .inr k → k < 401) (ht : t < 6) : CM l D (t3 cI cJ cZ) yX0_checkClass cX0_checkClass 4 none 1 [.ref (ad 3), .long (vJ v), .int (nI t)] (wC ad cI cJ cZ σ) (none) (wC ad cI cJ cZ (ckF v t σ)) := by
  refine CM.of (by decide) (Nat.le_of_ble_eq_true rfl) ?_
  intro p e s m below meth c A ls E hr hlk hP hD0 hA hA2 hS hl
  have hD := wC_D hD0
  have hl : lv_has ls 4 [(0, .ref (ad 3)), (1, .long (vJ v)), (3, .int (nI t))] := hl
  refine lv_lload_n E.1.1 E.1.2.1 dX0_checkClass_0 rfl (lv_at hl 1 rfl) ?_
  refine CM.callSi (n := 1) E (c_X0_isObject l D cI cJ cZ ad σ v hv) ml_X0_150 st_X0_isObject ini_X0 co_X0_isObject hd_X0_isObject ⟨Nat.le_of_ble_eq_true rfl, Nat.le_of_ble_eq_true rfl⟩ ⟨Nat.le_refl _, Nat.le_refl _⟩ hP (hD _) hS hA2 rfl hl.1 (Nat.le_of_ble_eq_true rfl) dX0_checkClass_1 rfl (fun H locs hP hS => ?_)
  refine bv_if_ne (x := objI v) E dX0_checkClass_4 (tgt := 15) (by decide) (fun h4 => ?_) (fun h4 => ?_)
  · obtain ⟨k1, hk1⟩ := objI_t h4
    have hk401 := hv _ hk1
    subst hk1
    have hl : lv_has ls 4 [(0, .ref (ad 3)), (1, .long (vJ (.inr k1))), (3, .int (nI t))] := hl
    refine lv_aload_n E.1.1 E.1.2.1 dX0_checkClass_15 rfl (lv_at hl 0 rfl) ?_
    refine gt_X0_program E fl_X0_37 hP dX0_checkClass_16 ?_
    refine lv_aload_n E.1.1 E.1.2.1 dX0_checkClass_19 rfl (lv_at hl 0 rfl) ?_
    refine gt_X0_classes E fl_X0_25 hP dX0_checkClass_20 ?_
    refine lv_lload_n E.1.1 E.1.2.1 dX0_checkClass_23 rfl (lv_at hl 1 rfl) ?_
    refine CM.callSi (n := 1) E (c_X0_objectOf l D cI cJ cZ ad σ (.inr k1) k1 rfl hk401) ml_X0_162 st_X0_objectOf ini_X0 co_X0_objectOf hd_X0_objectOf ⟨Nat.le_of_ble_eq_true rfl, Nat.le_of_ble_eq_true rfl⟩ ⟨Nat.le_refl _, Nat.le_refl _⟩ hP (hD _) hS hA2 rfl hl.1 (Nat.le_of_ble_eq_true rfl) dX0_checkClass_24 rfl (fun H locs hP hS => ?_)
    refine ld_CS_Cl (i := k1) E hP (by omega) dX0_checkClass_27 ?_
    refine lv_iload_n E.1.1 E.1.2.1 dX0_checkClass_28 rfl (lv_at hl 2 rfl) ?_
    refine CM.callVi (n := 2) E (c_X1_classIs l D cI cJ cZ ad σ (gcCl σ k1) t (hR.2.2.1.2.2.2 k1) ht hR.1.1) ml_X0_175 im_X1_classIs se_X1_classIs ini_X1 co_X1_classIs hd_X1_classIs ⟨Nat.le_of_ble_eq_true rfl, Nat.le_of_ble_eq_true rfl⟩ ⟨Nat.le_refl _, Nat.le_refl _⟩ 1 rfl rfl hP (hD _) hS hA2 rfl hl.1 (Nat.le_of_ble_eq_true rfl) dX0_checkClass_29 rfl (fun H locs hP hS => ?_)
    refine bv_if_ne (x := isF (gcP σ) t 6 (some (gcCl σ k1))) E dX0_checkClass_32 (tgt := 40) (by decide) (fun h32 => ?_) (fun h32 => ?_)
    · exact CM.retv E hr hlk hA (by first | exact hP | (simp only [ckF, if_pos h32]; exact hP) | (simp only [ckF, if_neg (show ¬ isF (gcP σ) t 6 (some (gcCl σ k1)) = true from (by rw [h32]; decide))]; exact hP)) hS rfl dX0_checkClass_40
    · refine lv_aload_n E.1.1 E.1.2.1 dX0_checkClass_35 rfl (lv_at hl 0 rfl) ?_
      refine lv_iconst (v := nI 2) E.1.1 E.1.2.1 dX0_checkClass_36 rfl ?_
      refine pt_X0_trap (v := 2) E fl_X0_59 hP hD hS dX0_checkClass_37 (fun H locs hP hS => ?_)
      exact CM.retv E hr hlk hA (by first | exact hP | (simp only [ckF, if_pos h32]; exact hP) | (simp only [ckF, if_neg (show ¬ isF (gcP σ) t 6 (some (gcCl σ k1)) = true from (by rw [h32]; decide))]; exact hP)) hS rfl dX0_checkClass_40
  · obtain ⟨a1, ha1⟩ := objI_f h4
    subst ha1
    refine lv_aload_n E.1.1 E.1.2.1 dX0_checkClass_7 rfl (lv_at hl 0 rfl) ?_
    refine lv_iconst (v := nI 1) E.1.1 E.1.2.1 dX0_checkClass_8 rfl ?_
    refine pt_X0_trap (v := 1) E fl_X0_59 hP hD hS dX0_checkClass_9 (fun H locs hP hS => ?_)
    refine lv_goto (tgt := 40) E.1.1 E.1.2.1 dX0_checkClass_12 (by decide) ?_
    exact CM.retv E hr hlk hA (by first | exact hP | (simp only [ckF, if_pos h32]; exact hP) | (simp only [ckF, if_neg (show ¬ isF (gcP σ) t 6 (some (gcCl σ k1)) = true from (by rw [h32]; decide))]; exact hP)) hS rfl dX0_checkClass_40
set_option maxRecDepth 100000 in
set_option maxHeartbeats 400000 in
theorem c_X0_isBehindLast (l : Launch) (D : va_G) (cI cJ cZ : ClassId) (ad : Nat → Nat) (σ : CS) (f : Nat)  (hf : f < 12) (hR : RI σ) : CM l D (t3 cI cJ cZ) yX0_isBehindLast cX0_isBehindLast 2 (some .boolean) 1 [.ref (ad 3), .int (nI f)] (wC ad cI cJ cZ σ) (some (.int (bI (decide (gcL σ (gcBo σ f) ≤ gcNe σ f))))) (wC ad cI cJ cZ σ) := by
  refine CM.of (by decide) (Nat.le_of_ble_eq_true rfl) ?_
  intro p e s m below meth c A ls E hr hlk hP hD0 hA hA2 hS hl
  have hD := wC_D hD0
  have hl : lv_has ls 2 [(0, .ref (ad 3)), (1, .int (nI f))] := hl
  refine lv_aload_n E.1.1 E.1.2.1 dX0_isBehindLast_0 rfl (lv_at hl 0 rfl) ?_
  refine gt_X0_nexts E fl_X0_19 hP dX0_isBehindLast_1 ?_
  refine lv_iload_n E.1.1 E.1.2.1 dX0_isBehindLast_4 rfl (lv_at hl 1 rfl) ?_
  refine ld_CS_Ne (i := f) E hP (by omega) dX0_isBehindLast_5 ?_
  refine lv_aload_n E.1.1 E.1.2.1 dX0_isBehindLast_6 rfl (lv_at hl 0 rfl) ?_
  refine gt_X0_program E fl_X0_37 hP dX0_isBehindLast_7 ?_
  refine lv_aload_n E.1.1 E.1.2.1 dX0_isBehindLast_10 rfl (lv_at hl 0 rfl) ?_
  refine gt_X0_bodies E fl_X0_15 hP dX0_isBehindLast_11 ?_
  refine lv_iload_n E.1.1 E.1.2.1 dX0_isBehindLast_14 rfl (lv_at hl 1 rfl) ?_
  refine ld_CS_Bo (i := f) E hP (by omega) dX0_isBehindLast_15 ?_
  refine CM.callVi (n := 1) E (c_X1_length l D cI cJ cZ ad σ (gcBo σ f) (hR.2.2.1.1 f)) ml_X0_103 im_X1_length se_X1_length ini_X1 co_X1_length hd_X1_length ⟨Nat.le_of_ble_eq_true rfl, Nat.le_of_ble_eq_true rfl⟩ ⟨Nat.le_refl _, Nat.le_refl _⟩ 1 rfl rfl hP (hD _) hS hA2 rfl hl.1 (Nat.le_of_ble_eq_true rfl) dX0_isBehindLast_16 rfl (fun H locs hP hS => ?_)
  refine nv_icmp_lt (by have := hR.2.2.1.2.1 f; omega) (by have := hR.1.1.2.1 (gcBo σ f); omega) E dX0_isBehindLast_19 (tgt := 26) (by decide) (fun h19 => ?_) (fun h19 => ?_)
  · refine lv_iconst (v := nI 0) E.1.1 E.1.2.1 dX0_isBehindLast_26 rfl ?_
    exact CM.retz E hr hlk hA hP hS (er_f (by first | (simp [*]; done) | (simp; omega))) rfl dX0_isBehindLast_27
  · refine lv_iconst (v := nI 1) E.1.1 E.1.2.1 dX0_isBehindLast_22 rfl ?_
    refine lv_goto (tgt := 27) E.1.1 E.1.2.1 dX0_isBehindLast_23 (by decide) ?_
    exact CM.retz E hr hlk hA hP hS (er_t (by first | (simp [*]; done) | (simp; omega))) rfl dX0_isBehindLast_27
