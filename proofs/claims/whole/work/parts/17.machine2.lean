set_option maxRecDepth 100000 in
set_option maxHeartbeats 400000 in
theorem c_X0_newObject (l : Launch) (D : va_G) (cI cJ cZ : ClassId) (ad : Nat → Nat) (σ : CS) (t : Nat)  (hob : gcob σ < 401) : CM l D (t3 cI cJ cZ) yX0_newObject cX0_newObject 4 (some .long) 2 [.ref (ad 3), .int (nI t)] (wC ad cI cJ cZ σ) (some (.long (vJ (.inr (gcob σ))))) (wC ad cI cJ cZ (noF t σ)) := by
  refine CM.of (by decide) (Nat.le_of_ble_eq_true rfl) ?_
  intro p e s m below meth c A ls E hr hlk hP hD0 hA hA2 hS hl
  have hD := wC_D hD0
  have hl : lv_has ls 4 [(0, .ref (ad 3)), (1, .int (nI t))] := hl
  refine lv_aload_n E.1.1 E.1.2.1 dX0_newObject_0 rfl (lv_at hl 0 rfl) ?_
  refine gt_X0_objects E fl_X0_56 hP dX0_newObject_1 ?_
  refine lv_istore_n (lv' := [(2, .int (nI (gcob σ))), (0, .ref (ad 3)), (1, .int (nI t))]) E.1.1 E.1.2.1 dX0_newObject_4 rfl hl (by decide) rfl (fun ls hl => ?_)
  refine lv_aload_n E.1.1 E.1.2.1 dX0_newObject_5 rfl (lv_at hl 1 rfl) ?_
  refine lv_dup E.1.1 E.1.2.1 dX0_newObject_6 rfl ?_
  refine gt_X0_objects E fl_X0_56 hP dX0_newObject_7 ?_
  refine lv_iconst (v := nI 1) E.1.1 E.1.2.1 dX0_newObject_10 rfl ?_
  refine nv_iadd E dX0_newObject_11 ?_
  refine pt_X0_objects (v := (gcob σ) + 1) E fl_X0_56 hP hD hS dX0_newObject_12 (fun H locs hP hS => ?_)
  refine lv_aload_n E.1.1 E.1.2.1 dX0_newObject_15 rfl (lv_at hl 1 rfl) ?_
  refine gt_X0_classes E fl_X0_25 hP dX0_newObject_16 ?_
  refine lv_iload_n E.1.1 E.1.2.1 dX0_newObject_19 rfl (lv_at hl 0 rfl) ?_
  refine lv_iload_n E.1.1 E.1.2.1 dX0_newObject_20 rfl (lv_at hl 2 rfl) ?_
  refine as_CS_Cl (i := gcob σ) (v := t) E hP hD hS hob dX0_newObject_21 (fun H locs hP hS => ?_)
  have hP : va_P D vwCl (wC ad cI cJ cZ (scCl (scob σ ((gcob σ) + 1)) (va_up (gcCl σ) (gcob σ) t))) H := by have q9 := hP; rw [gs_Cl_ob] at q9; exact q9
  refine lv_iload_n E.1.1 E.1.2.1 dX0_newObject_22 rfl (lv_at hl 0 rfl) ?_
  refine lv_iconst (v := nI 3) E.1.1 E.1.2.1 dX0_newObject_23 rfl ?_
  refine nv_imul E dX0_newObject_24 ?_
  refine lv_istore_n (lv' := [(3, .int (nI ((gcob σ) * 3))), (2, .int (nI (gcob σ))), (0, .ref (ad 3)), (1, .int (nI t))]) E.1.1 E.1.2.1 dX0_newObject_25 rfl hl (by decide) rfl (fun ls hl => ?_)
  refine lv_aload_n E.1.1 E.1.2.1 dX0_newObject_26 rfl (lv_at hl 2 rfl) ?_
  refine gt_X0_fields E fl_X0_28 hP dX0_newObject_27 ?_
  refine lv_iload_n E.1.1 E.1.2.1 dX0_newObject_30 rfl (lv_at hl 0 rfl) ?_
  refine lv_iload_n E.1.1 E.1.2.1 dX0_newObject_31 rfl (lv_at hl 0 rfl) ?_
  refine lv_iconst (v := nI 3) E.1.1 E.1.2.1 dX0_newObject_32 rfl ?_
  refine nv_iadd E dX0_newObject_33 ?_
  refine lv_lconst (v := vJ (.inl 0)) E.1.1 E.1.2.1 dX0_newObject_34 rfl ?_
  refine CM.callSv (n := 4) E (c_J7_fill_bad5a_Fl l D cI cJ cZ ad (scCl (scob σ ((gcob σ) + 1)) (va_up (gcCl σ) (gcob σ) t)) ((gcob σ) * 3) (((gcob σ) * 3) + 3) (.inl 0) (by omega) (by omega)) ml_X0_159 st_J7_fill_bad5a ini_J7 co_J7_fill_bad5a hd_J7_fill_bad5a ⟨Nat.le_of_ble_eq_true rfl, Nat.le_of_ble_eq_true rfl⟩ ⟨Nat.le_refl _, Nat.le_refl _⟩ hP (hD _) hS hA2 rfl hl.1 (Nat.le_of_ble_eq_true rfl) dX0_newObject_35 rfl (fun H locs hP hS => ?_)
  have hP : va_P D vwCl (wC ad cI cJ cZ (scFl (scCl (scob σ ((gcob σ) + 1)) (va_up (gcCl σ) (gcob σ) t)) (fillF (gcFl σ) ((gcob σ) * 3) (((gcob σ) * 3) + 3) (.inl 0)))) H := by have q9 := hP; rw [gs_Fl_Cl, gs_Fl_ob] at q9; exact q9
  refine lv_ldc2 E.1.1 E.1.2.1 E.1.2.2.2.1 (E.1.2.2.2.2 _ (List.mem_cons_of_mem _ kl_X0_145)) dX0_newObject_38 ?_
  refine lv_iload_n E.1.1 E.1.2.1 dX0_newObject_41 rfl (lv_at hl 1 rfl) ?_
  refine lv_i2l (v := vJ (.inl (nI (gcob σ)))) E.1.1 E.1.2.1 dX0_newObject_42 rfl ?_
  refine lv_ladd E.1.1 E.1.2.1 dX0_newObject_43 ?_
  exact CM.retl E hr hlk hA (by rw [show noF t σ = (scFl (scCl (scob σ ((gcob σ) + 1)) (va_up (gcCl σ) (gcob σ) t)) (fillF (gcFl σ) ((gcob σ) * 3) (((gcob σ) * 3) + 3) (.inl 0))) from (by first | (simp only [noF, gcP, gcL, gcK, gcX, gcY, gcZ, gcn, gcV, gcCV, gcma, gcre, gcca, gcRg, gcBo, gcNe, gcAn, gcCl, gcFl, gcPo, gcCt, gcsh, gcrm, gcfr, gcob, gctr, scP, scL, scK, scX, scY, scZ, scn, scV, scCV, scma, scre, scca, scRg, scBo, scNe, scAn, scCl, scFl, scPo, scCt, scsh, scrm, scfr, scob, sctr]; done))]; exact hP) hS (by rw [show vJ (.inl (nI (gcob σ))) = (nI (gcob σ)).toInt64 from rfl, add_obj (by omega)]) dX0_newObject_44
set_option maxRecDepth 100000 in
set_option maxHeartbeats 400000 in
theorem c_X0_enter (l : Launch) (D : va_G) (cI cJ cZ : ClassId) (ad : Nat → Nat) (σ : CS) (b : Nat) (x : Val) (y : Val)  (hf : gcfr σ < 12) (h5 : gcCt σ 5 ≤ 12) : CM l D (t3 cI cJ cZ) yX0_enter cX0_enter 7 none 2 [.ref (ad 3), .int (nI b), .long (vJ x), .long (vJ y)] (wC ad cI cJ cZ σ) (none) (wC ad cI cJ cZ (enF b x y σ)) := by
  refine CM.of (by decide) (Nat.le_of_ble_eq_true rfl) ?_
  intro p e s m below meth c A ls E hr hlk hP hD0 hA hA2 hS hl
  have hD := wC_D hD0
  have hl : lv_has ls 7 [(0, .ref (ad 3)), (1, .int (nI b)), (2, .long (vJ x)), (4, .long (vJ y))] := hl
  refine lv_aload_n E.1.1 E.1.2.1 dX0_enter_0 rfl (lv_at hl 0 rfl) ?_
  refine gt_X0_frames E fl_X0_53 hP dX0_enter_1 ?_
  refine lv_bipush (v := nI 6) E.1.1 E.1.2.1 dX0_enter_4 rfl ?_
  refine nv_imul E dX0_enter_6 ?_
  refine lv_istore (lv' := [(6, .int (nI ((gcfr σ) * 6))), (0, .ref (ad 3)), (1, .int (nI b)), (2, .long (vJ x)), (4, .long (vJ y))]) E.1.1 E.1.2.1 dX0_enter_7 hl (by decide) rfl (fun ls hl => ?_)
  refine lv_aload_n E.1.1 E.1.2.1 dX0_enter_9 rfl (lv_at hl 1 rfl) ?_
  refine gt_X0_registers E fl_X0_9 hP dX0_enter_10 ?_
  refine lv_iload E.1.1 E.1.2.1 dX0_enter_13 (lv_at hl 0 rfl) ?_
  refine lv_iload E.1.1 E.1.2.1 dX0_enter_15 (lv_at hl 0 rfl) ?_
  refine lv_bipush (v := nI 6) E.1.1 E.1.2.1 dX0_enter_17 rfl ?_
  refine nv_iadd E dX0_enter_19 ?_
  refine lv_lconst (v := vJ (.inl 0)) E.1.1 E.1.2.1 dX0_enter_20 rfl ?_
  refine CM.callSv (n := 4) E (c_J7_fill_bad5a_Rg l D cI cJ cZ ad σ ((gcfr σ) * 6) (((gcfr σ) * 6) + 6) (.inl 0) (by omega) (by omega)) ml_X0_159 st_J7_fill_bad5a ini_J7 co_J7_fill_bad5a hd_J7_fill_bad5a ⟨Nat.le_of_ble_eq_true rfl, Nat.le_of_ble_eq_true rfl⟩ ⟨Nat.le_refl _, Nat.le_refl _⟩ hP (hD _) hS hA2 rfl hl.1 (Nat.le_of_ble_eq_true rfl) dX0_enter_21 rfl (fun H locs hP hS => ?_)
  refine lv_aload_n E.1.1 E.1.2.1 dX0_enter_24 rfl (lv_at hl 1 rfl) ?_
  refine gt_X0_registers E fl_X0_9 hP dX0_enter_25 ?_
  refine lv_iload E.1.1 E.1.2.1 dX0_enter_28 (lv_at hl 0 rfl) ?_
  refine lv_lload_n E.1.1 E.1.2.1 dX0_enter_30 rfl (lv_at hl 3 rfl) ?_
  refine as_CS_Rg (i := (gcfr σ) * 6) (v := x) E hP hD hS (by omega) dX0_enter_31 (fun H locs hP hS => ?_)
  have hP : va_P D vwCl (wC ad cI cJ cZ (scRg σ (va_up (fillF (gcRg σ) ((gcfr σ) * 6) (((gcfr σ) * 6) + 6) (.inl 0)) ((gcfr σ) * 6) x))) H := by have q9 := hP; rw [ss_Rg, gs_Rg_Rg] at q9; exact q9
  refine lv_aload_n E.1.1 E.1.2.1 dX0_enter_32 rfl (lv_at hl 1 rfl) ?_
  refine gt_X0_registers E fl_X0_9 hP dX0_enter_33 ?_
  refine lv_iload E.1.1 E.1.2.1 dX0_enter_36 (lv_at hl 0 rfl) ?_
  refine lv_iconst (v := nI 1) E.1.1 E.1.2.1 dX0_enter_38 rfl ?_
  refine nv_iadd E dX0_enter_39 ?_
  refine lv_lload E.1.1 E.1.2.1 dX0_enter_40 (lv_at hl 4 rfl) ?_
  refine as_CS_Rg (i := ((gcfr σ) * 6) + 1) (v := y) E hP hD hS (by omega) dX0_enter_42 (fun H locs hP hS => ?_)
  have hP : va_P D vwCl (wC ad cI cJ cZ (scRg σ (va_up (va_up (fillF (gcRg σ) ((gcfr σ) * 6) (((gcfr σ) * 6) + 6) (.inl 0)) ((gcfr σ) * 6) x) (((gcfr σ) * 6) + 1) y))) H := by have q9 := hP; rw [ss_Rg, gs_Rg_Rg] at q9; exact q9
  refine lv_aload_n E.1.1 E.1.2.1 dX0_enter_43 rfl (lv_at hl 1 rfl) ?_
  refine gt_X0_bodies E fl_X0_15 hP dX0_enter_44 ?_
  refine lv_aload_n E.1.1 E.1.2.1 dX0_enter_47 rfl (lv_at hl 1 rfl) ?_
  refine gt_X0_frames E fl_X0_53 hP dX0_enter_48 ?_
  refine tpi (y := nI (gcfr σ)) (by rw [gs_fr_Rg]) ?_
  refine lv_iload_n E.1.1 E.1.2.1 dX0_enter_51 rfl (lv_at hl 2 rfl) ?_
  refine as_CS_Bo (i := gcfr σ) (v := b) E hP hD hS hf dX0_enter_52 (fun H locs hP hS => ?_)
  have hP : va_P D vwCl (wC ad cI cJ cZ (scBo (scRg σ (va_up (va_up (fillF (gcRg σ) ((gcfr σ) * 6) (((gcfr σ) * 6) + 6) (.inl 0)) ((gcfr σ) * 6) x) (((gcfr σ) * 6) + 1) y)) (va_up (gcBo σ) (gcfr σ) b))) H := by have q9 := hP; rw [gs_Bo_Rg] at q9; exact q9
  refine lv_aload_n E.1.1 E.1.2.1 dX0_enter_53 rfl (lv_at hl 1 rfl) ?_
  refine gt_X0_nexts E fl_X0_19 hP dX0_enter_54 ?_
  refine lv_aload_n E.1.1 E.1.2.1 dX0_enter_57 rfl (lv_at hl 1 rfl) ?_
  refine gt_X0_frames E fl_X0_53 hP dX0_enter_58 ?_
  refine tpi (y := nI (gcfr σ)) (by rw [gs_fr_Bo, gs_fr_Rg]) ?_
  refine lv_iconst (v := nI 0) E.1.1 E.1.2.1 dX0_enter_61 rfl ?_
  refine as_CS_Ne (i := gcfr σ) (v := 0) E hP hD hS hf dX0_enter_62 (fun H locs hP hS => ?_)
  have hP : va_P D vwCl (wC ad cI cJ cZ (scNe (scBo (scRg σ (va_up (va_up (fillF (gcRg σ) ((gcfr σ) * 6) (((gcfr σ) * 6) + 6) (.inl 0)) ((gcfr σ) * 6) x) (((gcfr σ) * 6) + 1) y)) (va_up (gcBo σ) (gcfr σ) b)) (va_up (gcNe σ) (gcfr σ) 0))) H := by have q9 := hP; rw [gs_Ne_Bo, gs_Ne_Rg] at q9; exact q9
  refine lv_aload_n E.1.1 E.1.2.1 dX0_enter_63 rfl (lv_at hl 1 rfl) ?_
  refine lv_dup E.1.1 E.1.2.1 dX0_enter_64 rfl ?_
  refine gt_X0_frames E fl_X0_53 hP dX0_enter_65 ?_
  refine tpi (y := nI (gcfr σ)) (by rw [gs_fr_Ne, gs_fr_Bo, gs_fr_Rg]) ?_
  refine lv_iconst (v := nI 1) E.1.1 E.1.2.1 dX0_enter_68 rfl ?_
  refine nv_iadd E dX0_enter_69 ?_
  refine pt_X0_frames (v := (gcfr σ) + 1) E fl_X0_53 hP hD hS dX0_enter_70 (fun H locs hP hS => ?_)
  refine lv_aload_n E.1.1 E.1.2.1 dX0_enter_73 rfl (lv_at hl 1 rfl) ?_
  refine gt_X0_counts E fl_X0_34 hP dX0_enter_74 ?_
  refine lv_iconst (v := nI 5) E.1.1 E.1.2.1 dX0_enter_77 rfl ?_
  refine lv_aload_n E.1.1 E.1.2.1 dX0_enter_78 rfl (lv_at hl 1 rfl) ?_
  refine gt_X0_counts E fl_X0_34 hP dX0_enter_79 ?_
  refine lv_iconst (v := nI 5) E.1.1 E.1.2.1 dX0_enter_82 rfl ?_
  refine ld_CS_Ct (i := 5) E hP (by omega) dX0_enter_83 ?_
  refine tpi (y := nI (gcCt σ 5)) (by rw [gs_Ct_fr, gs_Ct_Ne, gs_Ct_Bo, gs_Ct_Rg]) ?_
  refine lv_aload_n E.1.1 E.1.2.1 dX0_enter_84 rfl (lv_at hl 1 rfl) ?_
  refine gt_X0_frames E fl_X0_53 hP dX0_enter_85 ?_
  refine tpi (y := nI ((gcfr σ) + 1)) (by rw [gs_fr_fr]) ?_
  refine va_mmax E.1.1 E.1.2.1 (E.1.2.2.1.trans hl.1.symm) E.1.2.2.2.1 (E.1.2.2.2.2 _ (List.mem_cons_of_mem _ ml_X0_170)) (E.1.2.2.2.2 _ (List.mem_cons_of_mem _ st_max)) (E.1.2.2.2.2 _ (List.mem_cons_of_mem _ ini_J9)) (E.1.2.2.2.2 _ (List.mem_cons_of_mem _ co_max)) (Nat.le_of_ble_eq_true rfl) (Nat.le_of_ble_eq_true rfl) (Nat.le_refl _) (Nat.le_refl _) dX0_enter_88 ?_
  refine tpi (y := nI (max (gcCt σ 5) (gcfr σ + 1))) (max_n (by omega) (by omega)) ?_
  refine as_CS_Ct (i := 5) (v := max (gcCt σ 5) (gcfr σ + 1)) E hP hD hS (by omega) dX0_enter_91 (fun H locs hP hS => ?_)
  have hP : va_P D vwCl (wC ad cI cJ cZ (scCt (scfr (scNe (scBo (scRg σ (va_up (va_up (fillF (gcRg σ) ((gcfr σ) * 6) (((gcfr σ) * 6) + 6) (.inl 0)) ((gcfr σ) * 6) x) (((gcfr σ) * 6) + 1) y)) (va_up (gcBo σ) (gcfr σ) b)) (va_up (gcNe σ) (gcfr σ) 0)) ((gcfr σ) + 1)) (va_up (gcCt σ) 5 (max (gcCt σ 5) (gcfr σ + 1))))) H := by have q9 := hP; rw [gs_Ct_fr, gs_Ct_Ne, gs_Ct_Bo, gs_Ct_Rg] at q9; exact q9
  exact CM.retv E hr hlk hA (by unfold enF; exact hP) hS rfl dX0_enter_92
set_option maxRecDepth 100000 in
set_option maxHeartbeats 400000 in
theorem c_X0_make (l : Launch) (D : va_G) (cI cJ cZ : ClassId) (ad : Nat → Nat) (σ : CS) (pl : Nat) (r : Nat)  (hpl : pl < 240) (hr0 : r < 72) (hR : RI σ) (hk : gcK σ pl = 4) (hob : gcob σ < 401) : CM l D (t3 cI cJ cZ) yX0_make cX0_make 4 none 3 [.ref (ad 3), .int (nI pl), .int (nI r)] (wC ad cI cJ cZ σ) (none) (wC ad cI cJ cZ (mkF pl r σ)) := by
  refine CM.of (by decide) (Nat.le_of_ble_eq_true rfl) ?_
  intro p e s m below meth c A ls E hr hlk hP hD0 hA hA2 hS hl
  have hD := wC_D hD0
  have hl : lv_has ls 4 [(0, .ref (ad 3)), (1, .int (nI pl)), (2, .int (nI r))] := hl
  refine lv_aload_n E.1.1 E.1.2.1 dX0_make_0 rfl (lv_at hl 0 rfl) ?_
  refine gt_X0_asShaped E fl_X0_45 hP dX0_make_1 ?_
  refine bv_if_eq (x := gcsh σ) E dX0_make_4 (tgt := 23) (by decide) (fun h4 => ?_) (fun h4 => ?_)
  · refine lv_iconst (v := nI 0) E.1.1 E.1.2.1 dX0_make_23 rfl ?_
    refine lv_istore_n (lv' := [(3, .int (nI 0)), (0, .ref (ad 3)), (1, .int (nI pl)), (2, .int (nI r))]) E.1.1 E.1.2.1 dX0_make_24 rfl hl (by decide) rfl (fun ls hl => ?_)
    refine lv_iload_n E.1.1 E.1.2.1 dX0_make_25 rfl (lv_at hl 0 rfl) ?_
    refine nv_if_ne (by omega) E dX0_make_26 (tgt := 48) (by decide) (fun h26 => ?_) (fun h26 => ?_)
    · exact absurd h26 (by omega)
    · refine lv_aload_n E.1.1 E.1.2.1 dX0_make_29 rfl (lv_at hl 1 rfl) ?_
      refine gt_X0_counts E fl_X0_34 hP dX0_make_30 ?_
      refine lv_iconst (v := nI 1) E.1.1 E.1.2.1 dX0_make_33 rfl ?_
      refine ld_CS_Ct (i := 1) E hP (by omega) dX0_make_34 ?_
      refine lv_aload_n E.1.1 E.1.2.1 dX0_make_35 rfl (lv_at hl 1 rfl) ?_
      refine gt_X0_room E fl_X0_49 hP dX0_make_36 ?_
      refine nv_icmp_lt (by have := hR.2.2.2.2.1.2.2.2; have := hR.2.2.2.2.2.2.2.1; omega) (by have := hR.2.2.2.2.2.2.1; omega) E dX0_make_39 (tgt := 48) (by decide) (fun h39 => ?_) (fun h39 => ?_)
      · refine lv_iload_n E.1.1 E.1.2.1 dX0_make_48 rfl (lv_at hl 0 rfl) ?_
        refine nv_if_ne (by omega) E dX0_make_49 (tgt := 62) (by decide) (fun h49 => ?_) (fun h49 => ?_)
        · exact absurd h49 (by omega)
        · refine lv_aload_n E.1.1 E.1.2.1 dX0_make_52 rfl (lv_at hl 1 rfl) ?_
          refine gt_X0_counts E fl_X0_34 hP dX0_make_53 ?_
          refine lv_iconst (v := nI 1) E.1.1 E.1.2.1 dX0_make_56 rfl ?_
          refine lv_dup2_11 E.1.1 E.1.2.1 dX0_make_57 rfl rfl ?_
          refine ld_CS_Ct (i := 1) E hP (by omega) dX0_make_58 ?_
          refine lv_iconst (v := nI 1) E.1.1 E.1.2.1 dX0_make_59 rfl ?_
          refine nv_iadd E dX0_make_60 ?_
          refine as_CS_Ct (i := 1) (v := (gcCt σ 1) + 1) E hP hD hS (by omega) dX0_make_61 (fun H locs hP hS => ?_)
          refine lv_aload_n E.1.1 E.1.2.1 dX0_make_62 rfl (lv_at hl 1 rfl) ?_
          refine gt_X0_registers E fl_X0_9 hP dX0_make_63 ?_
          refine lv_iload_n E.1.1 E.1.2.1 dX0_make_66 rfl (lv_at hl 3 rfl) ?_
          refine lv_aload_n E.1.1 E.1.2.1 dX0_make_67 rfl (lv_at hl 1 rfl) ?_
          refine lv_aload_n E.1.1 E.1.2.1 dX0_make_68 rfl (lv_at hl 1 rfl) ?_
          refine gt_X0_program E fl_X0_37 hP dX0_make_69 ?_
          refine lv_iload_n E.1.1 E.1.2.1 dX0_make_72 rfl (lv_at hl 2 rfl) ?_
          refine CM.callVi (n := 1) E (c_X1_y l D cI cJ cZ ad (scCt σ (va_up (gcCt σ) 1 ((gcCt σ 1) + 1))) pl hpl) ml_X0_120 im_X1_y se_X1_y ini_X1 co_X1_y hd_X1_y ⟨Nat.le_of_ble_eq_true rfl, Nat.le_of_ble_eq_true rfl⟩ ⟨Nat.le_refl _, Nat.le_refl _⟩ 1 rfl rfl hP (hD _) hS hA2 rfl hl.1 (Nat.le_of_ble_eq_true rfl) dX0_make_73 rfl (fun H locs hP hS => ?_)
          refine tpi (y := nI (yN σ pl)) (by first | (rw [gs_Y_Ct]; exact (WI_y hR.1.2 (by omega)).1) | exact (WI_y hR.1.2 (by omega)).1) ?_
          refine CM.callVl (n := 1) E (c_X0_newObject l D cI cJ cZ ad (scCt σ (va_up (gcCt σ) 1 ((gcCt σ 1) + 1))) (yN σ pl) (by first | (rw [gs_ob_Ct]; exact hob) | exact hob)) ml_X0_81 im_X0_newObject se_X0_newObject ini_X0 co_X0_newObject hd_X0_newObject ⟨Nat.le_of_ble_eq_true rfl, Nat.le_of_ble_eq_true rfl⟩ ⟨Nat.le_refl _, Nat.le_refl _⟩ 3 rfl rfl hP (hD _) hS hA2 rfl hl.1 (Nat.le_of_ble_eq_true rfl) dX0_make_76 rfl (fun H locs hP hS => ?_)
          refine as_CS_Rg (i := r) (v := .inr (gcob (scCt σ (va_up (gcCt σ) 1 ((gcCt σ 1) + 1))))) E hP hD hS hr0 dX0_make_79 (fun H locs hP hS => ?_)
          exact CM.retv E hr hlk hA (by unfold mkF; rw [if_neg (by intro z; first | exact absurd (h4.symm.trans z.1) (by decide) | exact h16 z.2), if_neg (by omega), show mk2 (yN σ pl) r (inc 1 σ) = (scRg (noF (yN σ pl) (scCt σ (va_up (gcCt σ) 1 ((gcCt σ 1) + 1)))) (va_up (gcRg (noF (yN σ pl) (scCt σ (va_up (gcCt σ) 1 ((gcCt σ 1) + 1))))) r (.inr (gcob (scCt σ (va_up (gcCt σ) 1 ((gcCt σ 1) + 1))))))) from (by simp only [mk2, noF, inc, gcP, gcL, gcK, gcX, gcY, gcZ, gcn, gcV, gcCV, gcma, gcre, gcca, gcRg, gcBo, gcNe, gcAn, gcCl, gcFl, gcPo, gcCt, gcsh, gcrm, gcfr, gcob, gctr, scP, scL, scK, scX, scY, scZ, scn, scV, scCV, scma, scre, scca, scRg, scBo, scNe, scAn, scCl, scFl, scPo, scCt, scsh, scrm, scfr, scob, sctr])]; exact hP) hS rfl dX0_make_80
      · refine lv_aload_n E.1.1 E.1.2.1 dX0_make_42 rfl (lv_at hl 1 rfl) ?_
        refine lv_iconst (v := nI 3) E.1.1 E.1.2.1 dX0_make_43 rfl ?_
        refine pt_X0_trap (v := 3) E fl_X0_59 hP hD hS dX0_make_44 (fun H locs hP hS => ?_)
        exact CM.retv E hr hlk hA (by unfold mkF; rw [if_neg (by intro z; first | exact absurd (h4.symm.trans z.1) (by decide) | exact h16 z.2), if_pos h39]; exact hP) hS rfl dX0_make_47
  · refine lv_aload_n E.1.1 E.1.2.1 dX0_make_7 rfl (lv_at hl 0 rfl) ?_
    refine gt_X0_shaping E fl_X0_41 hP dX0_make_8 ?_
    refine lv_iload_n E.1.1 E.1.2.1 dX0_make_11 rfl (lv_at hl 1 rfl) ?_
    refine CM.callVi (n := 1) E (c_X2_verdictAt l D cI cJ cZ ad σ pl (by omega)) ml_X0_154 im_X2_verdictAt se_X2_verdictAt ini_X2 co_X2_verdictAt hd_X2_verdictAt ⟨Nat.le_of_ble_eq_true rfl, Nat.le_of_ble_eq_true rfl⟩ ⟨Nat.le_refl _, Nat.le_refl _⟩ 2 rfl rfl hP (hD _) hS hA2 rfl hl.1 (Nat.le_of_ble_eq_true rfl) dX0_make_12 rfl (fun H locs hP hS => ?_)
    refine lv_iconst (v := nI 5) E.1.1 E.1.2.1 dX0_make_15 rfl ?_
    refine nv_icmp_ne (by have := hR.2.1 pl; omega) (by omega) E dX0_make_16 (tgt := 23) (by decide) (fun h16 => ?_) (fun h16 => ?_)
    · refine lv_iconst (v := nI 0) E.1.1 E.1.2.1 dX0_make_23 rfl ?_
      refine lv_istore_n (lv' := [(3, .int (nI 0)), (0, .ref (ad 3)), (1, .int (nI pl)), (2, .int (nI r))]) E.1.1 E.1.2.1 dX0_make_24 rfl hl (by decide) rfl (fun ls hl => ?_)
      refine lv_iload_n E.1.1 E.1.2.1 dX0_make_25 rfl (lv_at hl 0 rfl) ?_
      refine nv_if_ne (by omega) E dX0_make_26 (tgt := 48) (by decide) (fun h26 => ?_) (fun h26 => ?_)
      · exact absurd h26 (by omega)
      · refine lv_aload_n E.1.1 E.1.2.1 dX0_make_29 rfl (lv_at hl 1 rfl) ?_
        refine gt_X0_counts E fl_X0_34 hP dX0_make_30 ?_
        refine lv_iconst (v := nI 1) E.1.1 E.1.2.1 dX0_make_33 rfl ?_
        refine ld_CS_Ct (i := 1) E hP (by omega) dX0_make_34 ?_
        refine lv_aload_n E.1.1 E.1.2.1 dX0_make_35 rfl (lv_at hl 1 rfl) ?_
        refine gt_X0_room E fl_X0_49 hP dX0_make_36 ?_
        refine nv_icmp_lt (by have := hR.2.2.2.2.1.2.2.2; have := hR.2.2.2.2.2.2.2.1; omega) (by have := hR.2.2.2.2.2.2.1; omega) E dX0_make_39 (tgt := 48) (by decide) (fun h39 => ?_) (fun h39 => ?_)
        · refine lv_iload_n E.1.1 E.1.2.1 dX0_make_48 rfl (lv_at hl 0 rfl) ?_
          refine nv_if_ne (by omega) E dX0_make_49 (tgt := 62) (by decide) (fun h49 => ?_) (fun h49 => ?_)
          · exact absurd h49 (by omega)
          · refine lv_aload_n E.1.1 E.1.2.1 dX0_make_52 rfl (lv_at hl 1 rfl) ?_
            refine gt_X0_counts E fl_X0_34 hP dX0_make_53 ?_
            refine lv_iconst (v := nI 1) E.1.1 E.1.2.1 dX0_make_56 rfl ?_
            refine lv_dup2_11 E.1.1 E.1.2.1 dX0_make_57 rfl rfl ?_
            refine ld_CS_Ct (i := 1) E hP (by omega) dX0_make_58 ?_
            refine lv_iconst (v := nI 1) E.1.1 E.1.2.1 dX0_make_59 rfl ?_
            refine nv_iadd E dX0_make_60 ?_
            refine as_CS_Ct (i := 1) (v := (gcCt σ 1) + 1) E hP hD hS (by omega) dX0_make_61 (fun H locs hP hS => ?_)
            refine lv_aload_n E.1.1 E.1.2.1 dX0_make_62 rfl (lv_at hl 1 rfl) ?_
            refine gt_X0_registers E fl_X0_9 hP dX0_make_63 ?_
            refine lv_iload_n E.1.1 E.1.2.1 dX0_make_66 rfl (lv_at hl 3 rfl) ?_
            refine lv_aload_n E.1.1 E.1.2.1 dX0_make_67 rfl (lv_at hl 1 rfl) ?_
            refine lv_aload_n E.1.1 E.1.2.1 dX0_make_68 rfl (lv_at hl 1 rfl) ?_
            refine gt_X0_program E fl_X0_37 hP dX0_make_69 ?_
            refine lv_iload_n E.1.1 E.1.2.1 dX0_make_72 rfl (lv_at hl 2 rfl) ?_
            refine CM.callVi (n := 1) E (c_X1_y l D cI cJ cZ ad (scCt σ (va_up (gcCt σ) 1 ((gcCt σ 1) + 1))) pl hpl) ml_X0_120 im_X1_y se_X1_y ini_X1 co_X1_y hd_X1_y ⟨Nat.le_of_ble_eq_true rfl, Nat.le_of_ble_eq_true rfl⟩ ⟨Nat.le_refl _, Nat.le_refl _⟩ 1 rfl rfl hP (hD _) hS hA2 rfl hl.1 (Nat.le_of_ble_eq_true rfl) dX0_make_73 rfl (fun H locs hP hS => ?_)
            refine tpi (y := nI (yN σ pl)) (by first | (rw [gs_Y_Ct]; exact (WI_y hR.1.2 (by omega)).1) | exact (WI_y hR.1.2 (by omega)).1) ?_
            refine CM.callVl (n := 1) E (c_X0_newObject l D cI cJ cZ ad (scCt σ (va_up (gcCt σ) 1 ((gcCt σ 1) + 1))) (yN σ pl) (by first | (rw [gs_ob_Ct]; exact hob) | exact hob)) ml_X0_81 im_X0_newObject se_X0_newObject ini_X0 co_X0_newObject hd_X0_newObject ⟨Nat.le_of_ble_eq_true rfl, Nat.le_of_ble_eq_true rfl⟩ ⟨Nat.le_refl _, Nat.le_refl _⟩ 3 rfl rfl hP (hD _) hS hA2 rfl hl.1 (Nat.le_of_ble_eq_true rfl) dX0_make_76 rfl (fun H locs hP hS => ?_)
            refine as_CS_Rg (i := r) (v := .inr (gcob (scCt σ (va_up (gcCt σ) 1 ((gcCt σ 1) + 1))))) E hP hD hS hr0 dX0_make_79 (fun H locs hP hS => ?_)
            exact CM.retv E hr hlk hA (by unfold mkF; rw [if_neg (by intro z; first | exact absurd (h4.symm.trans z.1) (by decide) | exact h16 z.2), if_neg (by omega), show mk2 (yN σ pl) r (inc 1 σ) = (scRg (noF (yN σ pl) (scCt σ (va_up (gcCt σ) 1 ((gcCt σ 1) + 1)))) (va_up (gcRg (noF (yN σ pl) (scCt σ (va_up (gcCt σ) 1 ((gcCt σ 1) + 1))))) r (.inr (gcob (scCt σ (va_up (gcCt σ) 1 ((gcCt σ 1) + 1))))))) from (by simp only [mk2, noF, inc, gcP, gcL, gcK, gcX, gcY, gcZ, gcn, gcV, gcCV, gcma, gcre, gcca, gcRg, gcBo, gcNe, gcAn, gcCl, gcFl, gcPo, gcCt, gcsh, gcrm, gcfr, gcob, gctr, scP, scL, scK, scX, scY, scZ, scn, scV, scCV, scma, scre, scca, scRg, scBo, scNe, scAn, scCl, scFl, scPo, scCt, scsh, scrm, scfr, scob, sctr])]; exact hP) hS rfl dX0_make_80
        · refine lv_aload_n E.1.1 E.1.2.1 dX0_make_42 rfl (lv_at hl 1 rfl) ?_
          refine lv_iconst (v := nI 3) E.1.1 E.1.2.1 dX0_make_43 rfl ?_
          refine pt_X0_trap (v := 3) E fl_X0_59 hP hD hS dX0_make_44 (fun H locs hP hS => ?_)
          exact CM.retv E hr hlk hA (by unfold mkF; rw [if_neg (by intro z; first | exact absurd (h4.symm.trans z.1) (by decide) | exact h16 z.2), if_pos h39]; exact hP) hS rfl dX0_make_47
    · refine lv_iconst (v := nI 1) E.1.1 E.1.2.1 dX0_make_19 rfl ?_
      refine lv_goto (tgt := 24) E.1.1 E.1.2.1 dX0_make_20 (by decide) ?_
      refine lv_istore_n (lv' := [(3, .int (nI 1)), (0, .ref (ad 3)), (1, .int (nI pl)), (2, .int (nI r))]) E.1.1 E.1.2.1 dX0_make_24 rfl hl (by decide) rfl (fun ls hl => ?_)
      refine lv_iload_n E.1.1 E.1.2.1 dX0_make_25 rfl (lv_at hl 0 rfl) ?_
      refine nv_if_ne (by omega) E dX0_make_26 (tgt := 48) (by decide) (fun h26 => ?_) (fun h26 => ?_)
      · refine lv_iload_n E.1.1 E.1.2.1 dX0_make_48 rfl (lv_at hl 0 rfl) ?_
        refine nv_if_ne (by omega) E dX0_make_49 (tgt := 62) (by decide) (fun h49 => ?_) (fun h49 => ?_)
        · refine lv_aload_n E.1.1 E.1.2.1 dX0_make_62 rfl (lv_at hl 1 rfl) ?_
          refine gt_X0_registers E fl_X0_9 hP dX0_make_63 ?_
          refine lv_iload_n E.1.1 E.1.2.1 dX0_make_66 rfl (lv_at hl 3 rfl) ?_
          refine lv_aload_n E.1.1 E.1.2.1 dX0_make_67 rfl (lv_at hl 1 rfl) ?_
          refine lv_aload_n E.1.1 E.1.2.1 dX0_make_68 rfl (lv_at hl 1 rfl) ?_
          refine gt_X0_program E fl_X0_37 hP dX0_make_69 ?_
          refine lv_iload_n E.1.1 E.1.2.1 dX0_make_72 rfl (lv_at hl 2 rfl) ?_
          refine CM.callVi (n := 1) E (c_X1_y l D cI cJ cZ ad σ pl hpl) ml_X0_120 im_X1_y se_X1_y ini_X1 co_X1_y hd_X1_y ⟨Nat.le_of_ble_eq_true rfl, Nat.le_of_ble_eq_true rfl⟩ ⟨Nat.le_refl _, Nat.le_refl _⟩ 1 rfl rfl hP (hD _) hS hA2 rfl hl.1 (Nat.le_of_ble_eq_true rfl) dX0_make_73 rfl (fun H locs hP hS => ?_)
          refine tpi (y := nI (yN σ pl)) (by first | (rw [gs_Y_Ct]; exact (WI_y hR.1.2 (by omega)).1) | exact (WI_y hR.1.2 (by omega)).1) ?_
          refine CM.callVl (n := 1) E (c_X0_newObject l D cI cJ cZ ad σ (yN σ pl) (by first | (rw [gs_ob_Ct]; exact hob) | exact hob)) ml_X0_81 im_X0_newObject se_X0_newObject ini_X0 co_X0_newObject hd_X0_newObject ⟨Nat.le_of_ble_eq_true rfl, Nat.le_of_ble_eq_true rfl⟩ ⟨Nat.le_refl _, Nat.le_refl _⟩ 3 rfl rfl hP (hD _) hS hA2 rfl hl.1 (Nat.le_of_ble_eq_true rfl) dX0_make_76 rfl (fun H locs hP hS => ?_)
          refine as_CS_Rg (i := r) (v := .inr (gcob σ)) E hP hD hS hr0 dX0_make_79 (fun H locs hP hS => ?_)
          exact CM.retv E hr hlk hA (by unfold mkF; rw [if_pos ⟨h4, h16⟩, show mk2 (yN σ pl) r σ = (scRg (noF (yN σ pl) σ) (va_up (gcRg (noF (yN σ pl) σ)) r (.inr (gcob σ)))) from (by simp only [mk2, noF, inc, gcP, gcL, gcK, gcX, gcY, gcZ, gcn, gcV, gcCV, gcma, gcre, gcca, gcRg, gcBo, gcNe, gcAn, gcCl, gcFl, gcPo, gcCt, gcsh, gcrm, gcfr, gcob, gctr, scP, scL, scK, scX, scY, scZ, scn, scV, scCV, scma, scre, scca, scRg, scBo, scNe, scAn, scCl, scFl, scPo, scCt, scsh, scrm, scfr, scob, sctr])]; exact hP) hS rfl dX0_make_80
        · exact absurd h49 (by omega)
      · exact absurd h26 (by omega)
