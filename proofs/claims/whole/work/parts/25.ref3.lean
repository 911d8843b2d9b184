set_option maxRecDepth 100000 in
set_option maxHeartbeats 400000 in
theorem c_X4_puts (l : Launch) (D : va_G) (cI cJ cZ : ClassId) (ad : Nat → Nat) (σ : MS) (i : Nat)  (hV : VI σ) (hi : i < 78) : CM l D (t3 cI cJ cZ) yX4_puts cX4_puts 2 (some .int) 0 [.ref (ad 0), .int (nI i)] (wR ad cI cJ cZ σ) (some (.int (nI (if gmct σ 0 = 40 then 7 else 0)))) (wR ad cI cJ cZ (puF i σ)) := by
  refine CM.of (by decide) (Nat.le_of_ble_eq_true rfl) ?_
  intro p e s m below meth c A ls E hr hlk hP hD0 hA hA2 hS hl
  have hD := wR_D hD0
  have hl : lv_has ls 2 [(0, .ref (ad 0)), (1, .int (nI i))] := hl
  have hc0 := hV.2.2.2.1.1
  refine lv_aload_n E.1.1 E.1.2.1 dX4_puts_0 rfl (lv_at hl 0 rfl) ?_
  refine gt_X4_counts E fl_X4_66 hP dX4_puts_1 ?_
  refine lv_iconst (v := nI 0) E.1.1 E.1.2.1 dX4_puts_4 rfl ?_
  refine ld_MS_ct (i := 0) E hP (by omega) dX4_puts_5 ?_
  refine lv_bipush (v := nI 40) E.1.1 E.1.2.1 dX4_puts_6 rfl ?_
  refine nv_icmp_ne (by omega) (by omega) E dX4_puts_8 (tgt := 14) (by decide) (fun h8 => ?_) (fun h8 => ?_)
  · refine lv_aload_n E.1.1 E.1.2.1 dX4_puts_14 rfl (lv_at hl 0 rfl) ?_
    refine gt_X4_outs E fl_X4_63 hP dX4_puts_15 ?_
    refine lv_aload_n E.1.1 E.1.2.1 dX4_puts_18 rfl (lv_at hl 0 rfl) ?_
    refine gt_X4_counts E fl_X4_66 hP dX4_puts_19 ?_
    refine lv_iconst (v := nI 0) E.1.1 E.1.2.1 dX4_puts_22 rfl ?_
    refine ld_MS_ct (i := 0) E hP (by omega) dX4_puts_23 ?_
    refine lv_aload_n E.1.1 E.1.2.1 dX4_puts_24 rfl (lv_at hl 0 rfl) ?_
    refine gt_X4_is E fl_X4_57 hP dX4_puts_25 ?_
    refine lv_iload_n E.1.1 E.1.2.1 dX4_puts_28 rfl (lv_at hl 1 rfl) ?_
    refine ld_MS_is (i := i) E hP (by omega) dX4_puts_29 ?_
    refine bv_if_eq (x := gmis σ i) E dX4_puts_30 (tgt := 51) (by decide) (fun h30 => ?_) (fun h30 => ?_)
    · refine lv_aload_n E.1.1 E.1.2.1 dX4_puts_51 rfl (lv_at hl 0 rfl) ?_
      refine gt_X4_value E fl_X4_60 hP dX4_puts_52 ?_
      refine lv_iload_n E.1.1 E.1.2.1 dX4_puts_55 rfl (lv_at hl 1 rfl) ?_
      refine ld_MS_va (i := i) E hP (by omega) dX4_puts_56 ?_
      refine as_MS_ou (i := gmct σ 0) (v := gmva σ i) E hP hD hS (by omega) dX4_puts_57 (fun H locs hP hS => ?_)
      refine lv_aload_n E.1.1 E.1.2.1 dX4_puts_58 rfl (lv_at hl 0 rfl) ?_
      refine gt_X4_counts E fl_X4_66 hP dX4_puts_59 ?_
      refine lv_iconst (v := nI 0) E.1.1 E.1.2.1 dX4_puts_62 rfl ?_
      refine lv_dup2_11 E.1.1 E.1.2.1 dX4_puts_63 rfl rfl ?_
      refine ld_MS_ct (i := 0) E hP (by omega) dX4_puts_64 ?_
      refine tpi (y := nI (gmct σ 0)) (by rw [hs_ct_ou]) ?_
      refine lv_iconst (v := nI 1) E.1.1 E.1.2.1 dX4_puts_65 rfl ?_
      refine nv_iadd E dX4_puts_66 ?_
      refine as_MS_ct (i := 0) (v := (gmct σ 0) + 1) E hP hD hS (by omega) dX4_puts_67 (fun H locs hP hS => ?_)
      have hP : va_P D vwCl (wR ad cI cJ cZ (smct (smou σ (va_up (gmou σ) (gmct σ 0) (gmva σ i))) (va_up (gmct σ) 0 ((gmct σ 0) + 1)))) H := by have q9 := hP; rw [hs_ct_ou] at q9; exact q9
      refine lv_iconst (v := nI 0) E.1.1 E.1.2.1 dX4_puts_68 rfl ?_
      exact CM.reti E hr hlk hA (by unfold puF; rw [if_neg h8]; unfold poM; first | (rw [if_pos h30]; exact hP) | (rw [if_neg (by rw [h30]; decide)]; exact hP)) hS (by rw [if_neg h8]) dX4_puts_69
    · refine lv_sipush (v := nI 1000) E.1.1 E.1.2.1 dX4_puts_33 rfl ?_
      refine lv_aload_n E.1.1 E.1.2.1 dX4_puts_36 rfl (lv_at hl 0 rfl) ?_
      refine gt_X4_classOf E fl_X4_39 hP dX4_puts_37 ?_
      refine lv_aload_n E.1.1 E.1.2.1 dX4_puts_40 rfl (lv_at hl 0 rfl) ?_
      refine gt_X4_value E fl_X4_60 hP dX4_puts_41 ?_
      refine lv_iload_n E.1.1 E.1.2.1 dX4_puts_44 rfl (lv_at hl 1 rfl) ?_
      refine ld_MS_va (i := i) E hP (by omega) dX4_puts_45 ?_
      refine tpi (y := nI (vN σ i)) ((hV.2.2.1.1 i h30).1) ?_
      refine ld_MS_cl (i := vN σ i) E hP (by have := (hV.2.2.1.1 i h30).2; omega) dX4_puts_46 ?_
      refine nv_iadd E dX4_puts_47 ?_
      refine lv_goto (tgt := 57) E.1.1 E.1.2.1 dX4_puts_48 (by decide) ?_
      refine as_MS_ou (i := gmct σ 0) (v := nI (1000 + (gmcl σ (vN σ i)))) E hP hD hS (by omega) dX4_puts_57 (fun H locs hP hS => ?_)
      refine lv_aload_n E.1.1 E.1.2.1 dX4_puts_58 rfl (lv_at hl 0 rfl) ?_
      refine gt_X4_counts E fl_X4_66 hP dX4_puts_59 ?_
      refine lv_iconst (v := nI 0) E.1.1 E.1.2.1 dX4_puts_62 rfl ?_
      refine lv_dup2_11 E.1.1 E.1.2.1 dX4_puts_63 rfl rfl ?_
      refine ld_MS_ct (i := 0) E hP (by omega) dX4_puts_64 ?_
      refine tpi (y := nI (gmct σ 0)) (by rw [hs_ct_ou]) ?_
      refine lv_iconst (v := nI 1) E.1.1 E.1.2.1 dX4_puts_65 rfl ?_
      refine nv_iadd E dX4_puts_66 ?_
      refine as_MS_ct (i := 0) (v := (gmct σ 0) + 1) E hP hD hS (by omega) dX4_puts_67 (fun H locs hP hS => ?_)
      have hP : va_P D vwCl (wR ad cI cJ cZ (smct (smou σ (va_up (gmou σ) (gmct σ 0) (nI (1000 + (gmcl σ (vN σ i)))))) (va_up (gmct σ) 0 ((gmct σ 0) + 1)))) H := by have q9 := hP; rw [hs_ct_ou] at q9; exact q9
      refine lv_iconst (v := nI 0) E.1.1 E.1.2.1 dX4_puts_68 rfl ?_
      exact CM.reti E hr hlk hA (by unfold puF; rw [if_neg h8]; unfold poM; first | (rw [if_pos h30]; exact hP) | (rw [if_neg (by rw [h30]; decide)]; exact hP)) hS (by rw [if_neg h8]) dX4_puts_69
  · refine lv_bipush (v := nI 7) E.1.1 E.1.2.1 dX4_puts_11 rfl ?_
    exact CM.reti E hr hlk hA (by unfold puF; rw [if_pos h8]; exact hP) hS (by rw [if_pos h8]) dX4_puts_13
set_option maxRecDepth 100000 in
set_option maxHeartbeats 400000 in
theorem c_X4_news (l : Launch) (D : va_G) (cI cJ cZ : ClassId) (ad : Nat → Nat) (σ : MS) (z : Nat) (i : Nat) (t : Nat)  (hV : VI σ) (hob : gmob σ < 401) (hz : z ≤ 6) (hi : i < 78) : CM l D (t3 cI cJ cZ) yX4_news cX4_news 5 (some .int) 1 [.ref (ad 0), .int (nI z), .int (nI i), .int (nI t)] (wR ad cI cJ cZ σ) (some (.int (nI (nwR z σ)))) (wR ad cI cJ cZ (nwF z i t σ)) := by
  refine CM.of (by decide) (Nat.le_of_ble_eq_true rfl) ?_
  intro p e s m below meth c A ls E hr hlk hP hD0 hA hA2 hS hl
  have hD := wR_D hD0
  have hl : lv_has ls 5 [(0, .ref (ad 0)), (1, .int (nI z)), (2, .int (nI i)), (3, .int (nI t))] := hl
  refine lv_aload_n E.1.1 E.1.2.1 dX4_news_0 rfl (lv_at hl 0 rfl) ?_
  refine lv_iload_n E.1.1 E.1.2.1 dX4_news_1 rfl (lv_at hl 3 rfl) ?_
  refine lv_iload_n E.1.1 E.1.2.1 dX4_news_2 rfl (lv_at hl 1 rfl) ?_
  refine lv_iconst (v := nI 5) E.1.1 E.1.2.1 dX4_news_3 rfl ?_
  refine nv_icmp_ne (by omega) (by omega) E dX4_news_4 (tgt := 11) (by decide) (fun h4 => ?_) (fun h4 => ?_)
  · refine lv_iconst (v := nI 0) E.1.1 E.1.2.1 dX4_news_11 rfl ?_
    refine CM.callVi (n := 2) E (c_X4_makes l D cI cJ cZ ad σ t false hV hob) ml_X4_136 im_X4_makes se_X4_makes ini_X4 co_X4_makes hd_X4_makes ⟨Nat.le_of_ble_eq_true rfl, Nat.le_of_ble_eq_true rfl⟩ ⟨Nat.le_refl _, Nat.le_refl _⟩ 0 rfl rfl hP (hD _) hS hA2 rfl hl.1 (Nat.le_of_ble_eq_true rfl) dX4_news_12 rfl (fun H locs hP hS => ?_)
    have hd9 := decide_eq_false h4
    refine lv_istore (lv' := [(4, .int (oI (maR false σ))), (0, .ref (ad 0)), (1, .int (nI z)), (2, .int (nI i)), (3, .int (nI t))]) E.1.1 E.1.2.1 dX4_news_15 hl (by decide) rfl (fun ls hl => ?_)
    refine lv_iload E.1.1 E.1.2.1 dX4_news_17 (lv_at hl 0 rfl) ?_
    refine ov_ge0 (o := maR false σ) (by intro j hj; unfold maR at hj; split at hj <;> cases hj; omega) E dX4_news_19 (tgt := 24) (by decide) (fun k19 h19 => ?_) (fun h19 => ?_)
    · have hl : lv_has ls 5 [(4, .int (nI k19)), (0, .ref (ad 0)), (1, .int (nI z)), (2, .int (nI i)), (3, .int (nI t))] := by have q9 := hl; rw [h19] at q9; exact q9
      refine lv_aload_n E.1.1 E.1.2.1 dX4_news_24 rfl (lv_at hl 1 rfl) ?_
      refine lv_iload_n E.1.1 E.1.2.1 dX4_news_25 rfl (lv_at hl 3 rfl) ?_
      refine lv_iconst (v := nI 1) E.1.1 E.1.2.1 dX4_news_26 rfl ?_
      refine lv_iload E.1.1 E.1.2.1 dX4_news_27 (lv_at hl 0 rfl) ?_
      refine CM.callVv (n := 3) E (c_X4_set l D cI cJ cZ ad (maF t false σ) i true (nI k19) (by omega)) ml_X4_128 im_X4_set se_X4_set ini_X4 co_X4_set hd_X4_set ⟨Nat.le_of_ble_eq_true rfl, Nat.le_of_ble_eq_true rfl⟩ ⟨Nat.le_refl _, Nat.le_refl _⟩ 0 rfl rfl hP (hD _) hS hA2 rfl hl.1 (Nat.le_of_ble_eq_true rfl) dX4_news_29 rfl (fun H locs hP hS => ?_)
      refine lv_iconst (v := nI 0) E.1.1 E.1.2.1 dX4_news_32 rfl ?_
      exact CM.reti E hr hlk hA (by unfold nwF; rw [hd9, h19]; exact hP) hS (by unfold nwR; rw [hd9, h19]) dX4_news_33
    · refine lv_iconst (v := nI 3) E.1.1 E.1.2.1 dX4_news_22 rfl ?_
      exact CM.reti E hr hlk hA (by unfold nwF; rw [hd9, h19]; exact hP) hS (by unfold nwR; rw [hd9, h19]) dX4_news_23
  · refine lv_iconst (v := nI 1) E.1.1 E.1.2.1 dX4_news_7 rfl ?_
    refine lv_goto (tgt := 12) E.1.1 E.1.2.1 dX4_news_8 (by decide) ?_
    refine CM.callVi (n := 2) E (c_X4_makes l D cI cJ cZ ad σ t true hV hob) ml_X4_136 im_X4_makes se_X4_makes ini_X4 co_X4_makes hd_X4_makes ⟨Nat.le_of_ble_eq_true rfl, Nat.le_of_ble_eq_true rfl⟩ ⟨Nat.le_refl _, Nat.le_refl _⟩ 0 rfl rfl hP (hD _) hS hA2 rfl hl.1 (Nat.le_of_ble_eq_true rfl) dX4_news_12 rfl (fun H locs hP hS => ?_)
    have hd9 := decide_eq_true h4
    refine lv_istore (lv' := [(4, .int (oI (maR true σ))), (0, .ref (ad 0)), (1, .int (nI z)), (2, .int (nI i)), (3, .int (nI t))]) E.1.1 E.1.2.1 dX4_news_15 hl (by decide) rfl (fun ls hl => ?_)
    refine lv_iload E.1.1 E.1.2.1 dX4_news_17 (lv_at hl 0 rfl) ?_
    refine ov_ge0 (o := maR true σ) (by intro j hj; unfold maR at hj; split at hj <;> cases hj; omega) E dX4_news_19 (tgt := 24) (by decide) (fun k19 h19 => ?_) (fun h19 => ?_)
    · have hl : lv_has ls 5 [(4, .int (nI k19)), (0, .ref (ad 0)), (1, .int (nI z)), (2, .int (nI i)), (3, .int (nI t))] := by have q9 := hl; rw [h19] at q9; exact q9
      refine lv_aload_n E.1.1 E.1.2.1 dX4_news_24 rfl (lv_at hl 1 rfl) ?_
      refine lv_iload_n E.1.1 E.1.2.1 dX4_news_25 rfl (lv_at hl 3 rfl) ?_
      refine lv_iconst (v := nI 1) E.1.1 E.1.2.1 dX4_news_26 rfl ?_
      refine lv_iload E.1.1 E.1.2.1 dX4_news_27 (lv_at hl 0 rfl) ?_
      refine CM.callVv (n := 3) E (c_X4_set l D cI cJ cZ ad (maF t true σ) i true (nI k19) (by omega)) ml_X4_128 im_X4_set se_X4_set ini_X4 co_X4_set hd_X4_set ⟨Nat.le_of_ble_eq_true rfl, Nat.le_of_ble_eq_true rfl⟩ ⟨Nat.le_refl _, Nat.le_refl _⟩ 0 rfl rfl hP (hD _) hS hA2 rfl hl.1 (Nat.le_of_ble_eq_true rfl) dX4_news_29 rfl (fun H locs hP hS => ?_)
      refine lv_iconst (v := nI 0) E.1.1 E.1.2.1 dX4_news_32 rfl ?_
      exact CM.reti E hr hlk hA (by unfold nwF; rw [hd9, h19]; exact hP) hS (by unfold nwR; rw [hd9, h19]) dX4_news_33
    · refine lv_iconst (v := nI 3) E.1.1 E.1.2.1 dX4_news_22 rfl ?_
      exact CM.reti E hr hlk hA (by unfold nwF; rw [hd9, h19]; exact hP) hS (by unfold nwR; rw [hd9, h19]) dX4_news_23
set_option maxRecDepth 100000 in
set_option maxHeartbeats 400000 in
theorem c_X4_sums (l : Launch) (D : va_G) (cI cJ cZ : ClassId) (ad : Nat → Nat) (σ : MS) (ba : Nat) (b : Bool) (x : Nat) (y : Nat) (z : Nat)  (hx : ba + x < 78) (hy : ba + y < 78) (hz : ba + z < 78) : CM l D (t3 cI cJ cZ) yX4_sums cX4_sums 8 (some .int) 1 [.ref (ad 0), .int (nI ba), .int (bI b), .int (nI x), .int (nI y), .int (nI z)] (wR ad cI cJ cZ σ) (some (.int (nI (if suB ba y z σ = true then 1 else 0)))) (wR ad cI cJ cZ (suF ba b x y z σ)) := by
  refine CM.of (by decide) (Nat.le_of_ble_eq_true rfl) ?_
  intro p e s m below meth c A ls E hr hlk hP hD0 hA hA2 hS hl
  have hD := wR_D hD0
  have hl : lv_has ls 8 [(0, .ref (ad 0)), (1, .int (nI ba)), (2, .int (bI b)), (3, .int (nI x)), (4, .int (nI y)), (5, .int (nI z))] := hl
  refine lv_aload_n E.1.1 E.1.2.1 dX4_sums_0 rfl (lv_at hl 0 rfl) ?_
  refine gt_X4_is E fl_X4_57 hP dX4_sums_1 ?_
  refine lv_iload_n E.1.1 E.1.2.1 dX4_sums_4 rfl (lv_at hl 1 rfl) ?_
  refine lv_iload E.1.1 E.1.2.1 dX4_sums_5 (lv_at hl 4 rfl) ?_
  refine nv_iadd E dX4_sums_7 ?_
  refine ld_MS_is (i := ba + y) E hP (by omega) dX4_sums_8 ?_
  refine bv_if_ne (x := gmis σ (ba + y)) E dX4_sums_9 (tgt := 24) (by decide) (fun h9 => ?_) (fun h9 => ?_)
  · refine lv_iconst (v := nI 1) E.1.1 E.1.2.1 dX4_sums_24 rfl ?_
    exact CM.reti E hr hlk hA (by unfold suF; rw [if_pos (by unfold suB; simp [*])]; exact hP) hS (by rw [if_pos (by unfold suB; simp [*])]) dX4_sums_25
  · refine lv_aload_n E.1.1 E.1.2.1 dX4_sums_12 rfl (lv_at hl 0 rfl) ?_
    refine gt_X4_is E fl_X4_57 hP dX4_sums_13 ?_
    refine lv_iload_n E.1.1 E.1.2.1 dX4_sums_16 rfl (lv_at hl 1 rfl) ?_
    refine lv_iload E.1.1 E.1.2.1 dX4_sums_17 (lv_at hl 5 rfl) ?_
    refine nv_iadd E dX4_sums_19 ?_
    refine ld_MS_is (i := ba + z) E hP (by omega) dX4_sums_20 ?_
    refine bv_if_eq (x := gmis σ (ba + z)) E dX4_sums_21 (tgt := 26) (by decide) (fun h21 => ?_) (fun h21 => ?_)
    · refine lv_aload_n E.1.1 E.1.2.1 dX4_sums_26 rfl (lv_at hl 0 rfl) ?_
      refine gt_X4_value E fl_X4_60 hP dX4_sums_27 ?_
      refine lv_iload_n E.1.1 E.1.2.1 dX4_sums_30 rfl (lv_at hl 1 rfl) ?_
      refine lv_iload E.1.1 E.1.2.1 dX4_sums_31 (lv_at hl 4 rfl) ?_
      refine nv_iadd E dX4_sums_33 ?_
      refine ld_MS_va (i := ba + y) E hP (by omega) dX4_sums_34 ?_
      refine lv_istore (lv' := [(6, .int (gmva σ (ba + y))), (0, .ref (ad 0)), (1, .int (nI ba)), (2, .int (bI b)), (3, .int (nI x)), (4, .int (nI y)), (5, .int (nI z))]) E.1.1 E.1.2.1 dX4_sums_35 hl (by decide) rfl (fun ls hl => ?_)
      refine lv_aload_n E.1.1 E.1.2.1 dX4_sums_37 rfl (lv_at hl 1 rfl) ?_
      refine gt_X4_value E fl_X4_60 hP dX4_sums_38 ?_
      refine lv_iload_n E.1.1 E.1.2.1 dX4_sums_41 rfl (lv_at hl 2 rfl) ?_
      refine lv_iload E.1.1 E.1.2.1 dX4_sums_42 (lv_at hl 6 rfl) ?_
      refine nv_iadd E dX4_sums_44 ?_
      refine ld_MS_va (i := ba + z) E hP (by omega) dX4_sums_45 ?_
      refine lv_istore (lv' := [(7, .int (gmva σ (ba + z))), (6, .int (gmva σ (ba + y))), (0, .ref (ad 0)), (1, .int (nI ba)), (2, .int (bI b)), (3, .int (nI x)), (4, .int (nI y)), (5, .int (nI z))]) E.1.1 E.1.2.1 dX4_sums_46 hl (by decide) rfl (fun ls hl => ?_)
      refine lv_aload_n E.1.1 E.1.2.1 dX4_sums_48 rfl (lv_at hl 2 rfl) ?_
      refine lv_iload_n E.1.1 E.1.2.1 dX4_sums_49 rfl (lv_at hl 3 rfl) ?_
      refine lv_iload_n E.1.1 E.1.2.1 dX4_sums_50 rfl (lv_at hl 5 rfl) ?_
      refine nv_iadd E dX4_sums_51 ?_
      refine lv_iconst (v := nI 0) E.1.1 E.1.2.1 dX4_sums_52 rfl ?_
      refine lv_iload_n E.1.1 E.1.2.1 dX4_sums_53 rfl (lv_at hl 4 rfl) ?_
      refine bv_if_eq (x := b) E dX4_sums_54 (tgt := 65) (by decide) (fun h54 => ?_) (fun h54 => ?_)
      · refine lv_iload E.1.1 E.1.2.1 dX4_sums_65 (lv_at hl 1 rfl) ?_
        refine lv_iload E.1.1 E.1.2.1 dX4_sums_67 (lv_at hl 0 rfl) ?_
        refine lv_icmp_ge (tgt := 76) E.1.1 E.1.2.1 dX4_sums_69 (by decide) (fun h69 => ?_) (fun h69 => ?_)
        · refine lv_iconst (v := nI 0) E.1.1 E.1.2.1 dX4_sums_76 rfl ?_
          refine CM.callVv (n := 3) E (c_X4_set l D cI cJ cZ ad σ (ba + x) false (nI 0) (by omega)) ml_X4_128 im_X4_set se_X4_set ini_X4 co_X4_set hd_X4_set ⟨Nat.le_of_ble_eq_true rfl, Nat.le_of_ble_eq_true rfl⟩ ⟨Nat.le_refl _, Nat.le_refl _⟩ 0 rfl rfl hP (hD _) hS hA2 rfl hl.1 (Nat.le_of_ble_eq_true rfl) dX4_sums_77 rfl (fun H locs hP hS => ?_)
          refine lv_iconst (v := nI 0) E.1.1 E.1.2.1 dX4_sums_80 rfl ?_
          exact CM.reti E hr hlk hA (by unfold suF; rw [if_neg (by unfold suB; simp [*])]; unfold suV; first | (rw [if_pos h54]; exact hP) | (rw [if_neg (by rw [h54]; decide), if_neg (by rw [Int32.not_lt]; exact h69)]; exact hP) | (rw [if_neg (by rw [h54]; decide), if_pos (by rw [← Int32.not_le]; exact h69)]; exact hP)) hS (by rw [if_neg (by unfold suB; simp [*])]) dX4_sums_81
        · refine lv_iconst (v := nI 1) E.1.1 E.1.2.1 dX4_sums_72 rfl ?_
          refine lv_goto (tgt := 77) E.1.1 E.1.2.1 dX4_sums_73 (by decide) ?_
          refine CM.callVv (n := 3) E (c_X4_set l D cI cJ cZ ad σ (ba + x) false (nI 1) (by omega)) ml_X4_128 im_X4_set se_X4_set ini_X4 co_X4_set hd_X4_set ⟨Nat.le_of_ble_eq_true rfl, Nat.le_of_ble_eq_true rfl⟩ ⟨Nat.le_refl _, Nat.le_refl _⟩ 0 rfl rfl hP (hD _) hS hA2 rfl hl.1 (Nat.le_of_ble_eq_true rfl) dX4_sums_77 rfl (fun H locs hP hS => ?_)
          refine lv_iconst (v := nI 0) E.1.1 E.1.2.1 dX4_sums_80 rfl ?_
          exact CM.reti E hr hlk hA (by unfold suF; rw [if_neg (by unfold suB; simp [*])]; unfold suV; first | (rw [if_pos h54]; exact hP) | (rw [if_neg (by rw [h54]; decide), if_neg (by rw [Int32.not_lt]; exact h69)]; exact hP) | (rw [if_neg (by rw [h54]; decide), if_pos (by rw [← Int32.not_le]; exact h69)]; exact hP)) hS (by rw [if_neg (by unfold suB; simp [*])]) dX4_sums_81
      · refine lv_iload E.1.1 E.1.2.1 dX4_sums_57 (lv_at hl 1 rfl) ?_
        refine lv_iload E.1.1 E.1.2.1 dX4_sums_59 (lv_at hl 0 rfl) ?_
        refine lv_iadd E.1.1 E.1.2.1 dX4_sums_61 ?_
        refine lv_goto (tgt := 77) E.1.1 E.1.2.1 dX4_sums_62 (by decide) ?_
        refine CM.callVv (n := 3) E (c_X4_set l D cI cJ cZ ad σ (ba + x) false ((gmva σ (ba + y)) + (gmva σ (ba + z))) (by omega)) ml_X4_128 im_X4_set se_X4_set ini_X4 co_X4_set hd_X4_set ⟨Nat.le_of_ble_eq_true rfl, Nat.le_of_ble_eq_true rfl⟩ ⟨Nat.le_refl _, Nat.le_refl _⟩ 0 rfl rfl hP (hD _) hS hA2 rfl hl.1 (Nat.le_of_ble_eq_true rfl) dX4_sums_77 rfl (fun H locs hP hS => ?_)
        refine lv_iconst (v := nI 0) E.1.1 E.1.2.1 dX4_sums_80 rfl ?_
        exact CM.reti E hr hlk hA (by unfold suF; rw [if_neg (by unfold suB; simp [*])]; unfold suV; first | (rw [if_pos h54]; exact hP) | (rw [if_neg (by rw [h54]; decide), if_neg (by rw [Int32.not_lt]; exact h69)]; exact hP) | (rw [if_neg (by rw [h54]; decide), if_pos (by rw [← Int32.not_le]; exact h69)]; exact hP)) hS (by rw [if_neg (by unfold suB; simp [*])]) dX4_sums_81
    · refine lv_iconst (v := nI 1) E.1.1 E.1.2.1 dX4_sums_24 rfl ?_
      exact CM.reti E hr hlk hA (by unfold suF; rw [if_pos (by unfold suB; simp [*])]; exact hP) hS (by rw [if_pos (by unfold suB; simp [*])]) dX4_sums_25
set_option maxRecDepth 100000 in
set_option maxHeartbeats 400000 in
theorem c_X4_calls (l : Launch) (D : va_G) (cI cJ cZ : ClassId) (ad : Nat → Nat) (σ : MS) (z : Nat) (ba : Nat) (x : Nat) (y : Nat) (q : Nat)  (hV : VI σ) (hz : z ≤ 6) (hba : ba ≤ 66) (hy : y < 6) (hq : q < 4) : CM l D (t3 cI cJ cZ) yX4_calls cX4_calls 7 (some .int) 1 [.ref (ad 0), .int (nI z), .int (nI ba), .int (nI x), .int (nI y), .int (nI q)] (wR ad cI cJ cZ σ) (some (.int (nI (clR ba y q σ)))) (wR ad cI cJ cZ (clF z ba x y q σ)) := by
  refine CM.of (by decide) (Nat.le_of_ble_eq_true rfl) ?_
  intro p e s m below meth c A ls E hr hlk hP hD0 hA hA2 hS hl
  have hD := wR_D hD0
  have hl : lv_has ls 7 [(0, .ref (ad 0)), (1, .int (nI z)), (2, .int (nI ba)), (3, .int (nI x)), (4, .int (nI y)), (5, .int (nI q))] := hl
  refine lv_aload_n E.1.1 E.1.2.1 dX4_calls_0 rfl (lv_at hl 0 rfl) ?_
  refine gt_X4_is E fl_X4_57 hP dX4_calls_1 ?_
  refine lv_iload_n E.1.1 E.1.2.1 dX4_calls_4 rfl (lv_at hl 2 rfl) ?_
  refine lv_iload E.1.1 E.1.2.1 dX4_calls_5 (lv_at hl 4 rfl) ?_
  refine nv_iadd E dX4_calls_7 ?_
  refine ld_MS_is (i := ba + y) E hP (by omega) dX4_calls_8 ?_
  refine bv_if_ne (x := gmis σ (ba + y)) E dX4_calls_9 (tgt := 14) (by decide) (fun h9 => ?_) (fun h9 => ?_)
  · have hv9 := hV.2.2.1.1 _ h9
    refine lv_aload_n E.1.1 E.1.2.1 dX4_calls_14 rfl (lv_at hl 0 rfl) ?_
    refine lv_aload_n E.1.1 E.1.2.1 dX4_calls_15 rfl (lv_at hl 0 rfl) ?_
    refine gt_X4_classOf E fl_X4_39 hP dX4_calls_16 ?_
    refine lv_aload_n E.1.1 E.1.2.1 dX4_calls_19 rfl (lv_at hl 0 rfl) ?_
    refine gt_X4_value E fl_X4_60 hP dX4_calls_20 ?_
    refine lv_iload_n E.1.1 E.1.2.1 dX4_calls_23 rfl (lv_at hl 2 rfl) ?_
    refine lv_iload E.1.1 E.1.2.1 dX4_calls_24 (lv_at hl 4 rfl) ?_
    refine nv_iadd E dX4_calls_26 ?_
    refine ld_MS_va (i := ba + y) E hP (by omega) dX4_calls_27 ?_
    refine tpi (y := nI (vN σ (ba + y))) (hv9.1) ?_
    refine ld_MS_cl (i := vN σ (ba + y)) E hP (by omega) dX4_calls_28 ?_
    refine lv_iload E.1.1 E.1.2.1 dX4_calls_29 (lv_at hl 5 rfl) ?_
    refine CM.callVi (n := 2) E (c_X4_target l D cI cJ cZ ad σ (gmcl σ (vN σ (ba + y))) q (hV.2.1.1 _) hq hV.1) ml_X4_95 im_X4_target se_X4_target ini_X4 co_X4_target hd_X4_target ⟨Nat.le_of_ble_eq_true rfl, Nat.le_of_ble_eq_true rfl⟩ ⟨Nat.le_refl _, Nat.le_refl _⟩ 0 rfl rfl hP (hD _) hS hA2 rfl hl.1 (Nat.le_of_ble_eq_true rfl) dX4_calls_31 rfl (fun H locs hP hS => ?_)
    refine lv_istore (lv' := [(6, .int (oI (tgM σ (gmcl σ (vN σ (ba + y))) q))), (0, .ref (ad 0)), (1, .int (nI z)), (2, .int (nI ba)), (3, .int (nI x)), (4, .int (nI y)), (5, .int (nI q))]) E.1.1 E.1.2.1 dX4_calls_34 hl (by decide) rfl (fun ls hl => ?_)
    refine lv_iload E.1.1 E.1.2.1 dX4_calls_36 (lv_at hl 0 rfl) ?_
    refine ov_ge0 (o := tgM σ (gmcl σ (vN σ (ba + y))) q) (fun j hj => by have := tgM_lt hV.1 (hV.2.1.1 _) hq hj; omega) E dX4_calls_38 (tgt := 44) (by decide) (fun k38 h38 => ?_) (fun h38 => ?_)
    · have hk38 := tgM_lt hV.1 (hV.2.1.1 _) hq h38
      have hl : lv_has ls 7 [(6, .int (nI k38)), (0, .ref (ad 0)), (1, .int (nI z)), (2, .int (nI ba)), (3, .int (nI x)), (4, .int (nI y)), (5, .int (nI q))] := by have q9 := hl; rw [h38] at q9; exact q9
      refine lv_aload_n E.1.1 E.1.2.1 dX4_calls_44 rfl (lv_at hl 1 rfl) ?_
      refine gt_X4_frames E fl_X4_125 hP dX4_calls_45 ?_
      refine lv_bipush (v := nI 12) E.1.1 E.1.2.1 dX4_calls_48 rfl ?_
      refine nv_icmp_ne (by have := hV.2.2.2.2.1; omega) (by omega) E dX4_calls_50 (tgt := 55) (by decide) (fun h50 => ?_) (fun h50 => ?_)
      · refine lv_iload_n E.1.1 E.1.2.1 dX4_calls_55 rfl (lv_at hl 2 rfl) ?_
        refine lv_iconst (v := nI 2) E.1.1 E.1.2.1 dX4_calls_56 rfl ?_
        refine nv_icmp_eq (by omega) (by omega) E dX4_calls_57 (tgt := 75) (by decide) (fun h57 => ?_) (fun h57 => ?_)
        · refine lv_iload_n E.1.1 E.1.2.1 dX4_calls_75 rfl (lv_at hl 2 rfl) ?_
          refine lv_iconst (v := nI 3) E.1.1 E.1.2.1 dX4_calls_76 rfl ?_
          refine nv_icmp_eq (by omega) (by omega) E dX4_calls_77 (tgt := 90) (by decide) (fun h77 => ?_) (fun h77 => ?_)
          · have hm9 : σ = mcF z σ := by unfold mcF; first | (exfalso; omega) | (rw [if_pos h57]; unfold icM; rfl) | (rw [if_neg h57, if_pos h62]) | (rw [if_neg h57, if_neg h62]; unfold icM; rw [hs_ct_ct, tt_ct])
            rw [hm9] at hP
            have hP : va_P D vwCl (wR ad cI cJ cZ (mcF z σ)) H := hP
            obtain ⟨c1, c2, c3, c4⟩ := mc_get z σ
            refine lv_aload_n E.1.1 E.1.2.1 dX4_calls_90 rfl (lv_at hl 1 rfl) ?_
            refine lv_iload E.1.1 E.1.2.1 dX4_calls_91 (lv_at hl 0 rfl) ?_
            refine lv_aload_n E.1.1 E.1.2.1 dX4_calls_93 rfl (lv_at hl 1 rfl) ?_
            refine gt_X4_value E fl_X4_60 hP dX4_calls_94 ?_
            refine lv_iload_n E.1.1 E.1.2.1 dX4_calls_97 rfl (lv_at hl 3 rfl) ?_
            refine lv_iload E.1.1 E.1.2.1 dX4_calls_98 (lv_at hl 5 rfl) ?_
            refine nv_iadd E dX4_calls_100 ?_
            refine ld_MS_va (i := ba + y) E hP (by omega) dX4_calls_101 ?_
            refine lv_aload_n E.1.1 E.1.2.1 dX4_calls_102 rfl (lv_at hl 1 rfl) ?_
            refine gt_X4_is E fl_X4_57 hP dX4_calls_103 ?_
            refine lv_iload_n E.1.1 E.1.2.1 dX4_calls_106 rfl (lv_at hl 3 rfl) ?_
            refine lv_iconst (v := nI 5) E.1.1 E.1.2.1 dX4_calls_107 rfl ?_
            refine nv_iadd E dX4_calls_108 ?_
            refine ld_MS_is (i := ba + 5) E hP (by omega) dX4_calls_109 ?_
            refine lv_aload_n E.1.1 E.1.2.1 dX4_calls_110 rfl (lv_at hl 1 rfl) ?_
            refine gt_X4_value E fl_X4_60 hP dX4_calls_111 ?_
            refine lv_iload_n E.1.1 E.1.2.1 dX4_calls_114 rfl (lv_at hl 3 rfl) ?_
            refine lv_iconst (v := nI 5) E.1.1 E.1.2.1 dX4_calls_115 rfl ?_
            refine nv_iadd E dX4_calls_116 ?_
            refine ld_MS_va (i := ba + 5) E hP (by omega) dX4_calls_117 ?_
            refine lv_iload_n E.1.1 E.1.2.1 dX4_calls_118 rfl (lv_at hl 4 rfl) ?_
            refine CM.callVv (n := 5) E (c_X4_enters l D cI cJ cZ ad (mcF z σ) k38 (gmva (mcF z σ) (ba + y)) (gmis (mcF z σ) (ba + 5)) (gmva (mcF z σ) (ba + 5)) x (by rw [c3]; have := hV.2.2.2.2.1; omega) (by rw [c4]; exact hV.2.2.2.1.2.1)) ml_X4_132 im_X4_enters se_X4_enters ini_X4 co_X4_enters hd_X4_enters ⟨Nat.le_of_ble_eq_true rfl, Nat.le_of_ble_eq_true rfl⟩ ⟨Nat.le_refl _, Nat.le_refl _⟩ 0 rfl rfl hP (hD _) hS hA2 rfl hl.1 (Nat.le_of_ble_eq_true rfl) dX4_calls_119 rfl (fun H locs hP hS => ?_)
            refine lv_iconst (v := nI 0) E.1.1 E.1.2.1 dX4_calls_122 rfl ?_
            exact CM.reti E hr hlk hA (by simp only [clF, if_pos h9, h38, if_neg h50]; rw [c1, c2] at hP; exact hP) hS (by simp only [clR, if_pos h9, h38, if_neg h50]) dX4_calls_123
          · refine lv_aload_n E.1.1 E.1.2.1 dX4_calls_80 rfl (lv_at hl 1 rfl) ?_
            refine gt_X4_counts E fl_X4_66 hP dX4_calls_81 ?_
            refine lv_iconst (v := nI 3) E.1.1 E.1.2.1 dX4_calls_84 rfl ?_
            refine lv_dup2_11 E.1.1 E.1.2.1 dX4_calls_85 rfl rfl ?_
            refine ld_MS_ct (i := 3) E hP (by omega) dX4_calls_86 ?_
            refine lv_iconst (v := nI 1) E.1.1 E.1.2.1 dX4_calls_87 rfl ?_
            refine nv_iadd E dX4_calls_88 ?_
            refine as_MS_ct (i := 3) (v := (gmct σ 3) + 1) E hP hD hS (by omega) dX4_calls_89 (fun H locs hP hS => ?_)
            have hm9 : (smct σ (va_up (gmct σ) 3 ((gmct σ 3) + 1))) = mcF z σ := by unfold mcF; first | (exfalso; omega) | (rw [if_pos h57]; unfold icM; rfl) | (rw [if_neg h57, if_pos h62]) | (rw [if_neg h57, if_neg h62]; unfold icM; rw [hs_ct_ct, tt_ct])
            rw [hm9] at hP
            have hP : va_P D vwCl (wR ad cI cJ cZ (mcF z σ)) H := hP
            obtain ⟨c1, c2, c3, c4⟩ := mc_get z σ
            refine lv_aload_n E.1.1 E.1.2.1 dX4_calls_90 rfl (lv_at hl 1 rfl) ?_
            refine lv_iload E.1.1 E.1.2.1 dX4_calls_91 (lv_at hl 0 rfl) ?_
            refine lv_aload_n E.1.1 E.1.2.1 dX4_calls_93 rfl (lv_at hl 1 rfl) ?_
            refine gt_X4_value E fl_X4_60 hP dX4_calls_94 ?_
            refine lv_iload_n E.1.1 E.1.2.1 dX4_calls_97 rfl (lv_at hl 3 rfl) ?_
            refine lv_iload E.1.1 E.1.2.1 dX4_calls_98 (lv_at hl 5 rfl) ?_
            refine nv_iadd E dX4_calls_100 ?_
            refine ld_MS_va (i := ba + y) E hP (by omega) dX4_calls_101 ?_
            refine lv_aload_n E.1.1 E.1.2.1 dX4_calls_102 rfl (lv_at hl 1 rfl) ?_
            refine gt_X4_is E fl_X4_57 hP dX4_calls_103 ?_
            refine lv_iload_n E.1.1 E.1.2.1 dX4_calls_106 rfl (lv_at hl 3 rfl) ?_
            refine lv_iconst (v := nI 5) E.1.1 E.1.2.1 dX4_calls_107 rfl ?_
            refine nv_iadd E dX4_calls_108 ?_
            refine ld_MS_is (i := ba + 5) E hP (by omega) dX4_calls_109 ?_
            refine lv_aload_n E.1.1 E.1.2.1 dX4_calls_110 rfl (lv_at hl 1 rfl) ?_
            refine gt_X4_value E fl_X4_60 hP dX4_calls_111 ?_
            refine lv_iload_n E.1.1 E.1.2.1 dX4_calls_114 rfl (lv_at hl 3 rfl) ?_
            refine lv_iconst (v := nI 5) E.1.1 E.1.2.1 dX4_calls_115 rfl ?_
            refine nv_iadd E dX4_calls_116 ?_
            refine ld_MS_va (i := ba + 5) E hP (by omega) dX4_calls_117 ?_
            refine lv_iload_n E.1.1 E.1.2.1 dX4_calls_118 rfl (lv_at hl 4 rfl) ?_
            refine CM.callVv (n := 5) E (c_X4_enters l D cI cJ cZ ad (mcF z σ) k38 (gmva (mcF z σ) (ba + y)) (gmis (mcF z σ) (ba + 5)) (gmva (mcF z σ) (ba + 5)) x (by rw [c3]; have := hV.2.2.2.2.1; omega) (by rw [c4]; exact hV.2.2.2.1.2.1)) ml_X4_132 im_X4_enters se_X4_enters ini_X4 co_X4_enters hd_X4_enters ⟨Nat.le_of_ble_eq_true rfl, Nat.le_of_ble_eq_true rfl⟩ ⟨Nat.le_refl _, Nat.le_refl _⟩ 0 rfl rfl hP (hD _) hS hA2 rfl hl.1 (Nat.le_of_ble_eq_true rfl) dX4_calls_119 rfl (fun H locs hP hS => ?_)
            refine lv_iconst (v := nI 0) E.1.1 E.1.2.1 dX4_calls_122 rfl ?_
            exact CM.reti E hr hlk hA (by simp only [clF, if_pos h9, h38, if_neg h50]; rw [c1, c2] at hP; exact hP) hS (by simp only [clR, if_pos h9, h38, if_neg h50]) dX4_calls_123
        · refine lv_iload_n E.1.1 E.1.2.1 dX4_calls_60 rfl (lv_at hl 2 rfl) ?_
          refine lv_iconst (v := nI 3) E.1.1 E.1.2.1 dX4_calls_61 rfl ?_
          refine nv_icmp_eq (by omega) (by omega) E dX4_calls_62 (tgt := 75) (by decide) (fun h62 => ?_) (fun h62 => ?_)
          · refine lv_iload_n E.1.1 E.1.2.1 dX4_calls_75 rfl (lv_at hl 2 rfl) ?_
            refine lv_iconst (v := nI 3) E.1.1 E.1.2.1 dX4_calls_76 rfl ?_
            refine nv_icmp_eq (by omega) (by omega) E dX4_calls_77 (tgt := 90) (by decide) (fun h77 => ?_) (fun h77 => ?_)
            · have hm9 : σ = mcF z σ := by unfold mcF; first | (exfalso; omega) | (rw [if_pos h57]; unfold icM; rfl) | (rw [if_neg h57, if_pos h62]) | (rw [if_neg h57, if_neg h62]; unfold icM; rw [hs_ct_ct, tt_ct])
              rw [hm9] at hP
              have hP : va_P D vwCl (wR ad cI cJ cZ (mcF z σ)) H := hP
              obtain ⟨c1, c2, c3, c4⟩ := mc_get z σ
              refine lv_aload_n E.1.1 E.1.2.1 dX4_calls_90 rfl (lv_at hl 1 rfl) ?_
              refine lv_iload E.1.1 E.1.2.1 dX4_calls_91 (lv_at hl 0 rfl) ?_
              refine lv_aload_n E.1.1 E.1.2.1 dX4_calls_93 rfl (lv_at hl 1 rfl) ?_
              refine gt_X4_value E fl_X4_60 hP dX4_calls_94 ?_
              refine lv_iload_n E.1.1 E.1.2.1 dX4_calls_97 rfl (lv_at hl 3 rfl) ?_
              refine lv_iload E.1.1 E.1.2.1 dX4_calls_98 (lv_at hl 5 rfl) ?_
              refine nv_iadd E dX4_calls_100 ?_
              refine ld_MS_va (i := ba + y) E hP (by omega) dX4_calls_101 ?_
              refine lv_aload_n E.1.1 E.1.2.1 dX4_calls_102 rfl (lv_at hl 1 rfl) ?_
              refine gt_X4_is E fl_X4_57 hP dX4_calls_103 ?_
              refine lv_iload_n E.1.1 E.1.2.1 dX4_calls_106 rfl (lv_at hl 3 rfl) ?_
              refine lv_iconst (v := nI 5) E.1.1 E.1.2.1 dX4_calls_107 rfl ?_
              refine nv_iadd E dX4_calls_108 ?_
              refine ld_MS_is (i := ba + 5) E hP (by omega) dX4_calls_109 ?_
              refine lv_aload_n E.1.1 E.1.2.1 dX4_calls_110 rfl (lv_at hl 1 rfl) ?_
              refine gt_X4_value E fl_X4_60 hP dX4_calls_111 ?_
              refine lv_iload_n E.1.1 E.1.2.1 dX4_calls_114 rfl (lv_at hl 3 rfl) ?_
              refine lv_iconst (v := nI 5) E.1.1 E.1.2.1 dX4_calls_115 rfl ?_
              refine nv_iadd E dX4_calls_116 ?_
              refine ld_MS_va (i := ba + 5) E hP (by omega) dX4_calls_117 ?_
              refine lv_iload_n E.1.1 E.1.2.1 dX4_calls_118 rfl (lv_at hl 4 rfl) ?_
              refine CM.callVv (n := 5) E (c_X4_enters l D cI cJ cZ ad (mcF z σ) k38 (gmva (mcF z σ) (ba + y)) (gmis (mcF z σ) (ba + 5)) (gmva (mcF z σ) (ba + 5)) x (by rw [c3]; have := hV.2.2.2.2.1; omega) (by rw [c4]; exact hV.2.2.2.1.2.1)) ml_X4_132 im_X4_enters se_X4_enters ini_X4 co_X4_enters hd_X4_enters ⟨Nat.le_of_ble_eq_true rfl, Nat.le_of_ble_eq_true rfl⟩ ⟨Nat.le_refl _, Nat.le_refl _⟩ 0 rfl rfl hP (hD _) hS hA2 rfl hl.1 (Nat.le_of_ble_eq_true rfl) dX4_calls_119 rfl (fun H locs hP hS => ?_)
              refine lv_iconst (v := nI 0) E.1.1 E.1.2.1 dX4_calls_122 rfl ?_
              exact CM.reti E hr hlk hA (by simp only [clF, if_pos h9, h38, if_neg h50]; rw [c1, c2] at hP; exact hP) hS (by simp only [clR, if_pos h9, h38, if_neg h50]) dX4_calls_123
            · refine lv_aload_n E.1.1 E.1.2.1 dX4_calls_80 rfl (lv_at hl 1 rfl) ?_
              refine gt_X4_counts E fl_X4_66 hP dX4_calls_81 ?_
              refine lv_iconst (v := nI 3) E.1.1 E.1.2.1 dX4_calls_84 rfl ?_
              refine lv_dup2_11 E.1.1 E.1.2.1 dX4_calls_85 rfl rfl ?_
              refine ld_MS_ct (i := 3) E hP (by omega) dX4_calls_86 ?_
              refine lv_iconst (v := nI 1) E.1.1 E.1.2.1 dX4_calls_87 rfl ?_
              refine nv_iadd E dX4_calls_88 ?_
              refine as_MS_ct (i := 3) (v := (gmct σ 3) + 1) E hP hD hS (by omega) dX4_calls_89 (fun H locs hP hS => ?_)
              have hm9 : (smct σ (va_up (gmct σ) 3 ((gmct σ 3) + 1))) = mcF z σ := by unfold mcF; first | (exfalso; omega) | (rw [if_pos h57]; unfold icM; rfl) | (rw [if_neg h57, if_pos h62]) | (rw [if_neg h57, if_neg h62]; unfold icM; rw [hs_ct_ct, tt_ct])
              rw [hm9] at hP
              have hP : va_P D vwCl (wR ad cI cJ cZ (mcF z σ)) H := hP
              obtain ⟨c1, c2, c3, c4⟩ := mc_get z σ
              refine lv_aload_n E.1.1 E.1.2.1 dX4_calls_90 rfl (lv_at hl 1 rfl) ?_
              refine lv_iload E.1.1 E.1.2.1 dX4_calls_91 (lv_at hl 0 rfl) ?_
              refine lv_aload_n E.1.1 E.1.2.1 dX4_calls_93 rfl (lv_at hl 1 rfl) ?_
              refine gt_X4_value E fl_X4_60 hP dX4_calls_94 ?_
              refine lv_iload_n E.1.1 E.1.2.1 dX4_calls_97 rfl (lv_at hl 3 rfl) ?_
              refine lv_iload E.1.1 E.1.2.1 dX4_calls_98 (lv_at hl 5 rfl) ?_
              refine nv_iadd E dX4_calls_100 ?_
              refine ld_MS_va (i := ba + y) E hP (by omega) dX4_calls_101 ?_
              refine lv_aload_n E.1.1 E.1.2.1 dX4_calls_102 rfl (lv_at hl 1 rfl) ?_
              refine gt_X4_is E fl_X4_57 hP dX4_calls_103 ?_
              refine lv_iload_n E.1.1 E.1.2.1 dX4_calls_106 rfl (lv_at hl 3 rfl) ?_
              refine lv_iconst (v := nI 5) E.1.1 E.1.2.1 dX4_calls_107 rfl ?_
              refine nv_iadd E dX4_calls_108 ?_
              refine ld_MS_is (i := ba + 5) E hP (by omega) dX4_calls_109 ?_
              refine lv_aload_n E.1.1 E.1.2.1 dX4_calls_110 rfl (lv_at hl 1 rfl) ?_
              refine gt_X4_value E fl_X4_60 hP dX4_calls_111 ?_
              refine lv_iload_n E.1.1 E.1.2.1 dX4_calls_114 rfl (lv_at hl 3 rfl) ?_
              refine lv_iconst (v := nI 5) E.1.1 E.1.2.1 dX4_calls_115 rfl ?_
              refine nv_iadd E dX4_calls_116 ?_
              refine ld_MS_va (i := ba + 5) E hP (by omega) dX4_calls_117 ?_
              refine lv_iload_n E.1.1 E.1.2.1 dX4_calls_118 rfl (lv_at hl 4 rfl) ?_
              refine CM.callVv (n := 5) E (c_X4_enters l D cI cJ cZ ad (mcF z σ) k38 (gmva (mcF z σ) (ba + y)) (gmis (mcF z σ) (ba + 5)) (gmva (mcF z σ) (ba + 5)) x (by rw [c3]; have := hV.2.2.2.2.1; omega) (by rw [c4]; exact hV.2.2.2.1.2.1)) ml_X4_132 im_X4_enters se_X4_enters ini_X4 co_X4_enters hd_X4_enters ⟨Nat.le_of_ble_eq_true rfl, Nat.le_of_ble_eq_true rfl⟩ ⟨Nat.le_refl _, Nat.le_refl _⟩ 0 rfl rfl hP (hD _) hS hA2 rfl hl.1 (Nat.le_of_ble_eq_true rfl) dX4_calls_119 rfl (fun H locs hP hS => ?_)
              refine lv_iconst (v := nI 0) E.1.1 E.1.2.1 dX4_calls_122 rfl ?_
              exact CM.reti E hr hlk hA (by simp only [clF, if_pos h9, h38, if_neg h50]; rw [c1, c2] at hP; exact hP) hS (by simp only [clR, if_pos h9, h38, if_neg h50]) dX4_calls_123
          · refine lv_aload_n E.1.1 E.1.2.1 dX4_calls_65 rfl (lv_at hl 1 rfl) ?_
            refine gt_X4_counts E fl_X4_66 hP dX4_calls_66 ?_
            refine lv_iconst (v := nI 2) E.1.1 E.1.2.1 dX4_calls_69 rfl ?_
            refine lv_dup2_11 E.1.1 E.1.2.1 dX4_calls_70 rfl rfl ?_
            refine ld_MS_ct (i := 2) E hP (by omega) dX4_calls_71 ?_
            refine lv_iconst (v := nI 1) E.1.1 E.1.2.1 dX4_calls_72 rfl ?_
            refine nv_iadd E dX4_calls_73 ?_
            refine as_MS_ct (i := 2) (v := (gmct σ 2) + 1) E hP hD hS (by omega) dX4_calls_74 (fun H locs hP hS => ?_)
            refine lv_iload_n E.1.1 E.1.2.1 dX4_calls_75 rfl (lv_at hl 2 rfl) ?_
            refine lv_iconst (v := nI 3) E.1.1 E.1.2.1 dX4_calls_76 rfl ?_
            refine nv_icmp_eq (by omega) (by omega) E dX4_calls_77 (tgt := 90) (by decide) (fun h77 => ?_) (fun h77 => ?_)
            · have hm9 : (smct σ (va_up (gmct σ) 2 ((gmct σ 2) + 1))) = mcF z σ := by unfold mcF; first | (exfalso; omega) | (rw [if_pos h57]; unfold icM; rfl) | (rw [if_neg h57, if_pos h62]) | (rw [if_neg h57, if_neg h62]; unfold icM; rw [hs_ct_ct, tt_ct])
              rw [hm9] at hP
              have hP : va_P D vwCl (wR ad cI cJ cZ (mcF z σ)) H := hP
              obtain ⟨c1, c2, c3, c4⟩ := mc_get z σ
              refine lv_aload_n E.1.1 E.1.2.1 dX4_calls_90 rfl (lv_at hl 1 rfl) ?_
              refine lv_iload E.1.1 E.1.2.1 dX4_calls_91 (lv_at hl 0 rfl) ?_
              refine lv_aload_n E.1.1 E.1.2.1 dX4_calls_93 rfl (lv_at hl 1 rfl) ?_
              refine gt_X4_value E fl_X4_60 hP dX4_calls_94 ?_
              refine lv_iload_n E.1.1 E.1.2.1 dX4_calls_97 rfl (lv_at hl 3 rfl) ?_
              refine lv_iload E.1.1 E.1.2.1 dX4_calls_98 (lv_at hl 5 rfl) ?_
              refine nv_iadd E dX4_calls_100 ?_
              refine ld_MS_va (i := ba + y) E hP (by omega) dX4_calls_101 ?_
              refine lv_aload_n E.1.1 E.1.2.1 dX4_calls_102 rfl (lv_at hl 1 rfl) ?_
              refine gt_X4_is E fl_X4_57 hP dX4_calls_103 ?_
              refine lv_iload_n E.1.1 E.1.2.1 dX4_calls_106 rfl (lv_at hl 3 rfl) ?_
              refine lv_iconst (v := nI 5) E.1.1 E.1.2.1 dX4_calls_107 rfl ?_
              refine nv_iadd E dX4_calls_108 ?_
              refine ld_MS_is (i := ba + 5) E hP (by omega) dX4_calls_109 ?_
              refine lv_aload_n E.1.1 E.1.2.1 dX4_calls_110 rfl (lv_at hl 1 rfl) ?_
              refine gt_X4_value E fl_X4_60 hP dX4_calls_111 ?_
              refine lv_iload_n E.1.1 E.1.2.1 dX4_calls_114 rfl (lv_at hl 3 rfl) ?_
              refine lv_iconst (v := nI 5) E.1.1 E.1.2.1 dX4_calls_115 rfl ?_
              refine nv_iadd E dX4_calls_116 ?_
              refine ld_MS_va (i := ba + 5) E hP (by omega) dX4_calls_117 ?_
              refine lv_iload_n E.1.1 E.1.2.1 dX4_calls_118 rfl (lv_at hl 4 rfl) ?_
              refine CM.callVv (n := 5) E (c_X4_enters l D cI cJ cZ ad (mcF z σ) k38 (gmva (mcF z σ) (ba + y)) (gmis (mcF z σ) (ba + 5)) (gmva (mcF z σ) (ba + 5)) x (by rw [c3]; have := hV.2.2.2.2.1; omega) (by rw [c4]; exact hV.2.2.2.1.2.1)) ml_X4_132 im_X4_enters se_X4_enters ini_X4 co_X4_enters hd_X4_enters ⟨Nat.le_of_ble_eq_true rfl, Nat.le_of_ble_eq_true rfl⟩ ⟨Nat.le_refl _, Nat.le_refl _⟩ 0 rfl rfl hP (hD _) hS hA2 rfl hl.1 (Nat.le_of_ble_eq_true rfl) dX4_calls_119 rfl (fun H locs hP hS => ?_)
              refine lv_iconst (v := nI 0) E.1.1 E.1.2.1 dX4_calls_122 rfl ?_
              exact CM.reti E hr hlk hA (by simp only [clF, if_pos h9, h38, if_neg h50]; rw [c1, c2] at hP; exact hP) hS (by simp only [clR, if_pos h9, h38, if_neg h50]) dX4_calls_123
            · refine lv_aload_n E.1.1 E.1.2.1 dX4_calls_80 rfl (lv_at hl 1 rfl) ?_
              refine gt_X4_counts E fl_X4_66 hP dX4_calls_81 ?_
              refine lv_iconst (v := nI 3) E.1.1 E.1.2.1 dX4_calls_84 rfl ?_
              refine lv_dup2_11 E.1.1 E.1.2.1 dX4_calls_85 rfl rfl ?_
              refine ld_MS_ct (i := 3) E hP (by omega) dX4_calls_86 ?_
              refine tpi (y := nI ((va_up (gmct σ) 2 ((gmct σ 2) + 1)) 3)) (by rw [hs_ct_ct]) ?_
              refine lv_iconst (v := nI 1) E.1.1 E.1.2.1 dX4_calls_87 rfl ?_
              refine nv_iadd E dX4_calls_88 ?_
              refine as_MS_ct (i := 3) (v := ((va_up (gmct σ) 2 ((gmct σ 2) + 1)) 3) + 1) E hP hD hS (by omega) dX4_calls_89 (fun H locs hP hS => ?_)
              have hP : va_P D vwCl (wR ad cI cJ cZ (smct σ (va_up (va_up (gmct σ) 2 ((gmct σ 2) + 1)) 3 (((va_up (gmct σ) 2 ((gmct σ 2) + 1)) 3) + 1)))) H := by have q9 := hP; rw [tt_ct, hs_ct_ct] at q9; exact q9
              have hm9 : (smct σ (va_up (va_up (gmct σ) 2 ((gmct σ 2) + 1)) 3 (((va_up (gmct σ) 2 ((gmct σ 2) + 1)) 3) + 1))) = mcF z σ := by unfold mcF; first | (exfalso; omega) | (rw [if_pos h57]; unfold icM; rfl) | (rw [if_neg h57, if_pos h62]) | (rw [if_neg h57, if_neg h62]; unfold icM; rw [hs_ct_ct, tt_ct])
              rw [hm9] at hP
              have hP : va_P D vwCl (wR ad cI cJ cZ (mcF z σ)) H := hP
              obtain ⟨c1, c2, c3, c4⟩ := mc_get z σ
              refine lv_aload_n E.1.1 E.1.2.1 dX4_calls_90 rfl (lv_at hl 1 rfl) ?_
              refine lv_iload E.1.1 E.1.2.1 dX4_calls_91 (lv_at hl 0 rfl) ?_
              refine lv_aload_n E.1.1 E.1.2.1 dX4_calls_93 rfl (lv_at hl 1 rfl) ?_
              refine gt_X4_value E fl_X4_60 hP dX4_calls_94 ?_
              refine lv_iload_n E.1.1 E.1.2.1 dX4_calls_97 rfl (lv_at hl 3 rfl) ?_
              refine lv_iload E.1.1 E.1.2.1 dX4_calls_98 (lv_at hl 5 rfl) ?_
              refine nv_iadd E dX4_calls_100 ?_
              refine ld_MS_va (i := ba + y) E hP (by omega) dX4_calls_101 ?_
              refine lv_aload_n E.1.1 E.1.2.1 dX4_calls_102 rfl (lv_at hl 1 rfl) ?_
              refine gt_X4_is E fl_X4_57 hP dX4_calls_103 ?_
              refine lv_iload_n E.1.1 E.1.2.1 dX4_calls_106 rfl (lv_at hl 3 rfl) ?_
              refine lv_iconst (v := nI 5) E.1.1 E.1.2.1 dX4_calls_107 rfl ?_
              refine nv_iadd E dX4_calls_108 ?_
              refine ld_MS_is (i := ba + 5) E hP (by omega) dX4_calls_109 ?_
              refine lv_aload_n E.1.1 E.1.2.1 dX4_calls_110 rfl (lv_at hl 1 rfl) ?_
              refine gt_X4_value E fl_X4_60 hP dX4_calls_111 ?_
              refine lv_iload_n E.1.1 E.1.2.1 dX4_calls_114 rfl (lv_at hl 3 rfl) ?_
              refine lv_iconst (v := nI 5) E.1.1 E.1.2.1 dX4_calls_115 rfl ?_
              refine nv_iadd E dX4_calls_116 ?_
              refine ld_MS_va (i := ba + 5) E hP (by omega) dX4_calls_117 ?_
              refine lv_iload_n E.1.1 E.1.2.1 dX4_calls_118 rfl (lv_at hl 4 rfl) ?_
              refine CM.callVv (n := 5) E (c_X4_enters l D cI cJ cZ ad (mcF z σ) k38 (gmva (mcF z σ) (ba + y)) (gmis (mcF z σ) (ba + 5)) (gmva (mcF z σ) (ba + 5)) x (by rw [c3]; have := hV.2.2.2.2.1; omega) (by rw [c4]; exact hV.2.2.2.1.2.1)) ml_X4_132 im_X4_enters se_X4_enters ini_X4 co_X4_enters hd_X4_enters ⟨Nat.le_of_ble_eq_true rfl, Nat.le_of_ble_eq_true rfl⟩ ⟨Nat.le_refl _, Nat.le_refl _⟩ 0 rfl rfl hP (hD _) hS hA2 rfl hl.1 (Nat.le_of_ble_eq_true rfl) dX4_calls_119 rfl (fun H locs hP hS => ?_)
              refine lv_iconst (v := nI 0) E.1.1 E.1.2.1 dX4_calls_122 rfl ?_
              exact CM.reti E hr hlk hA (by simp only [clF, if_pos h9, h38, if_neg h50]; rw [c1, c2] at hP; exact hP) hS (by simp only [clR, if_pos h9, h38, if_neg h50]) dX4_calls_123
      · refine lv_iconst (v := nI 4) E.1.1 E.1.2.1 dX4_calls_53 rfl ?_
        exact CM.reti E hr hlk hA (by simp only [clF, if_pos h9, h38, if_pos h50]; exact hP) hS (by simp only [clR, if_pos h9, h38, if_pos h50]) dX4_calls_54
    · refine lv_bipush (v := nI 6) E.1.1 E.1.2.1 dX4_calls_41 rfl ?_
      exact CM.reti E hr hlk hA (by unfold clF; rw [if_pos h9, h38]; exact hP) hS (by unfold clR; rw [if_pos h9, h38]) dX4_calls_43
  · refine lv_iconst (v := nI 1) E.1.1 E.1.2.1 dX4_calls_12 rfl ?_
    exact CM.reti E hr hlk hA (by unfold clF; rw [if_neg (by rw [h9]; decide)]; exact hP) hS (by unfold clR; rw [if_neg (by rw [h9]; decide)]) dX4_calls_13
