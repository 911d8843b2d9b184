set_option maxRecDepth 100000 in
set_option maxHeartbeats 400000 in
theorem c_X4_count_ok (l : Launch) (D : va_G) (cI cJ cZ : ClassId) (ad : Nat → Nat) (σ : MS) (j : Nat)  (hj : j < 6) : CM l D (t3 cI cJ cZ) yX4_count cX4_count 2 (some .int) 1 [.ref (ad 0), .int (nI j)] (wR ad cI cJ cZ σ) (some (.int (nI (gmct σ j)))) (wR ad cI cJ cZ (smth σ (thF false false))) := by
  refine CM.of (by decide) (Nat.le_of_ble_eq_true rfl) ?_
  intro p e s m below meth c A ls E hr hlk hP hD0 hA hA2 hS hl
  have hD := wR_D hD0
  have hl : lv_has ls 2 [(0, .ref (ad 0)), (1, .int (nI j))] := hl
  refine lv_aload_n E.1.1 E.1.2.1 dX4_count_0 rfl (lv_at hl 0 rfl) ?_
  refine lv_iload_n E.1.1 E.1.2.1 dX4_count_1 rfl (lv_at hl 1 rfl) ?_
  refine lv_iconst (v := nI 0) E.1.1 E.1.2.1 dX4_count_2 rfl ?_
  refine lv_iconst (v := nI 5) E.1.1 E.1.2.1 dX4_count_3 rfl ?_
  refine CM.callSi (n := 3) E (c_X4_outside l D cI cJ cZ ad σ (nI j) (nI 0) (nI 5)) ml_X4_72 st_X4_outside ini_X4 co_X4_outside hd_X4_outside ⟨Nat.le_of_ble_eq_true rfl, Nat.le_of_ble_eq_true rfl⟩ ⟨Nat.le_refl _, Nat.le_refl _⟩ hP (hD _) hS hA2 rfl hl.1 (Nat.le_of_ble_eq_true rfl) dX4_count_4 rfl (fun H locs hP hS => ?_)
  refine tpi (y := bI false) (by rw [ou_isW (by decide), isW_t (by omega) (by decide)]; rfl) ?_
  refine lv_iconst (v := nI 0) E.1.1 E.1.2.1 dX4_count_7 rfl ?_
  refine CM.callVi (n := 2) E (c_X4_fails l D cI cJ cZ ad σ false false) ml_X4_76 im_X4_fails se_X4_fails ini_X4 co_X4_fails hd_X4_fails ⟨Nat.le_of_ble_eq_true rfl, Nat.le_of_ble_eq_true rfl⟩ ⟨Nat.le_refl _, Nat.le_refl _⟩ 0 rfl rfl hP (hD _) hS hA2 rfl hl.1 (Nat.le_of_ble_eq_true rfl) dX4_count_8 rfl (fun H locs hP hS => ?_)
  refine bv_if_eq (x := false || false) E dX4_count_11 (tgt := 18) (by decide) (fun h11 => ?_) (fun h11 => ?_)
  · refine lv_aload_n E.1.1 E.1.2.1 dX4_count_18 rfl (lv_at hl 0 rfl) ?_
    refine gt_X4_counts E fl_X4_66 hP dX4_count_19 ?_
    refine lv_iload_n E.1.1 E.1.2.1 dX4_count_22 rfl (lv_at hl 1 rfl) ?_
    refine ld_MS_ct (i := j) E hP (by omega) dX4_count_23 ?_
    refine tpi (y := nI (gmct σ j)) (by rw [hs_ct_th]) ?_
    exact CM.reti E hr hlk hA hP hS rfl dX4_count_24
  · exact absurd h11 (by decide)
set_option maxRecDepth 100000 in
set_option maxHeartbeats 400000 in
theorem c_X4_count_no (l : Launch) (D : va_G) (cI cJ cZ : ClassId) (ad : Nat → Nat) (σ : MS) (v : Int32)  (hv : isW v (nI 6) = false) : CM l D (t3 cI cJ cZ) yX4_count cX4_count 2 (some .int) 1 [.ref (ad 0), .int v] (wR ad cI cJ cZ σ) (some (.int (nI 0))) (wR ad cI cJ cZ (smth σ (thF true false))) := by
  refine CM.of (by decide) (Nat.le_of_ble_eq_true rfl) ?_
  intro p e s m below meth c A ls E hr hlk hP hD0 hA hA2 hS hl
  have hD := wR_D hD0
  have hl : lv_has ls 2 [(0, .ref (ad 0)), (1, .int v)] := hl
  refine lv_aload_n E.1.1 E.1.2.1 dX4_count_0 rfl (lv_at hl 0 rfl) ?_
  refine lv_iload_n E.1.1 E.1.2.1 dX4_count_1 rfl (lv_at hl 1 rfl) ?_
  refine lv_iconst (v := nI 0) E.1.1 E.1.2.1 dX4_count_2 rfl ?_
  refine lv_iconst (v := nI 5) E.1.1 E.1.2.1 dX4_count_3 rfl ?_
  refine CM.callSi (n := 3) E (c_X4_outside l D cI cJ cZ ad σ v (nI 0) (nI 5)) ml_X4_72 st_X4_outside ini_X4 co_X4_outside hd_X4_outside ⟨Nat.le_of_ble_eq_true rfl, Nat.le_of_ble_eq_true rfl⟩ ⟨Nat.le_refl _, Nat.le_refl _⟩ hP (hD _) hS hA2 rfl hl.1 (Nat.le_of_ble_eq_true rfl) dX4_count_4 rfl (fun H locs hP hS => ?_)
  refine tpi (y := bI true) (by rw [ou_isW (by decide), hv]; rfl) ?_
  refine lv_iconst (v := nI 0) E.1.1 E.1.2.1 dX4_count_7 rfl ?_
  refine CM.callVi (n := 2) E (c_X4_fails l D cI cJ cZ ad σ true false) ml_X4_76 im_X4_fails se_X4_fails ini_X4 co_X4_fails hd_X4_fails ⟨Nat.le_of_ble_eq_true rfl, Nat.le_of_ble_eq_true rfl⟩ ⟨Nat.le_refl _, Nat.le_refl _⟩ 0 rfl rfl hP (hD _) hS hA2 rfl hl.1 (Nat.le_of_ble_eq_true rfl) dX4_count_8 rfl (fun H locs hP hS => ?_)
  refine bv_if_eq (x := true || false) E dX4_count_11 (tgt := 18) (by decide) (fun h11 => ?_) (fun h11 => ?_)
  · exact absurd h11 (by decide)
  · refine lv_iconst (v := nI 0) E.1.1 E.1.2.1 dX4_count_14 rfl ?_
    refine lv_goto (tgt := 24) E.1.1 E.1.2.1 dX4_count_15 (by decide) ?_
    exact CM.reti E hr hlk hA hP hS rfl dX4_count_24
set_option maxRecDepth 100000 in
set_option maxHeartbeats 400000 in
theorem c_X4_out_ok (l : Launch) (D : va_G) (cI cJ cZ : ClassId) (ad : Nat → Nat) (σ : MS) (j : Nat)  (hj : j < gmct σ 0) (hc : gmct σ 0 ≤ 40) : CM l D (t3 cI cJ cZ) yX4_out cX4_out 2 (some .int) 1 [.ref (ad 0), .int (nI j)] (wR ad cI cJ cZ σ) (some (.int (gmou σ j))) (wR ad cI cJ cZ (smth σ (thF false false))) := by
  refine CM.of (by decide) (Nat.le_of_ble_eq_true rfl) ?_
  intro p e s m below meth c A ls E hr hlk hP hD0 hA hA2 hS hl
  have hD := wR_D hD0
  have hl : lv_has ls 2 [(0, .ref (ad 0)), (1, .int (nI j))] := hl
  refine lv_aload_n E.1.1 E.1.2.1 dX4_out_0 rfl (lv_at hl 0 rfl) ?_
  refine lv_iload_n E.1.1 E.1.2.1 dX4_out_1 rfl (lv_at hl 1 rfl) ?_
  refine lv_iconst (v := nI 0) E.1.1 E.1.2.1 dX4_out_2 rfl ?_
  refine lv_aload_n E.1.1 E.1.2.1 dX4_out_3 rfl (lv_at hl 0 rfl) ?_
  refine gt_X4_counts E fl_X4_66 hP dX4_out_4 ?_
  refine lv_iconst (v := nI 0) E.1.1 E.1.2.1 dX4_out_7 rfl ?_
  refine ld_MS_ct (i := 0) E hP (by omega) dX4_out_8 ?_
  refine lv_iconst (v := nI 1) E.1.1 E.1.2.1 dX4_out_9 rfl ?_
  refine lv_isub E.1.1 E.1.2.1 dX4_out_10 ?_
  refine CM.callSi (n := 3) E (c_X4_outside l D cI cJ cZ ad σ (nI j) (nI 0) (nI (gmct σ 0) - nI 1)) ml_X4_72 st_X4_outside ini_X4 co_X4_outside hd_X4_outside ⟨Nat.le_of_ble_eq_true rfl, Nat.le_of_ble_eq_true rfl⟩ ⟨Nat.le_refl _, Nat.le_refl _⟩ hP (hD _) hS hA2 rfl hl.1 (Nat.le_of_ble_eq_true rfl) dX4_out_11 rfl (fun H locs hP hS => ?_)
  refine tpi (y := bI false) (by rw [ou_isWp (by omega), isW_t (by omega) (by omega)]; rfl) ?_
  refine lv_iconst (v := nI 0) E.1.1 E.1.2.1 dX4_out_14 rfl ?_
  refine CM.callVi (n := 2) E (c_X4_fails l D cI cJ cZ ad σ false false) ml_X4_76 im_X4_fails se_X4_fails ini_X4 co_X4_fails hd_X4_fails ⟨Nat.le_of_ble_eq_true rfl, Nat.le_of_ble_eq_true rfl⟩ ⟨Nat.le_refl _, Nat.le_refl _⟩ 0 rfl rfl hP (hD _) hS hA2 rfl hl.1 (Nat.le_of_ble_eq_true rfl) dX4_out_15 rfl (fun H locs hP hS => ?_)
  refine bv_if_eq (x := false || false) E dX4_out_18 (tgt := 25) (by decide) (fun h18 => ?_) (fun h18 => ?_)
  · refine lv_aload_n E.1.1 E.1.2.1 dX4_out_25 rfl (lv_at hl 0 rfl) ?_
    refine gt_X4_outs E fl_X4_63 hP dX4_out_26 ?_
    refine lv_iload_n E.1.1 E.1.2.1 dX4_out_29 rfl (lv_at hl 1 rfl) ?_
    refine ld_MS_ou (i := j) E hP (by omega) dX4_out_30 ?_
    refine tpi (y := gmou σ j) (by rw [hs_ou_th]) ?_
    exact CM.reti E hr hlk hA hP hS rfl dX4_out_31
  · exact absurd h18 (by decide)
set_option maxRecDepth 100000 in
set_option maxHeartbeats 400000 in
theorem c_X4_out_no (l : Launch) (D : va_G) (cI cJ cZ : ClassId) (ad : Nat → Nat) (σ : MS) (v : Int32)  (hv : isW v (nI (gmct σ 0)) = false) (hc : gmct σ 0 ≤ 40) : CM l D (t3 cI cJ cZ) yX4_out cX4_out 2 (some .int) 1 [.ref (ad 0), .int v] (wR ad cI cJ cZ σ) (some (.int (nI 0))) (wR ad cI cJ cZ (smth σ (thF true false))) := by
  refine CM.of (by decide) (Nat.le_of_ble_eq_true rfl) ?_
  intro p e s m below meth c A ls E hr hlk hP hD0 hA hA2 hS hl
  have hD := wR_D hD0
  have hl : lv_has ls 2 [(0, .ref (ad 0)), (1, .int v)] := hl
  refine lv_aload_n E.1.1 E.1.2.1 dX4_out_0 rfl (lv_at hl 0 rfl) ?_
  refine lv_iload_n E.1.1 E.1.2.1 dX4_out_1 rfl (lv_at hl 1 rfl) ?_
  refine lv_iconst (v := nI 0) E.1.1 E.1.2.1 dX4_out_2 rfl ?_
  refine lv_aload_n E.1.1 E.1.2.1 dX4_out_3 rfl (lv_at hl 0 rfl) ?_
  refine gt_X4_counts E fl_X4_66 hP dX4_out_4 ?_
  refine lv_iconst (v := nI 0) E.1.1 E.1.2.1 dX4_out_7 rfl ?_
  refine ld_MS_ct (i := 0) E hP (by omega) dX4_out_8 ?_
  refine lv_iconst (v := nI 1) E.1.1 E.1.2.1 dX4_out_9 rfl ?_
  refine lv_isub E.1.1 E.1.2.1 dX4_out_10 ?_
  refine CM.callSi (n := 3) E (c_X4_outside l D cI cJ cZ ad σ v (nI 0) (nI (gmct σ 0) - nI 1)) ml_X4_72 st_X4_outside ini_X4 co_X4_outside hd_X4_outside ⟨Nat.le_of_ble_eq_true rfl, Nat.le_of_ble_eq_true rfl⟩ ⟨Nat.le_refl _, Nat.le_refl _⟩ hP (hD _) hS hA2 rfl hl.1 (Nat.le_of_ble_eq_true rfl) dX4_out_11 rfl (fun H locs hP hS => ?_)
  refine tpi (y := bI true) (by rw [ou_isWp (by omega), hv]; rfl) ?_
  refine lv_iconst (v := nI 0) E.1.1 E.1.2.1 dX4_out_14 rfl ?_
  refine CM.callVi (n := 2) E (c_X4_fails l D cI cJ cZ ad σ true false) ml_X4_76 im_X4_fails se_X4_fails ini_X4 co_X4_fails hd_X4_fails ⟨Nat.le_of_ble_eq_true rfl, Nat.le_of_ble_eq_true rfl⟩ ⟨Nat.le_refl _, Nat.le_refl _⟩ 0 rfl rfl hP (hD _) hS hA2 rfl hl.1 (Nat.le_of_ble_eq_true rfl) dX4_out_15 rfl (fun H locs hP hS => ?_)
  refine bv_if_eq (x := true || false) E dX4_out_18 (tgt := 25) (by decide) (fun h18 => ?_) (fun h18 => ?_)
  · exact absurd h18 (by decide)
  · refine lv_iconst (v := nI 0) E.1.1 E.1.2.1 dX4_out_21 rfl ?_
    refine lv_goto (tgt := 31) E.1.1 E.1.2.1 dX4_out_22 (by decide) ?_
    exact CM.reti E hr hlk hA hP hS rfl dX4_out_31
set_option maxRecDepth 100000 in
set_option maxHeartbeats 400000 in
theorem c_X4_strip_ok (l : Launch) (D : va_G) (cI cJ cZ : ClassId) (ad : Nat → Nat) (σ : MS) (t : Nat) (q : Nat)  (hQ : QI σ) (ht : t < gmty σ) (hq : q < 4) : CM l D (t3 cI cJ cZ) yX4_strip cX4_strip 5 (some .int) 1 [.ref (ad 0), .int (nI t), .int (nI q)] (wR ad cI cJ cZ σ) (some (.int (nI (gmmy σ (4 * t + q))))) (wR ad cI cJ cZ (smch (smmy (smth σ (thF false false)) (va_up (gmmy σ) (4 * t + q) 0)) (va_up (gmch σ) (4 * t + q) (gmch σ (4 * t + q) || decide (0 < gmmy σ (4 * t + q)))))) := by
  refine CM.of (by decide) (Nat.le_of_ble_eq_true rfl) ?_
  intro p e s m below meth c A ls E hr hlk hP hD0 hA hA2 hS hl
  have hD := wR_D hD0
  have hl : lv_has ls 5 [(0, .ref (ad 0)), (1, .int (nI t)), (2, .int (nI q))] := hl
  have hty := hQ.2.2
  refine lv_aload_n E.1.1 E.1.2.1 dX4_strip_0 rfl (lv_at hl 0 rfl) ?_
  refine lv_aload_n E.1.1 E.1.2.1 dX4_strip_1 rfl (lv_at hl 0 rfl) ?_
  refine lv_iload_n E.1.1 E.1.2.1 dX4_strip_2 rfl (lv_at hl 1 rfl) ?_
  refine lv_iload_n E.1.1 E.1.2.1 dX4_strip_3 rfl (lv_at hl 2 rfl) ?_
  refine CM.callVi (n := 2) E (c_X4_isBody l D cI cJ cZ ad σ (nI t) (nI q) hQ) ml_X4_87 im_X4_isBody se_X4_isBody ini_X4 co_X4_isBody hd_X4_isBody ⟨Nat.le_of_ble_eq_true rfl, Nat.le_of_ble_eq_true rfl⟩ ⟨Nat.le_refl _, Nat.le_refl _⟩ 0 rfl rfl hP (hD _) hS hA2 rfl hl.1 (Nat.le_of_ble_eq_true rfl) dX4_strip_4 rfl (fun H locs hP hS => ?_)
  refine tpi (y := bI true) (by rw [isW_t ht (by have := hQ.2.2; omega), isW_t hq (by decide)]; rfl) ?_
  refine bv_if_ne (x := true) E dX4_strip_7 (tgt := 14) (by decide) (fun h7 => ?_) (fun h7 => ?_)
  · refine lv_iconst (v := nI 0) E.1.1 E.1.2.1 dX4_strip_14 rfl ?_
    refine lv_iconst (v := nI 0) E.1.1 E.1.2.1 dX4_strip_15 rfl ?_
    refine CM.callVi (n := 2) E (c_X4_fails l D cI cJ cZ ad σ false false) ml_X4_76 im_X4_fails se_X4_fails ini_X4 co_X4_fails hd_X4_fails ⟨Nat.le_of_ble_eq_true rfl, Nat.le_of_ble_eq_true rfl⟩ ⟨Nat.le_refl _, Nat.le_refl _⟩ 0 rfl rfl hP (hD _) hS hA2 rfl hl.1 (Nat.le_of_ble_eq_true rfl) dX4_strip_16 rfl (fun H locs hP hS => ?_)
    refine bv_if_eq (x := false || false) E dX4_strip_19 (tgt := 24) (by decide) (fun h19 => ?_) (fun h19 => ?_)
    · refine lv_iconst (v := nI 4) E.1.1 E.1.2.1 dX4_strip_24 rfl ?_
      refine lv_iload_n E.1.1 E.1.2.1 dX4_strip_25 rfl (lv_at hl 1 rfl) ?_
      refine nv_imul E dX4_strip_26 ?_
      refine lv_iload_n E.1.1 E.1.2.1 dX4_strip_27 rfl (lv_at hl 2 rfl) ?_
      refine nv_iadd E dX4_strip_28 ?_
      refine lv_istore_n (lv' := [(3, .int (nI ((4 * t) + q))), (0, .ref (ad 0)), (1, .int (nI t)), (2, .int (nI q))]) E.1.1 E.1.2.1 dX4_strip_29 rfl hl (by decide) rfl (fun ls hl => ?_)
      refine lv_aload_n E.1.1 E.1.2.1 dX4_strip_30 rfl (lv_at hl 1 rfl) ?_
      refine gt_X4_many E fl_X4_17 hP dX4_strip_31 ?_
      refine lv_iload_n E.1.1 E.1.2.1 dX4_strip_34 rfl (lv_at hl 0 rfl) ?_
      refine ld_MS_my (i := (4 * t) + q) E hP (by omega) dX4_strip_35 ?_
      refine tpi (y := nI (gmmy σ ((4 * t) + q))) (by rw [hs_my_th]) ?_
      refine lv_istore (lv' := [(4, .int (nI (gmmy σ ((4 * t) + q)))), (3, .int (nI ((4 * t) + q))), (0, .ref (ad 0)), (1, .int (nI t)), (2, .int (nI q))]) E.1.1 E.1.2.1 dX4_strip_36 hl (by decide) rfl (fun ls hl => ?_)
      refine lv_aload_n E.1.1 E.1.2.1 dX4_strip_38 rfl (lv_at hl 2 rfl) ?_
      refine gt_X4_many E fl_X4_17 hP dX4_strip_39 ?_
      refine lv_iload_n E.1.1 E.1.2.1 dX4_strip_42 rfl (lv_at hl 1 rfl) ?_
      refine lv_iconst (v := nI 0) E.1.1 E.1.2.1 dX4_strip_43 rfl ?_
      refine as_MS_my (i := (4 * t) + q) (v := 0) E hP hD hS (by omega) dX4_strip_44 (fun H locs hP hS => ?_)
      have hP : va_P D vwCl (wR ad cI cJ cZ (smmy (smth σ (thF false false)) (va_up (gmmy σ) ((4 * t) + q) 0))) H := by have q9 := hP; rw [hs_my_th] at q9; exact q9
      refine lv_aload_n E.1.1 E.1.2.1 dX4_strip_45 rfl (lv_at hl 2 rfl) ?_
      refine gt_X4_changed E fl_X4_30 hP dX4_strip_46 ?_
      refine lv_iload_n E.1.1 E.1.2.1 dX4_strip_49 rfl (lv_at hl 1 rfl) ?_
      refine lv_aload_n E.1.1 E.1.2.1 dX4_strip_50 rfl (lv_at hl 2 rfl) ?_
      refine gt_X4_changed E fl_X4_30 hP dX4_strip_51 ?_
      refine lv_iload_n E.1.1 E.1.2.1 dX4_strip_54 rfl (lv_at hl 1 rfl) ?_
      refine ld_MS_ch (i := (4 * t) + q) E hP (by omega) dX4_strip_55 ?_
      refine tpi (y := bI (gmch σ ((4 * t) + q))) (by rw [hs_ch_my, hs_ch_th]) ?_
      refine bv_if_ne (x := gmch σ ((4 * t) + q)) E dX4_strip_56 (tgt := 64) (by decide) (fun h56 => ?_) (fun h56 => ?_)
      · refine lv_iconst (v := nI 1) E.1.1 E.1.2.1 dX4_strip_64 rfl ?_
        refine lv_goto (tgt := 69) E.1.1 E.1.2.1 dX4_strip_65 (by decide) ?_
        refine as_MS_ch (i := (4 * t) + q) (v := true) E hP hD hS (by omega) dX4_strip_69 (fun H locs hP hS => ?_)
        have hP : va_P D vwCl (wR ad cI cJ cZ (smch (smmy (smth σ (thF false false)) (va_up (gmmy σ) ((4 * t) + q) 0)) (va_up (gmch σ) ((4 * t) + q) true))) H := by have q9 := hP; rw [hs_ch_my, hs_ch_th] at q9; exact q9
        refine lv_iload E.1.1 E.1.2.1 dX4_strip_70 (lv_at hl 0 rfl) ?_
        exact CM.reti E hr hlk hA (by first | (rw [show (gmch σ (4 * t + q) || decide (0 < gmmy σ (4 * t + q))) = true from (by simp [*])]; exact hP) | (rw [show (gmch σ (4 * t + q) || decide (0 < gmmy σ (4 * t + q))) = false from (by simp [*])]; exact hP)) hS rfl dX4_strip_72
      · refine lv_iload E.1.1 E.1.2.1 dX4_strip_59 (lv_at hl 0 rfl) ?_
        refine nv_if_le (by have := hQ.2.1 (4 * t + q); omega) E dX4_strip_61 (tgt := 68) (by decide) (fun h61 => ?_) (fun h61 => ?_)
        · refine lv_iconst (v := nI 0) E.1.1 E.1.2.1 dX4_strip_68 rfl ?_
          refine as_MS_ch (i := (4 * t) + q) (v := false) E hP hD hS (by omega) dX4_strip_69 (fun H locs hP hS => ?_)
          have hP : va_P D vwCl (wR ad cI cJ cZ (smch (smmy (smth σ (thF false false)) (va_up (gmmy σ) ((4 * t) + q) 0)) (va_up (gmch σ) ((4 * t) + q) false))) H := by have q9 := hP; rw [hs_ch_my, hs_ch_th] at q9; exact q9
          refine lv_iload E.1.1 E.1.2.1 dX4_strip_70 (lv_at hl 0 rfl) ?_
          exact CM.reti E hr hlk hA (by first | (rw [show (gmch σ (4 * t + q) || decide (0 < gmmy σ (4 * t + q))) = true from (by simp [*])]; exact hP) | (rw [show (gmch σ (4 * t + q) || decide (0 < gmmy σ (4 * t + q))) = false from (by simp [*])]; exact hP)) hS rfl dX4_strip_72
        · refine lv_iconst (v := nI 1) E.1.1 E.1.2.1 dX4_strip_64 rfl ?_
          refine lv_goto (tgt := 69) E.1.1 E.1.2.1 dX4_strip_65 (by decide) ?_
          refine as_MS_ch (i := (4 * t) + q) (v := true) E hP hD hS (by omega) dX4_strip_69 (fun H locs hP hS => ?_)
          have hP : va_P D vwCl (wR ad cI cJ cZ (smch (smmy (smth σ (thF false false)) (va_up (gmmy σ) ((4 * t) + q) 0)) (va_up (gmch σ) ((4 * t) + q) true))) H := by have q9 := hP; rw [hs_ch_my, hs_ch_th] at q9; exact q9
          refine lv_iload E.1.1 E.1.2.1 dX4_strip_70 (lv_at hl 0 rfl) ?_
          exact CM.reti E hr hlk hA (by first | (rw [show (gmch σ (4 * t + q) || decide (0 < gmmy σ (4 * t + q))) = true from (by simp [*])]; exact hP) | (rw [show (gmch σ (4 * t + q) || decide (0 < gmmy σ (4 * t + q))) = false from (by simp [*])]; exact hP)) hS rfl dX4_strip_72
    · exact absurd h19 (by decide)
  · exact absurd h7 (by decide)
set_option maxRecDepth 100000 in
set_option maxHeartbeats 400000 in
theorem c_X4_strip_no (l : Launch) (D : va_G) (cI cJ cZ : ClassId) (ad : Nat → Nat) (σ : MS) (t : Int32) (q : Int32)  (hQ : QI σ) (hv : (isW t (nI (gmty σ)) && isW q (nI 4)) = false) : CM l D (t3 cI cJ cZ) yX4_strip cX4_strip 5 (some .int) 1 [.ref (ad 0), .int t, .int q] (wR ad cI cJ cZ σ) (some (.int (nI 0))) (wR ad cI cJ cZ (smth σ (thF true false))) := by
  refine CM.of (by decide) (Nat.le_of_ble_eq_true rfl) ?_
  intro p e s m below meth c A ls E hr hlk hP hD0 hA hA2 hS hl
  have hD := wR_D hD0
  have hl : lv_has ls 5 [(0, .ref (ad 0)), (1, .int t), (2, .int q)] := hl
  refine lv_aload_n E.1.1 E.1.2.1 dX4_strip_0 rfl (lv_at hl 0 rfl) ?_
  refine lv_aload_n E.1.1 E.1.2.1 dX4_strip_1 rfl (lv_at hl 0 rfl) ?_
  refine lv_iload_n E.1.1 E.1.2.1 dX4_strip_2 rfl (lv_at hl 1 rfl) ?_
  refine lv_iload_n E.1.1 E.1.2.1 dX4_strip_3 rfl (lv_at hl 2 rfl) ?_
  refine CM.callVi (n := 2) E (c_X4_isBody l D cI cJ cZ ad σ t q hQ) ml_X4_87 im_X4_isBody se_X4_isBody ini_X4 co_X4_isBody hd_X4_isBody ⟨Nat.le_of_ble_eq_true rfl, Nat.le_of_ble_eq_true rfl⟩ ⟨Nat.le_refl _, Nat.le_refl _⟩ 0 rfl rfl hP (hD _) hS hA2 rfl hl.1 (Nat.le_of_ble_eq_true rfl) dX4_strip_4 rfl (fun H locs hP hS => ?_)
  refine tpi (y := bI false) (by rw [hv]) ?_
  refine bv_if_ne (x := false) E dX4_strip_7 (tgt := 14) (by decide) (fun h7 => ?_) (fun h7 => ?_)
  · exact absurd h7 (by decide)
  · refine lv_iconst (v := nI 1) E.1.1 E.1.2.1 dX4_strip_10 rfl ?_
    refine lv_goto (tgt := 15) E.1.1 E.1.2.1 dX4_strip_11 (by decide) ?_
    refine lv_iconst (v := nI 0) E.1.1 E.1.2.1 dX4_strip_15 rfl ?_
    refine CM.callVi (n := 2) E (c_X4_fails l D cI cJ cZ ad σ true false) ml_X4_76 im_X4_fails se_X4_fails ini_X4 co_X4_fails hd_X4_fails ⟨Nat.le_of_ble_eq_true rfl, Nat.le_of_ble_eq_true rfl⟩ ⟨Nat.le_refl _, Nat.le_refl _⟩ 0 rfl rfl hP (hD _) hS hA2 rfl hl.1 (Nat.le_of_ble_eq_true rfl) dX4_strip_16 rfl (fun H locs hP hS => ?_)
    refine bv_if_eq (x := true || false) E dX4_strip_19 (tgt := 24) (by decide) (fun h19 => ?_) (fun h19 => ?_)
    · exact absurd h19 (by decide)
    · refine lv_iconst (v := nI 0) E.1.1 E.1.2.1 dX4_strip_22 rfl ?_
      exact CM.reti E hr hlk hA hP hS rfl dX4_strip_23
set_option maxRecDepth 100000 in
set_option maxHeartbeats 400000 in
theorem c_X4_site_ok (l : Launch) (D : va_G) (cI cJ cZ : ClassId) (ad : Nat → Nat) (σ : MS) (t : Nat) (q : Nat) (k : Nat)  (hQ : QI σ) (ht : t < gmty σ) (hq : q < 4) (hk : k < gmmy σ (4 * t + q)) : CM l D (t3 cI cJ cZ) yX4_site cX4_site 5 (some .int) 1 [.ref (ad 0), .int (nI t), .int (nI q), .int (nI k)] (wR ad cI cJ cZ σ) (some (.int (nI (siF (smth σ (thF false false)) (4 * t + q) k)))) (wR ad cI cJ cZ (smth σ (thF false false))) := by
  refine CM.of (by decide) (Nat.le_of_ble_eq_true rfl) ?_
  intro p e s m below meth c A ls E hr hlk hP hD0 hA hA2 hS hl
  have hD := wR_D hD0
  have hl : lv_has ls 5 [(0, .ref (ad 0)), (1, .int (nI t)), (2, .int (nI q)), (3, .int (nI k))] := hl
  have hty := hQ.2.2
  have hm9 := hQ.2.1 (4 * t + q)
  refine lv_aload_n E.1.1 E.1.2.1 dX4_site_0 rfl (lv_at hl 0 rfl) ?_
  refine lv_iload_n E.1.1 E.1.2.1 dX4_site_1 rfl (lv_at hl 1 rfl) ?_
  refine lv_iload_n E.1.1 E.1.2.1 dX4_site_2 rfl (lv_at hl 2 rfl) ?_
  refine CM.callVi (n := 2) E (c_X4_isBody l D cI cJ cZ ad σ (nI t) (nI q) hQ) ml_X4_87 im_X4_isBody se_X4_isBody ini_X4 co_X4_isBody hd_X4_isBody ⟨Nat.le_of_ble_eq_true rfl, Nat.le_of_ble_eq_true rfl⟩ ⟨Nat.le_refl _, Nat.le_refl _⟩ 0 rfl rfl hP (hD _) hS hA2 rfl hl.1 (Nat.le_of_ble_eq_true rfl) dX4_site_3 rfl (fun H locs hP hS => ?_)
  refine tpi (y := bI true) (by rw [isW_t ht (by have := hQ.2.2; omega), isW_t hq (by decide)]; rfl) ?_
  refine bv_if_eq (x := true) E dX4_site_6 (tgt := 31) (by decide) (fun h6 => ?_) (fun h6 => ?_)
  · exact absurd h6 (by decide)
  · refine lv_iload_n E.1.1 E.1.2.1 dX4_site_9 rfl (lv_at hl 3 rfl) ?_
    refine nv_if_lt (by omega) E dX4_site_10 (tgt := 31) (by decide) ?_
    refine lv_iload_n E.1.1 E.1.2.1 dX4_site_13 rfl (lv_at hl 3 rfl) ?_
    refine lv_aload_n E.1.1 E.1.2.1 dX4_site_14 rfl (lv_at hl 0 rfl) ?_
    refine gt_X4_many E fl_X4_17 hP dX4_site_15 ?_
    refine lv_iconst (v := nI 4) E.1.1 E.1.2.1 dX4_site_18 rfl ?_
    refine lv_iload_n E.1.1 E.1.2.1 dX4_site_19 rfl (lv_at hl 1 rfl) ?_
    refine nv_imul E dX4_site_20 ?_
    refine lv_iload_n E.1.1 E.1.2.1 dX4_site_21 rfl (lv_at hl 2 rfl) ?_
    refine nv_iadd E dX4_site_22 ?_
    refine ld_MS_my (i := (4 * t) + q) E hP (by omega) dX4_site_23 ?_
    refine nv_icmp_ge (by omega) (by omega) E dX4_site_24 (tgt := 31) (by decide) (fun h24 => ?_) (fun h24 => ?_)
    · exact absurd h24 (by omega)
    · refine lv_iconst (v := nI 1) E.1.1 E.1.2.1 dX4_site_27 rfl ?_
      refine lv_goto (tgt := 32) E.1.1 E.1.2.1 dX4_site_28 (by decide) ?_
      refine lv_istore (lv' := [(4, .int (nI 1)), (0, .ref (ad 0)), (1, .int (nI t)), (2, .int (nI q)), (3, .int (nI k))]) E.1.1 E.1.2.1 dX4_site_32 hl (by decide) rfl (fun ls hl => ?_)
      refine lv_aload_n E.1.1 E.1.2.1 dX4_site_34 rfl (lv_at hl 1 rfl) ?_
      refine lv_iload E.1.1 E.1.2.1 dX4_site_35 (lv_at hl 0 rfl) ?_
      refine nv_if_ne (by omega) E dX4_site_37 (tgt := 44) (by decide) (fun h37 => ?_) (fun h37 => ?_)
      · refine lv_iconst (v := nI 0) E.1.1 E.1.2.1 dX4_site_44 rfl ?_
        refine lv_iconst (v := nI 0) E.1.1 E.1.2.1 dX4_site_45 rfl ?_
        refine CM.callVi (n := 2) E (c_X4_fails l D cI cJ cZ ad σ false false) ml_X4_76 im_X4_fails se_X4_fails ini_X4 co_X4_fails hd_X4_fails ⟨Nat.le_of_ble_eq_true rfl, Nat.le_of_ble_eq_true rfl⟩ ⟨Nat.le_refl _, Nat.le_refl _⟩ 0 rfl rfl hP (hD _) hS hA2 rfl hl.1 (Nat.le_of_ble_eq_true rfl) dX4_site_46 rfl (fun H locs hP hS => ?_)
        refine bv_if_eq (x := false || false) E dX4_site_49 (tgt := 56) (by decide) (fun h49 => ?_) (fun h49 => ?_)
        · refine lv_aload_n E.1.1 E.1.2.1 dX4_site_56 rfl (lv_at hl 1 rfl) ?_
          refine lv_iconst (v := nI 4) E.1.1 E.1.2.1 dX4_site_57 rfl ?_
          refine lv_iload_n E.1.1 E.1.2.1 dX4_site_58 rfl (lv_at hl 2 rfl) ?_
          refine nv_imul E dX4_site_59 ?_
          refine lv_iload_n E.1.1 E.1.2.1 dX4_site_60 rfl (lv_at hl 3 rfl) ?_
          refine nv_iadd E dX4_site_61 ?_
          refine lv_iload_n E.1.1 E.1.2.1 dX4_site_62 rfl (lv_at hl 4 rfl) ?_
          refine CM.callVi (n := 2) E (c_X4_siteOf l D cI cJ cZ ad (smth σ (thF false false)) ((4 * t) + q) k (by omega) (by omega)) ml_X4_116 im_X4_siteOf se_X4_siteOf ini_X4 co_X4_siteOf hd_X4_siteOf ⟨Nat.le_of_ble_eq_true rfl, Nat.le_of_ble_eq_true rfl⟩ ⟨Nat.le_refl _, Nat.le_refl _⟩ 0 rfl rfl hP (hD _) hS hA2 rfl hl.1 (Nat.le_of_ble_eq_true rfl) dX4_site_63 rfl (fun H locs hP hS => ?_)
          exact CM.reti E hr hlk hA hP hS rfl dX4_site_66
        · exact absurd h49 (by decide)
      · exact absurd h37 (by omega)
set_option maxRecDepth 100000 in
set_option maxHeartbeats 400000 in
theorem c_X4_site_no (l : Launch) (D : va_G) (cI cJ cZ : ClassId) (ad : Nat → Nat) (σ : MS) (t : Int32) (q : Int32) (k : Int32)  (hQ : QI σ) (hv : (isW t (nI (gmty σ)) && isW q (nI 4)) = false) : CM l D (t3 cI cJ cZ) yX4_site cX4_site 5 (some .int) 1 [.ref (ad 0), .int t, .int q, .int k] (wR ad cI cJ cZ σ) (some (.int (nI 0))) (wR ad cI cJ cZ (smth σ (thF true false))) := by
  refine CM.of (by decide) (Nat.le_of_ble_eq_true rfl) ?_
  intro p e s m below meth c A ls E hr hlk hP hD0 hA hA2 hS hl
  have hD := wR_D hD0
  have hl : lv_has ls 5 [(0, .ref (ad 0)), (1, .int t), (2, .int q), (3, .int k)] := hl
  refine lv_aload_n E.1.1 E.1.2.1 dX4_site_0 rfl (lv_at hl 0 rfl) ?_
  refine lv_iload_n E.1.1 E.1.2.1 dX4_site_1 rfl (lv_at hl 1 rfl) ?_
  refine lv_iload_n E.1.1 E.1.2.1 dX4_site_2 rfl (lv_at hl 2 rfl) ?_
  refine CM.callVi (n := 2) E (c_X4_isBody l D cI cJ cZ ad σ t q hQ) ml_X4_87 im_X4_isBody se_X4_isBody ini_X4 co_X4_isBody hd_X4_isBody ⟨Nat.le_of_ble_eq_true rfl, Nat.le_of_ble_eq_true rfl⟩ ⟨Nat.le_refl _, Nat.le_refl _⟩ 0 rfl rfl hP (hD _) hS hA2 rfl hl.1 (Nat.le_of_ble_eq_true rfl) dX4_site_3 rfl (fun H locs hP hS => ?_)
  refine tpi (y := bI false) (by rw [hv]) ?_
  refine bv_if_eq (x := false) E dX4_site_6 (tgt := 31) (by decide) (fun h6 => ?_) (fun h6 => ?_)
  · refine lv_iconst (v := nI 0) E.1.1 E.1.2.1 dX4_site_31 rfl ?_
    refine lv_istore (lv' := [(4, .int (nI 0)), (0, .ref (ad 0)), (1, .int t), (2, .int q), (3, .int k)]) E.1.1 E.1.2.1 dX4_site_32 hl (by decide) rfl (fun ls hl => ?_)
    refine lv_aload_n E.1.1 E.1.2.1 dX4_site_34 rfl (lv_at hl 1 rfl) ?_
    refine lv_iload E.1.1 E.1.2.1 dX4_site_35 (lv_at hl 0 rfl) ?_
    refine nv_if_ne (by omega) E dX4_site_37 (tgt := 44) (by decide) (fun h37 => ?_) (fun h37 => ?_)
    · exact absurd h37 (by omega)
    · refine lv_iconst (v := nI 1) E.1.1 E.1.2.1 dX4_site_40 rfl ?_
      refine lv_goto (tgt := 45) E.1.1 E.1.2.1 dX4_site_41 (by decide) ?_
      refine lv_iconst (v := nI 0) E.1.1 E.1.2.1 dX4_site_45 rfl ?_
      refine CM.callVi (n := 2) E (c_X4_fails l D cI cJ cZ ad σ true false) ml_X4_76 im_X4_fails se_X4_fails ini_X4 co_X4_fails hd_X4_fails ⟨Nat.le_of_ble_eq_true rfl, Nat.le_of_ble_eq_true rfl⟩ ⟨Nat.le_refl _, Nat.le_refl _⟩ 0 rfl rfl hP (hD _) hS hA2 rfl hl.1 (Nat.le_of_ble_eq_true rfl) dX4_site_46 rfl (fun H locs hP hS => ?_)
      refine bv_if_eq (x := true || false) E dX4_site_49 (tgt := 56) (by decide) (fun h49 => ?_) (fun h49 => ?_)
      · exact absurd h49 (by decide)
      · refine lv_iconst (v := nI 0) E.1.1 E.1.2.1 dX4_site_52 rfl ?_
        refine lv_goto (tgt := 66) E.1.1 E.1.2.1 dX4_site_53 (by decide) ?_
        exact CM.reti E hr hlk hA hP hS rfl dX4_site_66
  · exact absurd h6 (by decide)
set_option maxRecDepth 100000 in
set_option maxHeartbeats 400000 in
theorem c_X4_site_no2 (l : Launch) (D : va_G) (cI cJ cZ : ClassId) (ad : Nat → Nat) (σ : MS) (t : Nat) (q : Nat) (k : Int32)  (hQ : QI σ) (ht : t < gmty σ) (hq : q < 4) (hv : isW k (nI (gmmy σ (4 * t + q))) = false) : CM l D (t3 cI cJ cZ) yX4_site cX4_site 5 (some .int) 1 [.ref (ad 0), .int (nI t), .int (nI q), .int k] (wR ad cI cJ cZ σ) (some (.int (nI 0))) (wR ad cI cJ cZ (smth σ (thF true false))) := by
  refine CM.of (by decide) (Nat.le_of_ble_eq_true rfl) ?_
  intro p e s m below meth c A ls E hr hlk hP hD0 hA hA2 hS hl
  have hD := wR_D hD0
  have hl : lv_has ls 5 [(0, .ref (ad 0)), (1, .int (nI t)), (2, .int (nI q)), (3, .int k)] := hl
  have hty := hQ.2.2
  refine lv_aload_n E.1.1 E.1.2.1 dX4_site_0 rfl (lv_at hl 0 rfl) ?_
  refine lv_iload_n E.1.1 E.1.2.1 dX4_site_1 rfl (lv_at hl 1 rfl) ?_
  refine lv_iload_n E.1.1 E.1.2.1 dX4_site_2 rfl (lv_at hl 2 rfl) ?_
  refine CM.callVi (n := 2) E (c_X4_isBody l D cI cJ cZ ad σ (nI t) (nI q) hQ) ml_X4_87 im_X4_isBody se_X4_isBody ini_X4 co_X4_isBody hd_X4_isBody ⟨Nat.le_of_ble_eq_true rfl, Nat.le_of_ble_eq_true rfl⟩ ⟨Nat.le_refl _, Nat.le_refl _⟩ 0 rfl rfl hP (hD _) hS hA2 rfl hl.1 (Nat.le_of_ble_eq_true rfl) dX4_site_3 rfl (fun H locs hP hS => ?_)
  refine tpi (y := bI true) (by rw [isW_t ht (by have := hQ.2.2; omega), isW_t hq (by decide)]; rfl) ?_
  refine bv_if_eq (x := true) E dX4_site_6 (tgt := 31) (by decide) (fun h6 => ?_) (fun h6 => ?_)
  · exact absurd h6 (by decide)
  · refine lv_iload_n E.1.1 E.1.2.1 dX4_site_9 rfl (lv_at hl 3 rfl) ?_
    refine lv_if_lt (tgt := 31) E.1.1 E.1.2.1 dX4_site_10 (by decide) (fun h10 => ?_) (fun h10 => ?_)
    · refine lv_iconst (v := nI 0) E.1.1 E.1.2.1 dX4_site_31 rfl ?_
      refine lv_istore (lv' := [(4, .int (nI 0)), (0, .ref (ad 0)), (1, .int (nI t)), (2, .int (nI q)), (3, .int k)]) E.1.1 E.1.2.1 dX4_site_32 hl (by decide) rfl (fun ls hl => ?_)
      refine lv_aload_n E.1.1 E.1.2.1 dX4_site_34 rfl (lv_at hl 1 rfl) ?_
      refine lv_iload E.1.1 E.1.2.1 dX4_site_35 (lv_at hl 0 rfl) ?_
      refine nv_if_ne (by omega) E dX4_site_37 (tgt := 44) (by decide) (fun h37 => ?_) (fun h37 => ?_)
      · exact absurd h37 (by omega)
      · refine lv_iconst (v := nI 1) E.1.1 E.1.2.1 dX4_site_40 rfl ?_
        refine lv_goto (tgt := 45) E.1.1 E.1.2.1 dX4_site_41 (by decide) ?_
        refine lv_iconst (v := nI 0) E.1.1 E.1.2.1 dX4_site_45 rfl ?_
        refine CM.callVi (n := 2) E (c_X4_fails l D cI cJ cZ ad σ true false) ml_X4_76 im_X4_fails se_X4_fails ini_X4 co_X4_fails hd_X4_fails ⟨Nat.le_of_ble_eq_true rfl, Nat.le_of_ble_eq_true rfl⟩ ⟨Nat.le_refl _, Nat.le_refl _⟩ 0 rfl rfl hP (hD _) hS hA2 rfl hl.1 (Nat.le_of_ble_eq_true rfl) dX4_site_46 rfl (fun H locs hP hS => ?_)
        refine bv_if_eq (x := true || false) E dX4_site_49 (tgt := 56) (by decide) (fun h49 => ?_) (fun h49 => ?_)
        · exact absurd h49 (by decide)
        · refine lv_iconst (v := nI 0) E.1.1 E.1.2.1 dX4_site_52 rfl ?_
          refine lv_goto (tgt := 66) E.1.1 E.1.2.1 dX4_site_53 (by decide) ?_
          exact CM.reti E hr hlk hA hP hS rfl dX4_site_66
    · refine lv_iload_n E.1.1 E.1.2.1 dX4_site_13 rfl (lv_at hl 3 rfl) ?_
      refine lv_aload_n E.1.1 E.1.2.1 dX4_site_14 rfl (lv_at hl 0 rfl) ?_
      refine gt_X4_many E fl_X4_17 hP dX4_site_15 ?_
      refine lv_iconst (v := nI 4) E.1.1 E.1.2.1 dX4_site_18 rfl ?_
      refine lv_iload_n E.1.1 E.1.2.1 dX4_site_19 rfl (lv_at hl 1 rfl) ?_
      refine nv_imul E dX4_site_20 ?_
      refine lv_iload_n E.1.1 E.1.2.1 dX4_site_21 rfl (lv_at hl 2 rfl) ?_
      refine nv_iadd E dX4_site_22 ?_
      refine ld_MS_my (i := (4 * t) + q) E hP (by omega) dX4_site_23 ?_
      refine lv_icmp_ge (tgt := 31) E.1.1 E.1.2.1 dX4_site_24 (by decide) (fun h24 => ?_) (fun h24 => ?_)
      · refine lv_iconst (v := nI 0) E.1.1 E.1.2.1 dX4_site_31 rfl ?_
        refine lv_istore (lv' := [(4, .int (nI 0)), (0, .ref (ad 0)), (1, .int (nI t)), (2, .int (nI q)), (3, .int k)]) E.1.1 E.1.2.1 dX4_site_32 hl (by decide) rfl (fun ls hl => ?_)
        refine lv_aload_n E.1.1 E.1.2.1 dX4_site_34 rfl (lv_at hl 1 rfl) ?_
        refine lv_iload E.1.1 E.1.2.1 dX4_site_35 (lv_at hl 0 rfl) ?_
        refine nv_if_ne (by omega) E dX4_site_37 (tgt := 44) (by decide) (fun h37 => ?_) (fun h37 => ?_)
        · exact absurd h37 (by omega)
        · refine lv_iconst (v := nI 1) E.1.1 E.1.2.1 dX4_site_40 rfl ?_
          refine lv_goto (tgt := 45) E.1.1 E.1.2.1 dX4_site_41 (by decide) ?_
          refine lv_iconst (v := nI 0) E.1.1 E.1.2.1 dX4_site_45 rfl ?_
          refine CM.callVi (n := 2) E (c_X4_fails l D cI cJ cZ ad σ true false) ml_X4_76 im_X4_fails se_X4_fails ini_X4 co_X4_fails hd_X4_fails ⟨Nat.le_of_ble_eq_true rfl, Nat.le_of_ble_eq_true rfl⟩ ⟨Nat.le_refl _, Nat.le_refl _⟩ 0 rfl rfl hP (hD _) hS hA2 rfl hl.1 (Nat.le_of_ble_eq_true rfl) dX4_site_46 rfl (fun H locs hP hS => ?_)
          refine bv_if_eq (x := true || false) E dX4_site_49 (tgt := 56) (by decide) (fun h49 => ?_) (fun h49 => ?_)
          · exact absurd h49 (by decide)
          · refine lv_iconst (v := nI 0) E.1.1 E.1.2.1 dX4_site_52 rfl ?_
            refine lv_goto (tgt := 66) E.1.1 E.1.2.1 dX4_site_53 (by decide) ?_
            exact CM.reti E hr hlk hA hP hS rfl dX4_site_66
      · exact absurd hv (by simp [isW, h10, h24])
set_option maxRecDepth 100000 in
set_option maxHeartbeats 400000 in
theorem c_X4_reach (l : Launch) (D : va_G) (cI cJ cZ : ClassId) (ad : Nat → Nat) (σ : MS)    : CM l D (t3 cI cJ cZ) yX4_reach cX4_reach 3 (some .int) 0 [.ref (ad 0)] (wR ad cI cJ cZ σ) (some (.int (nI (rcF σ)))) (wR ad cI cJ cZ (smth σ 0)) := by
  refine CM.of (by decide) (Nat.le_of_ble_eq_true rfl) ?_
  intro p e s m below meth c A ls E hr hlk hP hD0 hA hA2 hS hl
  have hD := wR_D hD0
  have hl : lv_has ls 3 [(0, .ref (ad 0))] := hl
  refine lv_aload_n E.1.1 E.1.2.1 dX4_reach_0 rfl (lv_at hl 0 rfl) ?_
  refine lv_iconst (v := nI 0) E.1.1 E.1.2.1 dX4_reach_1 rfl ?_
  refine pt_X4_thrown (v := 0) E fl_X4_69 hP hD hS dX4_reach_2 (fun H locs hP hS => ?_)
  refine lv_iconst (v := nI 0) E.1.1 E.1.2.1 dX4_reach_5 rfl ?_
  refine lv_istore_n (lv' := [(1, .int (nI 0)), (0, .ref (ad 0))]) E.1.1 E.1.2.1 dX4_reach_6 rfl hl (by decide) rfl (fun ls hl => ?_)
  refine lv_iconst (v := nI 0) E.1.1 E.1.2.1 dX4_reach_7 rfl ?_
  refine lv_istore_n (lv' := [(2, .int (nI 0)), (1, .int (nI 0)), (0, .ref (ad 0))]) E.1.1 E.1.2.1 dX4_reach_8 rfl hl (by decide) rfl (fun ls hl => ?_)
  have LP9 : ∀ (n : Nat) (k : Nat) (w : Nat) (H : Heap) (locs : List Loc) (ls : Array Slot), (k + n = 6) → (itN (rcS σ) 6 0 0 = itN (rcS σ) n k w) → va_P D vwCl (wR ad cI cJ cZ (smth σ 0)) H → va_S A s.heap H locs → lv_has ls 3 [(0, .ref (ad 0)), (1, .int (nI w)), (2, .int (nI k))] → W p l e { frames := 0, cells := 0, slots := 0, locals := 40 * 0 } s m [.ref (ad 0)].toArray below meth c H locs 0 0 (MQ below (Qcm D (wR ad cI cJ cZ σ) s.heap.size (some (.int (nI (rcF σ)))) (wR ad cI cJ cZ (smth σ 0))) [.ref (ad 0)].toArray s 0 0 A) (F0 m 9 ls []) := by
    intro n
    induction n with
    | zero =>
      intro k w H locs ls hk hv hP hS hl
      refine lv_iload_n E.1.1 E.1.2.1 dX4_reach_9 rfl (lv_at hl 2 rfl) ?_
      refine lv_bipush (v := nI 6) E.1.1 E.1.2.1 dX4_reach_10 rfl ?_
      refine nv_icmp_ge (by omega) (by omega) E dX4_reach_12 (tgt := 40) (by decide) (fun h12 => ?_) (fun h12 => ?_)
      · refine lv_iconst (v := nI 0) E.1.1 E.1.2.1 dX4_reach_40 rfl ?_
        refine lv_istore_n (lv' := [(2, .int (nI 0)), (0, .ref (ad 0)), (1, .int (nI w))]) E.1.1 E.1.2.1 dX4_reach_41 rfl hl (by decide) rfl (fun ls hl => ?_)
        have LP42 : ∀ (n : Nat) (k : Nat) (w : Nat) (H : Heap) (locs : List Loc) (ls : Array Slot), (k + n = 24) → (rcF σ = itN (rrS σ) n k w) → va_P D vwCl (wR ad cI cJ cZ (smth σ 0)) H → va_S A s.heap H locs → lv_has ls 3 [(0, .ref (ad 0)), (1, .int (nI w)), (2, .int (nI k))] → W p l e { frames := 0, cells := 0, slots := 0, locals := 40 * 0 } s m [.ref (ad 0)].toArray below meth c H locs 0 0 (MQ below (Qcm D (wR ad cI cJ cZ σ) s.heap.size (some (.int (nI (rcF σ)))) (wR ad cI cJ cZ (smth σ 0))) [.ref (ad 0)].toArray s 0 0 A) (F0 m 42 ls []) := by
          intro n
          induction n with
          | zero =>
            intro k w H locs ls hk hv hP hS hl
            refine lv_iload_n E.1.1 E.1.2.1 dX4_reach_42 rfl (lv_at hl 2 rfl) ?_
            refine lv_bipush (v := nI 24) E.1.1 E.1.2.1 dX4_reach_43 rfl ?_
            refine nv_icmp_ge (by omega) (by omega) E dX4_reach_45 (tgt := 76) (by decide) (fun h45 => ?_) (fun h45 => ?_)
            · refine lv_iload_n E.1.1 E.1.2.1 dX4_reach_76 rfl (lv_at hl 1 rfl) ?_
              exact CM.reti E hr hlk hA hP hS (by rw [hv]; rfl) dX4_reach_77
            · exact absurd h45 (by omega)
          | succ n ih42 =>
            intro k w H locs ls hk hv hP hS hl
            refine lv_iload_n E.1.1 E.1.2.1 dX4_reach_42 rfl (lv_at hl 2 rfl) ?_
            refine lv_bipush (v := nI 24) E.1.1 E.1.2.1 dX4_reach_43 rfl ?_
            refine nv_icmp_ge (by omega) (by omega) E dX4_reach_45 (tgt := 76) (by decide) (fun h45 => ?_) (fun h45 => ?_)
            · exact absurd h45 (by omega)
            · refine lv_iload_n E.1.1 E.1.2.1 dX4_reach_48 rfl (lv_at hl 1 rfl) ?_
              refine lv_aload_n E.1.1 E.1.2.1 dX4_reach_49 rfl (lv_at hl 0 rfl) ?_
              refine gt_X4_reached E fl_X4_27 hP dX4_reach_50 ?_
              refine lv_iload_n E.1.1 E.1.2.1 dX4_reach_53 rfl (lv_at hl 2 rfl) ?_
              refine ld_MS_rd (i := k) E hP (by omega) dX4_reach_54 ?_
              refine tpi (y := bI (gmrd σ k)) (by rw [hs_rd_th]) ?_
              refine bv_if_eq (x := gmrd σ k) E dX4_reach_55 (tgt := 67) (by decide) (fun h55 => ?_) (fun h55 => ?_)
              · refine lv_iconst (v := nI 0) E.1.1 E.1.2.1 dX4_reach_67 rfl ?_
                refine nv_ior E dX4_reach_68 ?_
                refine lv_istore_n (lv' := [(1, .int (nI (w ||| 0))), (0, .ref (ad 0)), (2, .int (nI k))]) E.1.1 E.1.2.1 dX4_reach_69 rfl hl (by decide) rfl (fun ls hl => ?_)
                refine lv_iinc (v := nI (k + 1)) (lv' := [(2, .int (nI (k + 1))), (1, .int (nI (w ||| 0))), (0, .ref (ad 0))]) E.1.1 E.1.2.1 dX4_reach_70 hl (k := 2) rfl (nI_add k 1) (by decide) rfl (fun ls hl => ?_)
                refine lv_goto (tgt := 42) E.1.1 E.1.2.1 dX4_reach_73 (by decide) ?_
                exact ih42 (k + 1) (w ||| 0) _ _ _ (by omega) (by rw [hv, itN, rrS]; first | (rw [if_pos h55]; done) | rw [if_neg (by rw [h55]; decide)]) hP hS (lv_sub hl [2, 1, 0] rfl)
              · refine lv_iconst (v := nI 1) E.1.1 E.1.2.1 dX4_reach_58 rfl ?_
                refine lv_bipush (v := nI 8) E.1.1 E.1.2.1 dX4_reach_59 rfl ?_
                refine lv_iload_n E.1.1 E.1.2.1 dX4_reach_61 rfl (lv_at hl 2 rfl) ?_
                refine nv_iadd E dX4_reach_62 ?_
                refine nv_ishl (by omega) E dX4_reach_63 ?_
                refine lv_goto (tgt := 68) E.1.1 E.1.2.1 dX4_reach_64 (by decide) ?_
                refine nv_ior E dX4_reach_68 ?_
                refine lv_istore_n (lv' := [(1, .int (nI (w ||| (1 <<< (8 + k))))), (0, .ref (ad 0)), (2, .int (nI k))]) E.1.1 E.1.2.1 dX4_reach_69 rfl hl (by decide) rfl (fun ls hl => ?_)
                refine lv_iinc (v := nI (k + 1)) (lv' := [(2, .int (nI (k + 1))), (1, .int (nI (w ||| (1 <<< (8 + k))))), (0, .ref (ad 0))]) E.1.1 E.1.2.1 dX4_reach_70 hl (k := 2) rfl (nI_add k 1) (by decide) rfl (fun ls hl => ?_)
                refine lv_goto (tgt := 42) E.1.1 E.1.2.1 dX4_reach_73 (by decide) ?_
                exact ih42 (k + 1) (w ||| (1 <<< (8 + k))) _ _ _ (by omega) (by rw [hv, itN, rrS]; first | (rw [if_pos h55]; done) | rw [if_neg (by rw [h55]; decide)]) hP hS (lv_sub hl [2, 1, 0] rfl)
        exact LP42 24 0 w _ _ _ (by omega) (by rw [rcF, hv]; rfl) hP hS (lv_sub hl [1, 2, 0] rfl)
      · exact absurd h12 (by omega)
    | succ n ih9 =>
      intro k w H locs ls hk hv hP hS hl
      refine lv_iload_n E.1.1 E.1.2.1 dX4_reach_9 rfl (lv_at hl 2 rfl) ?_
      refine lv_bipush (v := nI 6) E.1.1 E.1.2.1 dX4_reach_10 rfl ?_
      refine nv_icmp_ge (by omega) (by omega) E dX4_reach_12 (tgt := 40) (by decide) (fun h12 => ?_) (fun h12 => ?_)
      · exact absurd h12 (by omega)
      · refine lv_iload_n E.1.1 E.1.2.1 dX4_reach_15 rfl (lv_at hl 1 rfl) ?_
        refine lv_aload_n E.1.1 E.1.2.1 dX4_reach_16 rfl (lv_at hl 0 rfl) ?_
        refine gt_X4_made E fl_X4_23 hP dX4_reach_17 ?_
        refine lv_iload_n E.1.1 E.1.2.1 dX4_reach_20 rfl (lv_at hl 2 rfl) ?_
        refine ld_MS_md (i := k) E hP (by omega) dX4_reach_21 ?_
        refine tpi (y := bI (gmmd σ k)) (by rw [hs_md_th]) ?_
        refine bv_if_eq (x := gmmd σ k) E dX4_reach_22 (tgt := 31) (by decide) (fun h22 => ?_) (fun h22 => ?_)
        · refine lv_iconst (v := nI 0) E.1.1 E.1.2.1 dX4_reach_31 rfl ?_
          refine nv_ior E dX4_reach_32 ?_
          refine lv_istore_n (lv' := [(1, .int (nI (w ||| 0))), (0, .ref (ad 0)), (2, .int (nI k))]) E.1.1 E.1.2.1 dX4_reach_33 rfl hl (by decide) rfl (fun ls hl => ?_)
          refine lv_iinc (v := nI (k + 1)) (lv' := [(2, .int (nI (k + 1))), (1, .int (nI (w ||| 0))), (0, .ref (ad 0))]) E.1.1 E.1.2.1 dX4_reach_34 hl (k := 2) rfl (nI_add k 1) (by decide) rfl (fun ls hl => ?_)
          refine lv_goto (tgt := 9) E.1.1 E.1.2.1 dX4_reach_37 (by decide) ?_
          exact ih9 (k + 1) (w ||| 0) _ _ _ (by omega) (by rw [hv, itN, rcS]; first | (rw [if_pos h22]; done) | rw [if_neg (by rw [h22]; decide)]) hP hS (lv_sub hl [2, 1, 0] rfl)
        · refine lv_iconst (v := nI 1) E.1.1 E.1.2.1 dX4_reach_25 rfl ?_
          refine lv_iload_n E.1.1 E.1.2.1 dX4_reach_26 rfl (lv_at hl 2 rfl) ?_
          refine nv_ishl (by omega) E dX4_reach_27 ?_
          refine lv_goto (tgt := 32) E.1.1 E.1.2.1 dX4_reach_28 (by decide) ?_
          refine nv_ior E dX4_reach_32 ?_
          refine lv_istore_n (lv' := [(1, .int (nI (w ||| (1 <<< k)))), (0, .ref (ad 0)), (2, .int (nI k))]) E.1.1 E.1.2.1 dX4_reach_33 rfl hl (by decide) rfl (fun ls hl => ?_)
          refine lv_iinc (v := nI (k + 1)) (lv' := [(2, .int (nI (k + 1))), (1, .int (nI (w ||| (1 <<< k)))), (0, .ref (ad 0))]) E.1.1 E.1.2.1 dX4_reach_34 hl (k := 2) rfl (nI_add k 1) (by decide) rfl (fun ls hl => ?_)
          refine lv_goto (tgt := 9) E.1.1 E.1.2.1 dX4_reach_37 (by decide) ?_
          exact ih9 (k + 1) (w ||| (1 <<< k)) _ _ _ (by omega) (by rw [hv, itN, rcS]; first | (rw [if_pos h22]; done) | rw [if_neg (by rw [h22]; decide)]) hP hS (lv_sub hl [2, 1, 0] rfl)
  exact LP9 6 0 0 _ _ _ (by omega) rfl hP hS (lv_sub hl [2, 1, 0] rfl)
