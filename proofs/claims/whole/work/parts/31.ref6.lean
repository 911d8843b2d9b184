set_option maxRecDepth 100000 in
set_option maxHeartbeats 400000 in
theorem c_X4_type_ok (l : Launch) (D : va_G) (cI cJ cZ : ClassId) (ad : Nat → Nat) (σ : MS) (o : Option Nat)  (hQ : QI σ) (hty : gmty σ < 6) (ho : ∀ j, o = some j → j < gmty σ) : CM l D (t3 cI cJ cZ) yX4_type cX4_type 2 (some .int) 1 [.ref (ad 0), .int (oI o)] (wR ad cI cJ cZ σ) (some (.int (nI (gmty σ)))) (wR ad cI cJ cZ (smty (smpa (smth σ (thF false false)) (va_up (gmpa σ) (gmty σ) o)) (gmty σ + 1))) := by
  refine CM.of (by decide) (Nat.le_of_ble_eq_true rfl) ?_
  intro p e s m below meth c A ls E hr hlk hP hD0 hA hA2 hS hl
  have hD := wR_D hD0
  have hl : lv_has ls 2 [(0, .ref (ad 0)), (1, .int (oI o))] := hl
  have ht0 := hQ.2.2.1
  refine lv_aload_n E.1.1 E.1.2.1 dX4_type_0 rfl (lv_at hl 0 rfl) ?_
  refine lv_iload_n E.1.1 E.1.2.1 dX4_type_1 rfl (lv_at hl 1 rfl) ?_
  refine lv_iconst (v := -1) E.1.1 E.1.2.1 dX4_type_2 rfl ?_
  refine lv_aload_n E.1.1 E.1.2.1 dX4_type_3 rfl (lv_at hl 0 rfl) ?_
  refine gt_X4_types E fl_X4_7 hP dX4_type_4 ?_
  refine lv_iconst (v := nI 1) E.1.1 E.1.2.1 dX4_type_7 rfl ?_
  refine nv_isub (by omega) E dX4_type_8 ?_
  refine CM.callSi (n := 3) E (c_X4_outside l D cI cJ cZ ad σ (oI o) (-1) (nI ((gmty σ) - 1))) ml_X4_72 st_X4_outside ini_X4 co_X4_outside hd_X4_outside ⟨Nat.le_of_ble_eq_true rfl, Nat.le_of_ble_eq_true rfl⟩ ⟨Nat.le_refl _, Nat.le_refl _⟩ hP (hD _) hS hA2 rfl hl.1 (Nat.le_of_ble_eq_true rfl) dX4_type_9 rfl (fun H locs hP hS => ?_)
  refine tpi (y := bI false) (by rw [ou_ok ht0 (by omega) ho]) ?_
  refine lv_aload_n E.1.1 E.1.2.1 dX4_type_12 rfl (lv_at hl 0 rfl) ?_
  refine gt_X4_types E fl_X4_7 hP dX4_type_13 ?_
  refine lv_bipush (v := nI 6) E.1.1 E.1.2.1 dX4_type_16 rfl ?_
  refine nv_icmp_ne (by omega) (by omega) E dX4_type_18 (tgt := 25) (by decide) (fun h18 => ?_) (fun h18 => ?_)
  · refine lv_iconst (v := nI 0) E.1.1 E.1.2.1 dX4_type_25 rfl ?_
    refine CM.callVi (n := 2) E (c_X4_fails l D cI cJ cZ ad σ false false) ml_X4_76 im_X4_fails se_X4_fails ini_X4 co_X4_fails hd_X4_fails ⟨Nat.le_of_ble_eq_true rfl, Nat.le_of_ble_eq_true rfl⟩ ⟨Nat.le_refl _, Nat.le_refl _⟩ 0 rfl rfl hP (hD _) hS hA2 rfl hl.1 (Nat.le_of_ble_eq_true rfl) dX4_type_26 rfl (fun H locs hP hS => ?_)
    refine bv_if_eq (x := false || false) E dX4_type_29 (tgt := 34) (by decide) (fun h29 => ?_) (fun h29 => ?_)
    · refine lv_aload_n E.1.1 E.1.2.1 dX4_type_34 rfl (lv_at hl 0 rfl) ?_
      refine gt_X4_parent E fl_X4_13 hP dX4_type_35 ?_
      refine lv_aload_n E.1.1 E.1.2.1 dX4_type_38 rfl (lv_at hl 0 rfl) ?_
      refine gt_X4_types E fl_X4_7 hP dX4_type_39 ?_
      refine tpi (y := nI (gmty σ)) (by rw [hs_ty_th]) ?_
      refine lv_iload_n E.1.1 E.1.2.1 dX4_type_42 rfl (lv_at hl 1 rfl) ?_
      refine as_MS_pa (i := gmty σ) (v := o) E hP hD hS (by omega) dX4_type_43 (fun H locs hP hS => ?_)
      have hP : va_P D vwCl (wR ad cI cJ cZ (smpa (smth σ (thF false false)) (va_up (gmpa σ) (gmty σ) o))) H := by have q9 := hP; rw [hs_pa_th] at q9; exact q9
      refine lv_aload_n E.1.1 E.1.2.1 dX4_type_44 rfl (lv_at hl 0 rfl) ?_
      refine lv_dup E.1.1 E.1.2.1 dX4_type_45 rfl ?_
      refine gt_X4_types E fl_X4_7 hP dX4_type_46 ?_
      refine tpi (y := nI (gmty σ)) (by rw [hs_ty_pa, hs_ty_th]) ?_
      refine lv_iconst (v := nI 1) E.1.1 E.1.2.1 dX4_type_49 rfl ?_
      refine nv_iadd E dX4_type_50 ?_
      refine pt_X4_types (v := (gmty σ) + 1) E fl_X4_7 hP hD hS dX4_type_51 (fun H locs hP hS => ?_)
      refine lv_aload_n E.1.1 E.1.2.1 dX4_type_54 rfl (lv_at hl 0 rfl) ?_
      refine gt_X4_types E fl_X4_7 hP dX4_type_55 ?_
      refine tpi (y := nI ((gmty σ) + 1)) (by rw [hs_ty_ty]) ?_
      refine lv_iconst (v := nI 1) E.1.1 E.1.2.1 dX4_type_58 rfl ?_
      refine nv_isub (by omega) E dX4_type_59 ?_
      exact CM.reti E hr hlk hA hP hS rfl dX4_type_60
    · exact absurd h29 (by decide)
  · exact absurd h18 (by omega)
set_option maxRecDepth 100000 in
set_option maxHeartbeats 400000 in
theorem c_X4_type_no (l : Launch) (D : va_G) (cI cJ cZ : ClassId) (ad : Nat → Nat) (σ : MS) (v : Int32)  (hQ : QI σ) (hv : ouF v (-1) (nI (gmty σ - 1)) = true) : CM l D (t3 cI cJ cZ) yX4_type cX4_type 2 (some .int) 1 [.ref (ad 0), .int v] (wR ad cI cJ cZ σ) (some (.int (nI 0))) (wR ad cI cJ cZ (smth σ (thF true (decide (gmty σ = 6))))) := by
  refine CM.of (by decide) (Nat.le_of_ble_eq_true rfl) ?_
  intro p e s m below meth c A ls E hr hlk hP hD0 hA hA2 hS hl
  have hD := wR_D hD0
  have hl : lv_has ls 2 [(0, .ref (ad 0)), (1, .int v)] := hl
  have ht0 := hQ.2.2
  refine lv_aload_n E.1.1 E.1.2.1 dX4_type_0 rfl (lv_at hl 0 rfl) ?_
  refine lv_iload_n E.1.1 E.1.2.1 dX4_type_1 rfl (lv_at hl 1 rfl) ?_
  refine lv_iconst (v := -1) E.1.1 E.1.2.1 dX4_type_2 rfl ?_
  refine lv_aload_n E.1.1 E.1.2.1 dX4_type_3 rfl (lv_at hl 0 rfl) ?_
  refine gt_X4_types E fl_X4_7 hP dX4_type_4 ?_
  refine lv_iconst (v := nI 1) E.1.1 E.1.2.1 dX4_type_7 rfl ?_
  refine nv_isub (by omega) E dX4_type_8 ?_
  refine CM.callSi (n := 3) E (c_X4_outside l D cI cJ cZ ad σ v (-1) (nI ((gmty σ) - 1))) ml_X4_72 st_X4_outside ini_X4 co_X4_outside hd_X4_outside ⟨Nat.le_of_ble_eq_true rfl, Nat.le_of_ble_eq_true rfl⟩ ⟨Nat.le_refl _, Nat.le_refl _⟩ hP (hD _) hS hA2 rfl hl.1 (Nat.le_of_ble_eq_true rfl) dX4_type_9 rfl (fun H locs hP hS => ?_)
  refine tpi (y := bI true) (by rw [hv]) ?_
  refine lv_aload_n E.1.1 E.1.2.1 dX4_type_12 rfl (lv_at hl 0 rfl) ?_
  refine gt_X4_types E fl_X4_7 hP dX4_type_13 ?_
  refine lv_bipush (v := nI 6) E.1.1 E.1.2.1 dX4_type_16 rfl ?_
  refine nv_icmp_ne (by omega) (by omega) E dX4_type_18 (tgt := 25) (by decide) (fun h18 => ?_) (fun h18 => ?_)
  · refine lv_iconst (v := nI 0) E.1.1 E.1.2.1 dX4_type_25 rfl ?_
    refine CM.callVi (n := 2) E (c_X4_fails l D cI cJ cZ ad σ true false) ml_X4_76 im_X4_fails se_X4_fails ini_X4 co_X4_fails hd_X4_fails ⟨Nat.le_of_ble_eq_true rfl, Nat.le_of_ble_eq_true rfl⟩ ⟨Nat.le_refl _, Nat.le_refl _⟩ 0 rfl rfl hP (hD _) hS hA2 rfl hl.1 (Nat.le_of_ble_eq_true rfl) dX4_type_26 rfl (fun H locs hP hS => ?_)
    refine bv_if_eq (x := true || false) E dX4_type_29 (tgt := 34) (by decide) (fun h29 => ?_) (fun h29 => ?_)
    · exact absurd h29 (by decide)
    · refine lv_iconst (v := nI 0) E.1.1 E.1.2.1 dX4_type_32 rfl ?_
      exact CM.reti E hr hlk hA (by rw [show decide (gmty σ = 6) = false from (by simp [h18])]; exact hP) hS rfl dX4_type_33
  · refine lv_iconst (v := nI 1) E.1.1 E.1.2.1 dX4_type_21 rfl ?_
    refine lv_goto (tgt := 26) E.1.1 E.1.2.1 dX4_type_22 (by decide) ?_
    refine CM.callVi (n := 2) E (c_X4_fails l D cI cJ cZ ad σ true true) ml_X4_76 im_X4_fails se_X4_fails ini_X4 co_X4_fails hd_X4_fails ⟨Nat.le_of_ble_eq_true rfl, Nat.le_of_ble_eq_true rfl⟩ ⟨Nat.le_refl _, Nat.le_refl _⟩ 0 rfl rfl hP (hD _) hS hA2 rfl hl.1 (Nat.le_of_ble_eq_true rfl) dX4_type_26 rfl (fun H locs hP hS => ?_)
    refine bv_if_eq (x := true || true) E dX4_type_29 (tgt := 34) (by decide) (fun h29 => ?_) (fun h29 => ?_)
    · exact absurd h29 (by decide)
    · refine lv_iconst (v := nI 0) E.1.1 E.1.2.1 dX4_type_32 rfl ?_
      exact CM.reti E hr hlk hA (by rw [show decide (gmty σ = 6) = true from (by simp [h18])]; exact hP) hS rfl dX4_type_33
set_option maxRecDepth 100000 in
set_option maxHeartbeats 400000 in
theorem c_X4_type_no2 (l : Launch) (D : va_G) (cI cJ cZ : ClassId) (ad : Nat → Nat) (σ : MS) (o : Option Nat)  (hQ : QI σ) (hty : gmty σ = 6) (ho : ∀ j, o = some j → j < gmty σ) : CM l D (t3 cI cJ cZ) yX4_type cX4_type 2 (some .int) 1 [.ref (ad 0), .int (oI o)] (wR ad cI cJ cZ σ) (some (.int (nI 0))) (wR ad cI cJ cZ (smth σ (thF false true))) := by
  refine CM.of (by decide) (Nat.le_of_ble_eq_true rfl) ?_
  intro p e s m below meth c A ls E hr hlk hP hD0 hA hA2 hS hl
  have hD := wR_D hD0
  have hl : lv_has ls 2 [(0, .ref (ad 0)), (1, .int (oI o))] := hl
  have ht0 := hQ.2.2.1
  refine lv_aload_n E.1.1 E.1.2.1 dX4_type_0 rfl (lv_at hl 0 rfl) ?_
  refine lv_iload_n E.1.1 E.1.2.1 dX4_type_1 rfl (lv_at hl 1 rfl) ?_
  refine lv_iconst (v := -1) E.1.1 E.1.2.1 dX4_type_2 rfl ?_
  refine lv_aload_n E.1.1 E.1.2.1 dX4_type_3 rfl (lv_at hl 0 rfl) ?_
  refine gt_X4_types E fl_X4_7 hP dX4_type_4 ?_
  refine lv_iconst (v := nI 1) E.1.1 E.1.2.1 dX4_type_7 rfl ?_
  refine nv_isub (by omega) E dX4_type_8 ?_
  refine CM.callSi (n := 3) E (c_X4_outside l D cI cJ cZ ad σ (oI o) (-1) (nI ((gmty σ) - 1))) ml_X4_72 st_X4_outside ini_X4 co_X4_outside hd_X4_outside ⟨Nat.le_of_ble_eq_true rfl, Nat.le_of_ble_eq_true rfl⟩ ⟨Nat.le_refl _, Nat.le_refl _⟩ hP (hD _) hS hA2 rfl hl.1 (Nat.le_of_ble_eq_true rfl) dX4_type_9 rfl (fun H locs hP hS => ?_)
  refine tpi (y := bI false) (by rw [ou_ok ht0 (by omega) ho]) ?_
  refine lv_aload_n E.1.1 E.1.2.1 dX4_type_12 rfl (lv_at hl 0 rfl) ?_
  refine gt_X4_types E fl_X4_7 hP dX4_type_13 ?_
  refine lv_bipush (v := nI 6) E.1.1 E.1.2.1 dX4_type_16 rfl ?_
  refine nv_icmp_ne (by omega) (by omega) E dX4_type_18 (tgt := 25) (by decide) (fun h18 => ?_) (fun h18 => ?_)
  · exact absurd hty h18
  · refine lv_iconst (v := nI 1) E.1.1 E.1.2.1 dX4_type_21 rfl ?_
    refine lv_goto (tgt := 26) E.1.1 E.1.2.1 dX4_type_22 (by decide) ?_
    refine CM.callVi (n := 2) E (c_X4_fails l D cI cJ cZ ad σ false true) ml_X4_76 im_X4_fails se_X4_fails ini_X4 co_X4_fails hd_X4_fails ⟨Nat.le_of_ble_eq_true rfl, Nat.le_of_ble_eq_true rfl⟩ ⟨Nat.le_refl _, Nat.le_refl _⟩ 0 rfl rfl hP (hD _) hS hA2 rfl hl.1 (Nat.le_of_ble_eq_true rfl) dX4_type_26 rfl (fun H locs hP hS => ?_)
    refine bv_if_eq (x := false || true) E dX4_type_29 (tgt := 34) (by decide) (fun h29 => ?_) (fun h29 => ?_)
    · exact absurd h29 (by decide)
    · refine lv_iconst (v := nI 0) E.1.1 E.1.2.1 dX4_type_32 rfl ?_
      exact CM.reti E hr hlk hA hP hS rfl dX4_type_33
set_option maxRecDepth 100000 in
set_option maxHeartbeats 400000 in
theorem c_X4_operation_ok (l : Launch) (D : va_G) (cI cJ cZ : ClassId) (ad : Nat → Nat) (σ : MS) (t : Nat) (q : Nat) (k : Nat) (x : Nat) (y : Int32) (z : Int32)  (hQ : QI σ) (ht : t < gmty σ) (hq : q < 4) (hw : wfF (nI k) (nI x) y z = true) (hm : gmmy σ (4 * t + q) < 10) : CM l D (t3 cI cJ cZ) yX4_operation cX4_operation 10 (some .int) 2 [.ref (ad 0), .int (nI t), .int (nI q), .int (nI k), .int (nI x), .int y, .int z] (wR ad cI cJ cZ σ) (some (.int (nI (gmmy σ (4 * t + q) + 1)))) (wR ad cI cJ cZ (opG (4 * t + q) k x y z σ)) := by
  refine CM.of (by decide) (Nat.le_of_ble_eq_true rfl) ?_
  intro p e s m below meth c A ls E hr hlk hP hD0 hA hA2 hS hl
  have hD := wR_D hD0
  have hl : lv_has ls 10 [(0, .ref (ad 0)), (1, .int (nI t)), (2, .int (nI q)), (3, .int (nI k)), (4, .int (nI x)), (5, .int y), (6, .int z)] := hl
  have hty := hQ.2.2
  have hm9 := hQ.2.1 (4 * t + q)
  refine lv_aload_n E.1.1 E.1.2.1 dX4_operation_0 rfl (lv_at hl 0 rfl) ?_
  refine lv_iload_n E.1.1 E.1.2.1 dX4_operation_1 rfl (lv_at hl 1 rfl) ?_
  refine lv_iload_n E.1.1 E.1.2.1 dX4_operation_2 rfl (lv_at hl 2 rfl) ?_
  refine CM.callVi (n := 2) E (c_X4_isBody l D cI cJ cZ ad σ (nI t) (nI q) hQ) ml_X4_87 im_X4_isBody se_X4_isBody ini_X4 co_X4_isBody hd_X4_isBody ⟨Nat.le_of_ble_eq_true rfl, Nat.le_of_ble_eq_true rfl⟩ ⟨Nat.le_refl _, Nat.le_refl _⟩ 0 rfl rfl hP (hD _) hS hA2 rfl hl.1 (Nat.le_of_ble_eq_true rfl) dX4_operation_3 rfl (fun H locs hP hS => ?_)
  refine tpi (y := bI true) (by rw [isW_t ht (by have := hQ.2.2; omega), isW_t hq (by decide)]; rfl) ?_
  refine bv_if_eq (x := true) E dX4_operation_6 (tgt := 26) (by decide) (fun h6 => ?_) (fun h6 => ?_)
  · exact absurd h6 (by decide)
  · refine lv_iload_n E.1.1 E.1.2.1 dX4_operation_9 rfl (lv_at hl 3 rfl) ?_
    refine lv_iload E.1.1 E.1.2.1 dX4_operation_10 (lv_at hl 4 rfl) ?_
    refine lv_iload E.1.1 E.1.2.1 dX4_operation_12 (lv_at hl 5 rfl) ?_
    refine lv_iload E.1.1 E.1.2.1 dX4_operation_14 (lv_at hl 6 rfl) ?_
    refine CM.callSi (n := 4) E (c_X4_isGood l D cI cJ cZ ad σ (nI k) (nI x) y z) ml_X4_91 st_X4_isGood ini_X4 co_X4_isGood hd_X4_isGood ⟨Nat.le_of_ble_eq_true rfl, Nat.le_of_ble_eq_true rfl⟩ ⟨Nat.le_refl _, Nat.le_refl _⟩ hP (hD _) hS hA2 rfl hl.1 (Nat.le_of_ble_eq_true rfl) dX4_operation_16 rfl (fun H locs hP hS => ?_)
    refine tpi (y := bI true) (by rw [hw]) ?_
    refine bv_if_eq (x := true) E dX4_operation_19 (tgt := 26) (by decide) (fun h19 => ?_) (fun h19 => ?_)
    · exact absurd h19 (by decide)
    · refine lv_iconst (v := nI 1) E.1.1 E.1.2.1 dX4_operation_22 rfl ?_
      refine lv_goto (tgt := 27) E.1.1 E.1.2.1 dX4_operation_23 (by decide) ?_
      refine lv_istore (lv' := [(7, .int (nI 1)), (0, .ref (ad 0)), (1, .int (nI t)), (2, .int (nI q)), (3, .int (nI k)), (4, .int (nI x)), (5, .int y), (6, .int z)]) E.1.1 E.1.2.1 dX4_operation_27 hl (by decide) rfl (fun ls hl => ?_)
      refine lv_iload E.1.1 E.1.2.1 dX4_operation_29 (lv_at hl 0 rfl) ?_
      refine nv_if_eq (by omega) E dX4_operation_31 (tgt := 42) (by decide) (fun h31 => ?_) (fun h31 => ?_)
      · exact absurd h31 (by omega)
      · refine lv_iconst (v := nI 4) E.1.1 E.1.2.1 dX4_operation_34 rfl ?_
        refine lv_iload_n E.1.1 E.1.2.1 dX4_operation_35 rfl (lv_at hl 2 rfl) ?_
        refine nv_imul E dX4_operation_36 ?_
        refine lv_iload_n E.1.1 E.1.2.1 dX4_operation_37 rfl (lv_at hl 3 rfl) ?_
        refine nv_iadd E dX4_operation_38 ?_
        refine lv_goto (tgt := 43) E.1.1 E.1.2.1 dX4_operation_39 (by decide) ?_
        refine lv_istore (lv' := [(8, .int (nI ((4 * t) + q))), (7, .int (nI 1)), (0, .ref (ad 0)), (1, .int (nI t)), (2, .int (nI q)), (3, .int (nI k)), (4, .int (nI x)), (5, .int y), (6, .int z)]) E.1.1 E.1.2.1 dX4_operation_43 hl (by decide) rfl (fun ls hl => ?_)
        refine lv_aload_n E.1.1 E.1.2.1 dX4_operation_45 rfl (lv_at hl 2 rfl) ?_
        refine lv_iload E.1.1 E.1.2.1 dX4_operation_46 (lv_at hl 1 rfl) ?_
        refine nv_if_ne (by omega) E dX4_operation_48 (tgt := 55) (by decide) (fun h48 => ?_) (fun h48 => ?_)
        · refine lv_iconst (v := nI 0) E.1.1 E.1.2.1 dX4_operation_55 rfl ?_
          refine lv_iload E.1.1 E.1.2.1 dX4_operation_56 (lv_at hl 1 rfl) ?_
          refine nv_if_eq (by omega) E dX4_operation_58 (tgt := 77) (by decide) (fun h58 => ?_) (fun h58 => ?_)
          · exact absurd h58 (by omega)
          · refine lv_aload_n E.1.1 E.1.2.1 dX4_operation_61 rfl (lv_at hl 2 rfl) ?_
            refine gt_X4_many E fl_X4_17 hP dX4_operation_62 ?_
            refine lv_iload E.1.1 E.1.2.1 dX4_operation_65 (lv_at hl 0 rfl) ?_
            refine ld_MS_my (i := (4 * t) + q) E hP (by omega) dX4_operation_67 ?_
            refine lv_bipush (v := nI 10) E.1.1 E.1.2.1 dX4_operation_68 rfl ?_
            refine nv_icmp_ne (by omega) (by omega) E dX4_operation_70 (tgt := 77) (by decide) (fun h70 => ?_) (fun h70 => ?_)
            · refine lv_iconst (v := nI 0) E.1.1 E.1.2.1 dX4_operation_77 rfl ?_
              refine CM.callVi (n := 2) E (c_X4_fails l D cI cJ cZ ad σ false false) ml_X4_76 im_X4_fails se_X4_fails ini_X4 co_X4_fails hd_X4_fails ⟨Nat.le_of_ble_eq_true rfl, Nat.le_of_ble_eq_true rfl⟩ ⟨Nat.le_refl _, Nat.le_refl _⟩ 0 rfl rfl hP (hD _) hS hA2 rfl hl.1 (Nat.le_of_ble_eq_true rfl) dX4_operation_78 rfl (fun H locs hP hS => ?_)
              refine bv_if_eq (x := false || false) E dX4_operation_81 (tgt := 86) (by decide) (fun h81 => ?_) (fun h81 => ?_)
              · refine lv_bipush (v := nI 40) E.1.1 E.1.2.1 dX4_operation_86 rfl ?_
                refine lv_iload E.1.1 E.1.2.1 dX4_operation_88 (lv_at hl 0 rfl) ?_
                refine nv_imul E dX4_operation_90 ?_
                refine lv_iconst (v := nI 4) E.1.1 E.1.2.1 dX4_operation_91 rfl ?_
                refine lv_aload_n E.1.1 E.1.2.1 dX4_operation_92 rfl (lv_at hl 2 rfl) ?_
                refine gt_X4_many E fl_X4_17 hP dX4_operation_93 ?_
                refine lv_iload E.1.1 E.1.2.1 dX4_operation_96 (lv_at hl 0 rfl) ?_
                refine ld_MS_my (i := (4 * t) + q) E hP (by omega) dX4_operation_98 ?_
                refine tpi (y := nI (gmmy σ ((4 * t) + q))) (by rw [hs_my_th]) ?_
                refine nv_imul E dX4_operation_99 ?_
                refine nv_iadd E dX4_operation_100 ?_
                refine lv_istore (lv' := [(9, .int (nI ((40 * ((4 * t) + q)) + (4 * (gmmy σ ((4 * t) + q)))))), (8, .int (nI ((4 * t) + q))), (7, .int (nI 1)), (0, .ref (ad 0)), (1, .int (nI t)), (2, .int (nI q)), (3, .int (nI k)), (4, .int (nI x)), (5, .int y), (6, .int z)]) E.1.1 E.1.2.1 dX4_operation_101 hl (by decide) rfl (fun ls hl => ?_)
                refine lv_aload_n E.1.1 E.1.2.1 dX4_operation_103 rfl (lv_at hl 3 rfl) ?_
                refine gt_X4_code E fl_X4_20 hP dX4_operation_104 ?_
                refine lv_iload E.1.1 E.1.2.1 dX4_operation_107 (lv_at hl 0 rfl) ?_
                refine lv_iload_n E.1.1 E.1.2.1 dX4_operation_109 rfl (lv_at hl 6 rfl) ?_
                refine as_MS_cd (i := (40 * ((4 * t) + q)) + (4 * (gmmy σ ((4 * t) + q)))) (v := nI k) E hP hD hS (by omega) dX4_operation_110 (fun H locs hP hS => ?_)
                have hP : va_P D vwCl (wR ad cI cJ cZ (smcd (smth σ (thF false false)) (va_up (gmcd σ) ((40 * ((4 * t) + q)) + (4 * (gmmy σ ((4 * t) + q)))) (nI k)))) H := by have q9 := hP; rw [hs_cd_th] at q9; exact q9
                refine lv_aload_n E.1.1 E.1.2.1 dX4_operation_111 rfl (lv_at hl 3 rfl) ?_
                refine gt_X4_code E fl_X4_20 hP dX4_operation_112 ?_
                refine lv_iload E.1.1 E.1.2.1 dX4_operation_115 (lv_at hl 0 rfl) ?_
                refine lv_iconst (v := nI 1) E.1.1 E.1.2.1 dX4_operation_117 rfl ?_
                refine nv_iadd E dX4_operation_118 ?_
                refine lv_iload E.1.1 E.1.2.1 dX4_operation_119 (lv_at hl 7 rfl) ?_
                refine as_MS_cd (i := ((40 * ((4 * t) + q)) + (4 * (gmmy σ ((4 * t) + q)))) + 1) (v := nI x) E hP hD hS (by omega) dX4_operation_121 (fun H locs hP hS => ?_)
                have hP : va_P D vwCl (wR ad cI cJ cZ (smcd (smth σ (thF false false)) (va_up (va_up (gmcd σ) ((40 * ((4 * t) + q)) + (4 * (gmmy σ ((4 * t) + q)))) (nI k)) (((40 * ((4 * t) + q)) + (4 * (gmmy σ ((4 * t) + q)))) + 1) (nI x)))) H := by have q9 := hP; rw [tt_cd, hs_cd_cd] at q9; exact q9
                refine lv_aload_n E.1.1 E.1.2.1 dX4_operation_122 rfl (lv_at hl 3 rfl) ?_
                refine gt_X4_code E fl_X4_20 hP dX4_operation_123 ?_
                refine lv_iload E.1.1 E.1.2.1 dX4_operation_126 (lv_at hl 0 rfl) ?_
                refine lv_iconst (v := nI 2) E.1.1 E.1.2.1 dX4_operation_128 rfl ?_
                refine nv_iadd E dX4_operation_129 ?_
                refine lv_iload E.1.1 E.1.2.1 dX4_operation_130 (lv_at hl 8 rfl) ?_
                refine as_MS_cd (i := ((40 * ((4 * t) + q)) + (4 * (gmmy σ ((4 * t) + q)))) + 2) (v := y) E hP hD hS (by omega) dX4_operation_132 (fun H locs hP hS => ?_)
                have hP : va_P D vwCl (wR ad cI cJ cZ (smcd (smth σ (thF false false)) (va_up (va_up (va_up (gmcd σ) ((40 * ((4 * t) + q)) + (4 * (gmmy σ ((4 * t) + q)))) (nI k)) (((40 * ((4 * t) + q)) + (4 * (gmmy σ ((4 * t) + q)))) + 1) (nI x)) (((40 * ((4 * t) + q)) + (4 * (gmmy σ ((4 * t) + q)))) + 2) y))) H := by have q9 := hP; rw [tt_cd, hs_cd_cd] at q9; exact q9
                refine lv_aload_n E.1.1 E.1.2.1 dX4_operation_133 rfl (lv_at hl 3 rfl) ?_
                refine gt_X4_code E fl_X4_20 hP dX4_operation_134 ?_
                refine lv_iload E.1.1 E.1.2.1 dX4_operation_137 (lv_at hl 0 rfl) ?_
                refine lv_iconst (v := nI 3) E.1.1 E.1.2.1 dX4_operation_139 rfl ?_
                refine nv_iadd E dX4_operation_140 ?_
                refine lv_iload E.1.1 E.1.2.1 dX4_operation_141 (lv_at hl 9 rfl) ?_
                refine as_MS_cd (i := ((40 * ((4 * t) + q)) + (4 * (gmmy σ ((4 * t) + q)))) + 3) (v := z) E hP hD hS (by omega) dX4_operation_143 (fun H locs hP hS => ?_)
                have hP : va_P D vwCl (wR ad cI cJ cZ (smcd (smth σ (thF false false)) (va_up (va_up (va_up (va_up (gmcd σ) ((40 * ((4 * t) + q)) + (4 * (gmmy σ ((4 * t) + q)))) (nI k)) (((40 * ((4 * t) + q)) + (4 * (gmmy σ ((4 * t) + q)))) + 1) (nI x)) (((40 * ((4 * t) + q)) + (4 * (gmmy σ ((4 * t) + q)))) + 2) y) (((40 * ((4 * t) + q)) + (4 * (gmmy σ ((4 * t) + q)))) + 3) z))) H := by have q9 := hP; rw [tt_cd, hs_cd_cd] at q9; exact q9
                refine lv_aload_n E.1.1 E.1.2.1 dX4_operation_144 rfl (lv_at hl 3 rfl) ?_
                refine gt_X4_many E fl_X4_17 hP dX4_operation_145 ?_
                refine lv_iload E.1.1 E.1.2.1 dX4_operation_148 (lv_at hl 1 rfl) ?_
                refine lv_dup2_11 E.1.1 E.1.2.1 dX4_operation_150 rfl rfl ?_
                refine ld_MS_my (i := (4 * t) + q) E hP (by omega) dX4_operation_151 ?_
                refine tpi (y := nI (gmmy σ ((4 * t) + q))) (by rw [hs_my_cd, hs_my_th]) ?_
                refine lv_iconst (v := nI 1) E.1.1 E.1.2.1 dX4_operation_152 rfl ?_
                refine nv_iadd E dX4_operation_153 ?_
                refine as_MS_my (i := (4 * t) + q) (v := (gmmy σ ((4 * t) + q)) + 1) E hP hD hS (by omega) dX4_operation_154 (fun H locs hP hS => ?_)
                have hP : va_P D vwCl (wR ad cI cJ cZ (smmy (smcd (smth σ (thF false false)) (va_up (va_up (va_up (va_up (gmcd σ) ((40 * ((4 * t) + q)) + (4 * (gmmy σ ((4 * t) + q)))) (nI k)) (((40 * ((4 * t) + q)) + (4 * (gmmy σ ((4 * t) + q)))) + 1) (nI x)) (((40 * ((4 * t) + q)) + (4 * (gmmy σ ((4 * t) + q)))) + 2) y) (((40 * ((4 * t) + q)) + (4 * (gmmy σ ((4 * t) + q)))) + 3) z)) (va_up (gmmy σ) ((4 * t) + q) ((gmmy σ ((4 * t) + q)) + 1)))) H := by have q9 := hP; rw [hs_my_cd, hs_my_th] at q9; exact q9
                refine lv_aload_n E.1.1 E.1.2.1 dX4_operation_155 rfl (lv_at hl 3 rfl) ?_
                refine gt_X4_changed E fl_X4_30 hP dX4_operation_156 ?_
                refine lv_iload E.1.1 E.1.2.1 dX4_operation_159 (lv_at hl 1 rfl) ?_
                refine lv_iconst (v := nI 1) E.1.1 E.1.2.1 dX4_operation_161 rfl ?_
                refine as_MS_ch (i := (4 * t) + q) (v := true) E hP hD hS (by omega) dX4_operation_162 (fun H locs hP hS => ?_)
                have hP : va_P D vwCl (wR ad cI cJ cZ (smch (smmy (smcd (smth σ (thF false false)) (va_up (va_up (va_up (va_up (gmcd σ) ((40 * ((4 * t) + q)) + (4 * (gmmy σ ((4 * t) + q)))) (nI k)) (((40 * ((4 * t) + q)) + (4 * (gmmy σ ((4 * t) + q)))) + 1) (nI x)) (((40 * ((4 * t) + q)) + (4 * (gmmy σ ((4 * t) + q)))) + 2) y) (((40 * ((4 * t) + q)) + (4 * (gmmy σ ((4 * t) + q)))) + 3) z)) (va_up (gmmy σ) ((4 * t) + q) ((gmmy σ ((4 * t) + q)) + 1))) (va_up (gmch σ) ((4 * t) + q) true))) H := by have q9 := hP; rw [hs_ch_my, hs_ch_cd, hs_ch_th] at q9; exact q9
                refine lv_aload_n E.1.1 E.1.2.1 dX4_operation_163 rfl (lv_at hl 3 rfl) ?_
                refine gt_X4_many E fl_X4_17 hP dX4_operation_164 ?_
                refine lv_iload E.1.1 E.1.2.1 dX4_operation_167 (lv_at hl 1 rfl) ?_
                refine ld_MS_my (i := (4 * t) + q) E hP (by omega) dX4_operation_169 ?_
                refine tpi (y := nI ((va_up (gmmy σ) ((4 * t) + q) ((gmmy σ ((4 * t) + q)) + 1)) ((4 * t) + q))) (by rw [hs_my_ch, hs_my_my]) ?_
                exact CM.reti E hr hlk hA (by unfold opG; exact hP) hS (by rw [va_up_self]) dX4_operation_170
              · exact absurd h81 (by decide)
            · exact absurd h70 (by omega)
        · exact absurd h48 (by omega)
set_option maxRecDepth 100000 in
set_option maxHeartbeats 400000 in
theorem c_X4_operation_no2 (l : Launch) (D : va_G) (cI cJ cZ : ClassId) (ad : Nat → Nat) (σ : MS) (t : Nat) (q : Nat) (k : Nat) (x : Nat) (y : Int32) (z : Int32)  (hQ : QI σ) (ht : t < gmty σ) (hq : q < 4) (hw : wfF (nI k) (nI x) y z = true) (hm : gmmy σ (4 * t + q) = 10) : CM l D (t3 cI cJ cZ) yX4_operation cX4_operation 10 (some .int) 2 [.ref (ad 0), .int (nI t), .int (nI q), .int (nI k), .int (nI x), .int y, .int z] (wR ad cI cJ cZ σ) (some (.int (nI 0))) (wR ad cI cJ cZ (smth σ (thF false true))) := by
  refine CM.of (by decide) (Nat.le_of_ble_eq_true rfl) ?_
  intro p e s m below meth c A ls E hr hlk hP hD0 hA hA2 hS hl
  have hD := wR_D hD0
  have hl : lv_has ls 10 [(0, .ref (ad 0)), (1, .int (nI t)), (2, .int (nI q)), (3, .int (nI k)), (4, .int (nI x)), (5, .int y), (6, .int z)] := hl
  have hty := hQ.2.2
  have hm9 := hQ.2.1 (4 * t + q)
  refine lv_aload_n E.1.1 E.1.2.1 dX4_operation_0 rfl (lv_at hl 0 rfl) ?_
  refine lv_iload_n E.1.1 E.1.2.1 dX4_operation_1 rfl (lv_at hl 1 rfl) ?_
  refine lv_iload_n E.1.1 E.1.2.1 dX4_operation_2 rfl (lv_at hl 2 rfl) ?_
  refine CM.callVi (n := 2) E (c_X4_isBody l D cI cJ cZ ad σ (nI t) (nI q) hQ) ml_X4_87 im_X4_isBody se_X4_isBody ini_X4 co_X4_isBody hd_X4_isBody ⟨Nat.le_of_ble_eq_true rfl, Nat.le_of_ble_eq_true rfl⟩ ⟨Nat.le_refl _, Nat.le_refl _⟩ 0 rfl rfl hP (hD _) hS hA2 rfl hl.1 (Nat.le_of_ble_eq_true rfl) dX4_operation_3 rfl (fun H locs hP hS => ?_)
  refine tpi (y := bI true) (by rw [isW_t ht (by have := hQ.2.2; omega), isW_t hq (by decide)]; rfl) ?_
  refine bv_if_eq (x := true) E dX4_operation_6 (tgt := 26) (by decide) (fun h6 => ?_) (fun h6 => ?_)
  · exact absurd h6 (by decide)
  · refine lv_iload_n E.1.1 E.1.2.1 dX4_operation_9 rfl (lv_at hl 3 rfl) ?_
    refine lv_iload E.1.1 E.1.2.1 dX4_operation_10 (lv_at hl 4 rfl) ?_
    refine lv_iload E.1.1 E.1.2.1 dX4_operation_12 (lv_at hl 5 rfl) ?_
    refine lv_iload E.1.1 E.1.2.1 dX4_operation_14 (lv_at hl 6 rfl) ?_
    refine CM.callSi (n := 4) E (c_X4_isGood l D cI cJ cZ ad σ (nI k) (nI x) y z) ml_X4_91 st_X4_isGood ini_X4 co_X4_isGood hd_X4_isGood ⟨Nat.le_of_ble_eq_true rfl, Nat.le_of_ble_eq_true rfl⟩ ⟨Nat.le_refl _, Nat.le_refl _⟩ hP (hD _) hS hA2 rfl hl.1 (Nat.le_of_ble_eq_true rfl) dX4_operation_16 rfl (fun H locs hP hS => ?_)
    refine tpi (y := bI true) (by rw [hw]) ?_
    refine bv_if_eq (x := true) E dX4_operation_19 (tgt := 26) (by decide) (fun h19 => ?_) (fun h19 => ?_)
    · exact absurd h19 (by decide)
    · refine lv_iconst (v := nI 1) E.1.1 E.1.2.1 dX4_operation_22 rfl ?_
      refine lv_goto (tgt := 27) E.1.1 E.1.2.1 dX4_operation_23 (by decide) ?_
      refine lv_istore (lv' := [(7, .int (nI 1)), (0, .ref (ad 0)), (1, .int (nI t)), (2, .int (nI q)), (3, .int (nI k)), (4, .int (nI x)), (5, .int y), (6, .int z)]) E.1.1 E.1.2.1 dX4_operation_27 hl (by decide) rfl (fun ls hl => ?_)
      refine lv_iload E.1.1 E.1.2.1 dX4_operation_29 (lv_at hl 0 rfl) ?_
      refine nv_if_eq (by omega) E dX4_operation_31 (tgt := 42) (by decide) (fun h31 => ?_) (fun h31 => ?_)
      · exact absurd h31 (by omega)
      · refine lv_iconst (v := nI 4) E.1.1 E.1.2.1 dX4_operation_34 rfl ?_
        refine lv_iload_n E.1.1 E.1.2.1 dX4_operation_35 rfl (lv_at hl 2 rfl) ?_
        refine nv_imul E dX4_operation_36 ?_
        refine lv_iload_n E.1.1 E.1.2.1 dX4_operation_37 rfl (lv_at hl 3 rfl) ?_
        refine nv_iadd E dX4_operation_38 ?_
        refine lv_goto (tgt := 43) E.1.1 E.1.2.1 dX4_operation_39 (by decide) ?_
        refine lv_istore (lv' := [(8, .int (nI ((4 * t) + q))), (7, .int (nI 1)), (0, .ref (ad 0)), (1, .int (nI t)), (2, .int (nI q)), (3, .int (nI k)), (4, .int (nI x)), (5, .int y), (6, .int z)]) E.1.1 E.1.2.1 dX4_operation_43 hl (by decide) rfl (fun ls hl => ?_)
        refine lv_aload_n E.1.1 E.1.2.1 dX4_operation_45 rfl (lv_at hl 2 rfl) ?_
        refine lv_iload E.1.1 E.1.2.1 dX4_operation_46 (lv_at hl 1 rfl) ?_
        refine nv_if_ne (by omega) E dX4_operation_48 (tgt := 55) (by decide) (fun h48 => ?_) (fun h48 => ?_)
        · refine lv_iconst (v := nI 0) E.1.1 E.1.2.1 dX4_operation_55 rfl ?_
          refine lv_iload E.1.1 E.1.2.1 dX4_operation_56 (lv_at hl 1 rfl) ?_
          refine nv_if_eq (by omega) E dX4_operation_58 (tgt := 77) (by decide) (fun h58 => ?_) (fun h58 => ?_)
          · exact absurd h58 (by omega)
          · refine lv_aload_n E.1.1 E.1.2.1 dX4_operation_61 rfl (lv_at hl 2 rfl) ?_
            refine gt_X4_many E fl_X4_17 hP dX4_operation_62 ?_
            refine lv_iload E.1.1 E.1.2.1 dX4_operation_65 (lv_at hl 0 rfl) ?_
            refine ld_MS_my (i := (4 * t) + q) E hP (by omega) dX4_operation_67 ?_
            refine lv_bipush (v := nI 10) E.1.1 E.1.2.1 dX4_operation_68 rfl ?_
            refine nv_icmp_ne (by omega) (by omega) E dX4_operation_70 (tgt := 77) (by decide) (fun h70 => ?_) (fun h70 => ?_)
            · exact absurd hm h70
            · refine lv_iconst (v := nI 1) E.1.1 E.1.2.1 dX4_operation_73 rfl ?_
              refine lv_goto (tgt := 78) E.1.1 E.1.2.1 dX4_operation_74 (by decide) ?_
              refine CM.callVi (n := 2) E (c_X4_fails l D cI cJ cZ ad σ false true) ml_X4_76 im_X4_fails se_X4_fails ini_X4 co_X4_fails hd_X4_fails ⟨Nat.le_of_ble_eq_true rfl, Nat.le_of_ble_eq_true rfl⟩ ⟨Nat.le_refl _, Nat.le_refl _⟩ 0 rfl rfl hP (hD _) hS hA2 rfl hl.1 (Nat.le_of_ble_eq_true rfl) dX4_operation_78 rfl (fun H locs hP hS => ?_)
              refine bv_if_eq (x := false || true) E dX4_operation_81 (tgt := 86) (by decide) (fun h81 => ?_) (fun h81 => ?_)
              · exact absurd h81 (by decide)
              · refine lv_iconst (v := nI 0) E.1.1 E.1.2.1 dX4_operation_84 rfl ?_
                exact CM.reti E hr hlk hA hP hS rfl dX4_operation_85
        · exact absurd h48 (by omega)
set_option maxRecDepth 100000 in
set_option maxHeartbeats 400000 in
theorem c_X4_operation_no (l : Launch) (D : va_G) (cI cJ cZ : ClassId) (ad : Nat → Nat) (σ : MS) (t : Int32) (q : Int32) (k : Int32) (x : Int32) (y : Int32) (z : Int32)  (hQ : QI σ) (hv : ((isW t (nI (gmty σ)) && isW q (nI 4)) && wfF k x y z) = false) : CM l D (t3 cI cJ cZ) yX4_operation cX4_operation 10 (some .int) 2 [.ref (ad 0), .int t, .int q, .int k, .int x, .int y, .int z] (wR ad cI cJ cZ σ) (some (.int (nI 0))) (wR ad cI cJ cZ (smth σ (thF true false))) := by
  refine CM.of (by decide) (Nat.le_of_ble_eq_true rfl) ?_
  intro p e s m below meth c A ls E hr hlk hP hD0 hA hA2 hS hl
  have hD := wR_D hD0
  have hl : lv_has ls 10 [(0, .ref (ad 0)), (1, .int t), (2, .int q), (3, .int k), (4, .int x), (5, .int y), (6, .int z)] := hl
  refine lv_aload_n E.1.1 E.1.2.1 dX4_operation_0 rfl (lv_at hl 0 rfl) ?_
  refine lv_iload_n E.1.1 E.1.2.1 dX4_operation_1 rfl (lv_at hl 1 rfl) ?_
  refine lv_iload_n E.1.1 E.1.2.1 dX4_operation_2 rfl (lv_at hl 2 rfl) ?_
  refine CM.callVi (n := 2) E (c_X4_isBody l D cI cJ cZ ad σ t q hQ) ml_X4_87 im_X4_isBody se_X4_isBody ini_X4 co_X4_isBody hd_X4_isBody ⟨Nat.le_of_ble_eq_true rfl, Nat.le_of_ble_eq_true rfl⟩ ⟨Nat.le_refl _, Nat.le_refl _⟩ 0 rfl rfl hP (hD _) hS hA2 rfl hl.1 (Nat.le_of_ble_eq_true rfl) dX4_operation_3 rfl (fun H locs hP hS => ?_)
  refine bv_if_eq (x := isW t (nI (gmty σ)) && isW q (nI 4)) E dX4_operation_6 (tgt := 26) (by decide) (fun h6 => ?_) (fun h6 => ?_)
  · refine lv_iconst (v := nI 0) E.1.1 E.1.2.1 dX4_operation_26 rfl ?_
    refine lv_istore (lv' := [(7, .int (nI 0)), (0, .ref (ad 0)), (1, .int t), (2, .int q), (3, .int k), (4, .int x), (5, .int y), (6, .int z)]) E.1.1 E.1.2.1 dX4_operation_27 hl (by decide) rfl (fun ls hl => ?_)
    refine lv_iload E.1.1 E.1.2.1 dX4_operation_29 (lv_at hl 0 rfl) ?_
    refine nv_if_eq (by omega) E dX4_operation_31 (tgt := 42) (by decide) (fun h31 => ?_) (fun h31 => ?_)
    · refine lv_iconst (v := nI 0) E.1.1 E.1.2.1 dX4_operation_42 rfl ?_
      refine lv_istore (lv' := [(8, .int (nI 0)), (7, .int (nI 0)), (0, .ref (ad 0)), (1, .int t), (2, .int q), (3, .int k), (4, .int x), (5, .int y), (6, .int z)]) E.1.1 E.1.2.1 dX4_operation_43 hl (by decide) rfl (fun ls hl => ?_)
      refine lv_aload_n E.1.1 E.1.2.1 dX4_operation_45 rfl (lv_at hl 2 rfl) ?_
      refine lv_iload E.1.1 E.1.2.1 dX4_operation_46 (lv_at hl 1 rfl) ?_
      refine nv_if_ne (by omega) E dX4_operation_48 (tgt := 55) (by decide) (fun h48 => ?_) (fun h48 => ?_)
      · exact absurd h48 (by omega)
      · refine lv_iconst (v := nI 1) E.1.1 E.1.2.1 dX4_operation_51 rfl ?_
        refine lv_goto (tgt := 56) E.1.1 E.1.2.1 dX4_operation_52 (by decide) ?_
        refine lv_iload E.1.1 E.1.2.1 dX4_operation_56 (lv_at hl 1 rfl) ?_
        refine nv_if_eq (by omega) E dX4_operation_58 (tgt := 77) (by decide) (fun h58 => ?_) (fun h58 => ?_)
        · refine lv_iconst (v := nI 0) E.1.1 E.1.2.1 dX4_operation_77 rfl ?_
          refine CM.callVi (n := 2) E (c_X4_fails l D cI cJ cZ ad σ true false) ml_X4_76 im_X4_fails se_X4_fails ini_X4 co_X4_fails hd_X4_fails ⟨Nat.le_of_ble_eq_true rfl, Nat.le_of_ble_eq_true rfl⟩ ⟨Nat.le_refl _, Nat.le_refl _⟩ 0 rfl rfl hP (hD _) hS hA2 rfl hl.1 (Nat.le_of_ble_eq_true rfl) dX4_operation_78 rfl (fun H locs hP hS => ?_)
          refine bv_if_eq (x := true || false) E dX4_operation_81 (tgt := 86) (by decide) (fun h81 => ?_) (fun h81 => ?_)
          · exact absurd h81 (by decide)
          · refine lv_iconst (v := nI 0) E.1.1 E.1.2.1 dX4_operation_84 rfl ?_
            exact CM.reti E hr hlk hA hP hS rfl dX4_operation_85
        · exact absurd h58 (by omega)
    · exact absurd h31 (by omega)
  · refine lv_iload_n E.1.1 E.1.2.1 dX4_operation_9 rfl (lv_at hl 3 rfl) ?_
    refine lv_iload E.1.1 E.1.2.1 dX4_operation_10 (lv_at hl 4 rfl) ?_
    refine lv_iload E.1.1 E.1.2.1 dX4_operation_12 (lv_at hl 5 rfl) ?_
    refine lv_iload E.1.1 E.1.2.1 dX4_operation_14 (lv_at hl 6 rfl) ?_
    refine CM.callSi (n := 4) E (c_X4_isGood l D cI cJ cZ ad σ k x y z) ml_X4_91 st_X4_isGood ini_X4 co_X4_isGood hd_X4_isGood ⟨Nat.le_of_ble_eq_true rfl, Nat.le_of_ble_eq_true rfl⟩ ⟨Nat.le_refl _, Nat.le_refl _⟩ hP (hD _) hS hA2 rfl hl.1 (Nat.le_of_ble_eq_true rfl) dX4_operation_16 rfl (fun H locs hP hS => ?_)
    refine bv_if_eq (x := wfF k x y z) E dX4_operation_19 (tgt := 26) (by decide) (fun h19 => ?_) (fun h19 => ?_)
    · refine lv_iconst (v := nI 0) E.1.1 E.1.2.1 dX4_operation_26 rfl ?_
      refine lv_istore (lv' := [(7, .int (nI 0)), (0, .ref (ad 0)), (1, .int t), (2, .int q), (3, .int k), (4, .int x), (5, .int y), (6, .int z)]) E.1.1 E.1.2.1 dX4_operation_27 hl (by decide) rfl (fun ls hl => ?_)
      refine lv_iload E.1.1 E.1.2.1 dX4_operation_29 (lv_at hl 0 rfl) ?_
      refine nv_if_eq (by omega) E dX4_operation_31 (tgt := 42) (by decide) (fun h31 => ?_) (fun h31 => ?_)
      · refine lv_iconst (v := nI 0) E.1.1 E.1.2.1 dX4_operation_42 rfl ?_
        refine lv_istore (lv' := [(8, .int (nI 0)), (7, .int (nI 0)), (0, .ref (ad 0)), (1, .int t), (2, .int q), (3, .int k), (4, .int x), (5, .int y), (6, .int z)]) E.1.1 E.1.2.1 dX4_operation_43 hl (by decide) rfl (fun ls hl => ?_)
        refine lv_aload_n E.1.1 E.1.2.1 dX4_operation_45 rfl (lv_at hl 2 rfl) ?_
        refine lv_iload E.1.1 E.1.2.1 dX4_operation_46 (lv_at hl 1 rfl) ?_
        refine nv_if_ne (by omega) E dX4_operation_48 (tgt := 55) (by decide) (fun h48 => ?_) (fun h48 => ?_)
        · exact absurd h48 (by omega)
        · refine lv_iconst (v := nI 1) E.1.1 E.1.2.1 dX4_operation_51 rfl ?_
          refine lv_goto (tgt := 56) E.1.1 E.1.2.1 dX4_operation_52 (by decide) ?_
          refine lv_iload E.1.1 E.1.2.1 dX4_operation_56 (lv_at hl 1 rfl) ?_
          refine nv_if_eq (by omega) E dX4_operation_58 (tgt := 77) (by decide) (fun h58 => ?_) (fun h58 => ?_)
          · refine lv_iconst (v := nI 0) E.1.1 E.1.2.1 dX4_operation_77 rfl ?_
            refine CM.callVi (n := 2) E (c_X4_fails l D cI cJ cZ ad σ true false) ml_X4_76 im_X4_fails se_X4_fails ini_X4 co_X4_fails hd_X4_fails ⟨Nat.le_of_ble_eq_true rfl, Nat.le_of_ble_eq_true rfl⟩ ⟨Nat.le_refl _, Nat.le_refl _⟩ 0 rfl rfl hP (hD _) hS hA2 rfl hl.1 (Nat.le_of_ble_eq_true rfl) dX4_operation_78 rfl (fun H locs hP hS => ?_)
            refine bv_if_eq (x := true || false) E dX4_operation_81 (tgt := 86) (by decide) (fun h81 => ?_) (fun h81 => ?_)
            · exact absurd h81 (by decide)
            · refine lv_iconst (v := nI 0) E.1.1 E.1.2.1 dX4_operation_84 rfl ?_
              exact CM.reti E hr hlk hA hP hS rfl dX4_operation_85
          · exact absurd h58 (by omega)
      · exact absurd h31 (by omega)
    · exact absurd hv (by rw [h6, h19]; decide)
