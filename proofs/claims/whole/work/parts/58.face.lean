theorem s13_0 : decode wx_s13 0 = .ok (.aload_n 0, 1) := by decide +kernel
theorem s13_1 : decode wx_s13 1 = .ok (.aload_n 1, 1) := by decide +kernel
theorem s13_2 : decode wx_s13 2 = .ok (.invokespecial 13, 3) := by decide +kernel
theorem s13_5 : decode wx_s13 5 = .ok (.return_, 1) := by decide +kernel
set_option maxRecDepth 100000 in
set_option maxHeartbeats 400000 in
theorem c_X3_type_ok (l : Launch) (D : va_G) (cI cJ cZ : ClassId) (ad : Nat → Nat) (σ : CS) (o : Option Nat)  (hI : PI σ) (hn : gcn σ < 6) (ho : ∀ j, o = some j → j < gcn σ) : CM l D (t3 cI cJ cZ) yX3_type cX3_type 2 (some .int) 2 [.ref (ad 0), .int (oI o)] (wC ad cI cJ cZ σ) (some (.int (nI (gcn σ)))) (wC ad cI cJ cZ (tyC o σ)) := by
  refine CM.of (by decide) (Nat.le_of_ble_eq_true rfl) ?_
  intro p e s m below meth c A ls E hr hlk hP hD0 hA hA2 hS hl
  have hD := wC_D hD0
  have hl : lv_has ls 2 [(0, .ref (ad 0)), (1, .int (oI o))] := hl
  refine lv_iload_n E.1.1 E.1.2.1 dX3_type_0 rfl (lv_at hl 1 rfl) ?_
  refine lv_iconst (v := -1) E.1.1 E.1.2.1 dX3_type_1 rfl ?_
  refine ov_m1_eq (o := o) (fun j hj => by have := ho j hj; omega) E dX3_type_2 (tgt := 26) (by decide) (fun h2 => ?_) (fun k2 h2 => ?_)
  · refine lv_aload_n E.1.1 E.1.2.1 dX3_type_26 rfl (lv_at hl 0 rfl) ?_
    refine gt_X3_program E fl_X3_12 hP dX3_type_27 ?_
    refine CM.callVi (n := 0) E (c_X1_isFullOfClasses l D cI cJ cZ ad σ hI) ml_X3_45 im_X1_isFullOfClasses se_X1_isFullOfClasses ini_X1 co_X1_isFullOfClasses hd_X1_isFullOfClasses ⟨Nat.le_of_ble_eq_true rfl, Nat.le_of_ble_eq_true rfl⟩ ⟨Nat.le_refl _, Nat.le_refl _⟩ 1 rfl rfl hP (hD _) hS hA2 rfl hl.1 (Nat.le_of_ble_eq_true rfl) dX3_type_30 rfl (fun H locs hP hS => ?_)
    refine bv_if_eq (x := decide (6 ≤ gcn σ)) E dX3_type_33 (tgt := 46) (by decide) (fun h33 => ?_) (fun h33 => ?_)
    · refine lv_aload_n E.1.1 E.1.2.1 dX3_type_46 rfl (lv_at hl 0 rfl) ?_
      refine gt_X3_program E fl_X3_12 hP dX3_type_47 ?_
      refine lv_iload_n E.1.1 E.1.2.1 dX3_type_50 rfl (lv_at hl 1 rfl) ?_
      refine CM.callVi (n := 1) E (c_X1_addClass l D cI cJ cZ ad σ o hn) ml_X3_54 im_X1_addClass se_X1_addClass ini_X1 co_X1_addClass hd_X1_addClass ⟨Nat.le_of_ble_eq_true rfl, Nat.le_of_ble_eq_true rfl⟩ ⟨Nat.le_refl _, Nat.le_refl _⟩ 1 rfl rfl hP (hD _) hS hA2 rfl hl.1 (Nat.le_of_ble_eq_true rfl) dX3_type_51 rfl (fun H locs hP hS => ?_)
      exact CM.reti E hr hlk hA (by unfold tyC; exact hP) hS rfl dX3_type_54
    · exact absurd (of_decide_eq_true h33) (by omega)
  · refine lv_aload_n E.1.1 E.1.2.1 dX3_type_5 rfl (lv_at hl 0 rfl) ?_
    refine gt_X3_program E fl_X3_12 hP dX3_type_6 ?_
    refine lv_iload_n E.1.1 E.1.2.1 dX3_type_9 rfl (lv_at hl 1 rfl) ?_
    refine CM.callVi (n := 1) E (c_X1_hasClass l D cI cJ cZ ad σ (oI o)) ml_X3_34 im_X1_hasClass se_X1_hasClass ini_X1 co_X1_hasClass hd_X1_hasClass ⟨Nat.le_of_ble_eq_true rfl, Nat.le_of_ble_eq_true rfl⟩ ⟨Nat.le_refl _, Nat.le_refl _⟩ 1 rfl rfl hP (hD _) hS hA2 rfl hl.1 (Nat.le_of_ble_eq_true rfl) dX3_type_10 rfl (fun H locs hP hS => ?_)
    refine bv_if_ne (x := isW (oI o) (nI (gcn σ))) E dX3_type_13 (tgt := 26) (by decide) (fun h13 => ?_) (fun h13 => ?_)
    · refine lv_aload_n E.1.1 E.1.2.1 dX3_type_26 rfl (lv_at hl 0 rfl) ?_
      refine gt_X3_program E fl_X3_12 hP dX3_type_27 ?_
      refine CM.callVi (n := 0) E (c_X1_isFullOfClasses l D cI cJ cZ ad σ hI) ml_X3_45 im_X1_isFullOfClasses se_X1_isFullOfClasses ini_X1 co_X1_isFullOfClasses hd_X1_isFullOfClasses ⟨Nat.le_of_ble_eq_true rfl, Nat.le_of_ble_eq_true rfl⟩ ⟨Nat.le_refl _, Nat.le_refl _⟩ 1 rfl rfl hP (hD _) hS hA2 rfl hl.1 (Nat.le_of_ble_eq_true rfl) dX3_type_30 rfl (fun H locs hP hS => ?_)
      refine bv_if_eq (x := decide (6 ≤ gcn σ)) E dX3_type_33 (tgt := 46) (by decide) (fun h33 => ?_) (fun h33 => ?_)
      · refine lv_aload_n E.1.1 E.1.2.1 dX3_type_46 rfl (lv_at hl 0 rfl) ?_
        refine gt_X3_program E fl_X3_12 hP dX3_type_47 ?_
        refine lv_iload_n E.1.1 E.1.2.1 dX3_type_50 rfl (lv_at hl 1 rfl) ?_
        refine CM.callVi (n := 1) E (c_X1_addClass l D cI cJ cZ ad σ o hn) ml_X3_54 im_X1_addClass se_X1_addClass ini_X1 co_X1_addClass hd_X1_addClass ⟨Nat.le_of_ble_eq_true rfl, Nat.le_of_ble_eq_true rfl⟩ ⟨Nat.le_refl _, Nat.le_refl _⟩ 1 rfl rfl hP (hD _) hS hA2 rfl hl.1 (Nat.le_of_ble_eq_true rfl) dX3_type_51 rfl (fun H locs hP hS => ?_)
        exact CM.reti E hr hlk hA (by unfold tyC; exact hP) hS rfl dX3_type_54
      · exact absurd (of_decide_eq_true h33) (by omega)
    · exact absurd h13 (by rw [h2]; show ¬ isW (nI k2) _ = false; rw [isW_t (ho k2 h2) (by omega)]; decide)
set_option maxRecDepth 100000 in
set_option maxHeartbeats 400000 in
theorem c_X3_type_noA (l : Launch) (hst : l.stackTraces = false) (D : va_G) (cI cJ cZ : ClassId) (ad : Nat → Nat) (σ : CS) (v : Int32)  (h1 : ¬ v = -1) (h2 : isW v (nI (gcn σ)) = false) : CX l D (t3 cI cJ cZ) yX3_type cX3_type 2 (some .int) 6 [.ref (ad 0), .int v] (wC ad cI cJ cZ σ) nIA := by
  refine CX.of (by decide) (Nat.le_of_ble_eq_true rfl) ?_
  intro p e s m below meth c A ls E hr hlk hP hD0 hA hA2 hS hl hml hno hX
  have hD := wC_D hD0
  have hl : lv_has ls 2 [(0, .ref (ad 0)), (1, .int v)] := hl
  have h2x := h2
  refine lv_iload_n E.1.1 E.1.2.1 dX3_type_0 rfl (lv_at hl 1 rfl) ?_
  refine lv_iconst (v := -1) E.1.1 E.1.2.1 dX3_type_1 rfl ?_
  refine lv_icmp_eq (tgt := 26) E.1.1 E.1.2.1 dX3_type_2 (by decide) (fun h2 => ?_) (fun h2 => ?_)
  · exact absurd h2 h1
  · refine lv_aload_n E.1.1 E.1.2.1 dX3_type_5 rfl (lv_at hl 0 rfl) ?_
    refine gt_X3_program E fl_X3_12 hP dX3_type_6 ?_
    refine lv_iload_n E.1.1 E.1.2.1 dX3_type_9 rfl (lv_at hl 1 rfl) ?_
    refine CM.callVi (n := 1) E (c_X1_hasClass l D cI cJ cZ ad σ v) ml_X3_34 im_X1_hasClass se_X1_hasClass ini_X1 co_X1_hasClass hd_X1_hasClass ⟨Nat.le_of_ble_eq_true rfl, Nat.le_of_ble_eq_true rfl⟩ ⟨Nat.zero_le _, Nat.zero_le _⟩ 1 rfl rfl hP (hD _) hS hA2 rfl hl.1 (Nat.le_of_ble_eq_true rfl) dX3_type_10 rfl (fun H locs hP hS => ?_)
    refine bv_if_ne (x := isW v (nI (gcn σ))) E dX3_type_13 (tgt := 26) (by decide) (fun h13 => ?_) (fun h13 => ?_)
    · exact absurd h13 (by rw [h2x]; decide)
    · exact CX.thr E hst hX hA hno hlk hml hl.1 hP hS Bundle.six_0 Bundle.six_1 Bundle.six_2 Bundle.six_5 (by decide) cl_X3_38 iniIA (List.mem_of_getElem? (i := 0) rfl) atIA_t atIA_b atIA_o ⟨by decide, by decide, by decide, by decide⟩ dX3_type_16 dX3_type_19 dX3_type_20 dX3_type_22 dX3_type_25
set_option maxRecDepth 100000 in
set_option maxHeartbeats 400000 in
theorem c_X3_type_noS (l : Launch) (hst : l.stackTraces = false) (D : va_G) (cI cJ cZ : ClassId) (ad : Nat → Nat) (σ : CS) (o : Option Nat)  (hI : PI σ) (hn : 6 ≤ gcn σ) (ho : ∀ j, o = some j → j < gcn σ) : CX l D (t3 cI cJ cZ) yX3_type cX3_type 2 (some .int) 6 [.ref (ad 0), .int (oI o)] (wC ad cI cJ cZ σ) nIS := by
  refine CX.of (by decide) (Nat.le_of_ble_eq_true rfl) ?_
  intro p e s m below meth c A ls E hr hlk hP hD0 hA hA2 hS hl hml hno hX
  have hD := wC_D hD0
  have hl : lv_has ls 2 [(0, .ref (ad 0)), (1, .int (oI o))] := hl
  have hn6 := hI.2.2.2.2
  refine lv_iload_n E.1.1 E.1.2.1 dX3_type_0 rfl (lv_at hl 1 rfl) ?_
  refine lv_iconst (v := -1) E.1.1 E.1.2.1 dX3_type_1 rfl ?_
  refine ov_m1_eq (o := o) (fun j hj => by have := ho j hj; omega) E dX3_type_2 (tgt := 26) (by decide) (fun h2 => ?_) (fun k2 h2 => ?_)
  · refine lv_aload_n E.1.1 E.1.2.1 dX3_type_26 rfl (lv_at hl 0 rfl) ?_
    refine gt_X3_program E fl_X3_12 hP dX3_type_27 ?_
    refine CM.callVi (n := 0) E (c_X1_isFullOfClasses l D cI cJ cZ ad σ hI) ml_X3_45 im_X1_isFullOfClasses se_X1_isFullOfClasses ini_X1 co_X1_isFullOfClasses hd_X1_isFullOfClasses ⟨Nat.le_of_ble_eq_true rfl, Nat.le_of_ble_eq_true rfl⟩ ⟨Nat.zero_le _, Nat.zero_le _⟩ 1 rfl rfl hP (hD _) hS hA2 rfl hl.1 (Nat.le_of_ble_eq_true rfl) dX3_type_30 rfl (fun H locs hP hS => ?_)
    refine bv_if_eq (x := decide (6 ≤ gcn σ)) E dX3_type_33 (tgt := 46) (by decide) (fun h33 => ?_) (fun h33 => ?_)
    · exact absurd hn (of_decide_eq_false h33)
    · exact CX.thr E hst hX hA hno hlk hml hl.1 hP hS Bundle.six_0 Bundle.six_1 Bundle.six_2 Bundle.six_5 (by decide) cl_X3_49 iniIS (List.mem_of_getElem? (i := 1) rfl) atIS_t atIS_b atIS_o ⟨by decide, by decide, by decide, by decide⟩ dX3_type_36 dX3_type_39 dX3_type_40 dX3_type_42 dX3_type_45
  · refine lv_aload_n E.1.1 E.1.2.1 dX3_type_5 rfl (lv_at hl 0 rfl) ?_
    refine gt_X3_program E fl_X3_12 hP dX3_type_6 ?_
    refine lv_iload_n E.1.1 E.1.2.1 dX3_type_9 rfl (lv_at hl 1 rfl) ?_
    refine CM.callVi (n := 1) E (c_X1_hasClass l D cI cJ cZ ad σ (oI o)) ml_X3_34 im_X1_hasClass se_X1_hasClass ini_X1 co_X1_hasClass hd_X1_hasClass ⟨Nat.le_of_ble_eq_true rfl, Nat.le_of_ble_eq_true rfl⟩ ⟨Nat.zero_le _, Nat.zero_le _⟩ 1 rfl rfl hP (hD _) hS hA2 rfl hl.1 (Nat.le_of_ble_eq_true rfl) dX3_type_10 rfl (fun H locs hP hS => ?_)
    refine bv_if_ne (x := isW (oI o) (nI (gcn σ))) E dX3_type_13 (tgt := 26) (by decide) (fun h13 => ?_) (fun h13 => ?_)
    · refine lv_aload_n E.1.1 E.1.2.1 dX3_type_26 rfl (lv_at hl 0 rfl) ?_
      refine gt_X3_program E fl_X3_12 hP dX3_type_27 ?_
      refine CM.callVi (n := 0) E (c_X1_isFullOfClasses l D cI cJ cZ ad σ hI) ml_X3_45 im_X1_isFullOfClasses se_X1_isFullOfClasses ini_X1 co_X1_isFullOfClasses hd_X1_isFullOfClasses ⟨Nat.le_of_ble_eq_true rfl, Nat.le_of_ble_eq_true rfl⟩ ⟨Nat.zero_le _, Nat.zero_le _⟩ 1 rfl rfl hP (hD _) hS hA2 rfl hl.1 (Nat.le_of_ble_eq_true rfl) dX3_type_30 rfl (fun H locs hP hS => ?_)
      refine bv_if_eq (x := decide (6 ≤ gcn σ)) E dX3_type_33 (tgt := 46) (by decide) (fun h33 => ?_) (fun h33 => ?_)
      · exact absurd hn (of_decide_eq_false h33)
      · exact CX.thr E hst hX hA hno hlk hml hl.1 hP hS Bundle.six_0 Bundle.six_1 Bundle.six_2 Bundle.six_5 (by decide) cl_X3_49 iniIS (List.mem_of_getElem? (i := 1) rfl) atIS_t atIS_b atIS_o ⟨by decide, by decide, by decide, by decide⟩ dX3_type_36 dX3_type_39 dX3_type_40 dX3_type_42 dX3_type_45
    · exact absurd h13 (by rw [h2]; show ¬ isW (nI k2) _ = false; rw [isW_t (ho k2 h2) (by omega)]; decide)
set_option maxRecDepth 100000 in
set_option maxHeartbeats 400000 in
theorem c_X3_operation_ok (l : Launch) (D : va_G) (cI cJ cZ : ClassId) (ad : Nat → Nat) (σ : CS) (t : Nat) (q : Nat) (k : Nat) (x : Nat) (y : Int32) (z : Int32)  (ht : t < gcn σ) (hq : q < 4) (hI : PI σ) (hw : wfF (nI k) (nI x) y z = true) (hL : gcL σ (t * 4 + q) < 10) : CM l D (t3 cI cJ cZ) yX3_operation cX3_operation 8 (some .int) 3 [.ref (ad 0), .int (nI t), .int (nI q), .int (nI k), .int (nI x), .int y, .int z] (wC ad cI cJ cZ σ) (some (.int (nI (gcL σ (t * 4 + q) + 1)))) (wC ad cI cJ cZ (apC (t * 4 + q) k x y z (fgC (t * 4 + q) σ))) := by
  refine CM.of (by decide) (Nat.le_of_ble_eq_true rfl) ?_
  intro p e s m below meth c A ls E hr hlk hP hD0 hA hA2 hS hl
  have hD := wC_D hD0
  have hl : lv_has ls 8 [(0, .ref (ad 0)), (1, .int (nI t)), (2, .int (nI q)), (3, .int (nI k)), (4, .int (nI x)), (5, .int y), (6, .int z)] := hl
  have hn6 := hI.2.2.2.2
  have hpt : (isW (nI t) (nI (gcn σ)) && isW (nI q) (nI 4)) = true := by rw [isW_t ht (by omega), isW_t hq (by decide)]; rfl
  refine lv_aload_n E.1.1 E.1.2.1 dX3_operation_0 rfl (lv_at hl 0 rfl) ?_
  refine gt_X3_program E fl_X3_12 hP dX3_operation_1 ?_
  refine lv_iload_n E.1.1 E.1.2.1 dX3_operation_4 rfl (lv_at hl 1 rfl) ?_
  refine lv_iload_n E.1.1 E.1.2.1 dX3_operation_5 rfl (lv_at hl 2 rfl) ?_
  refine CM.callVi (n := 2) E (c_X1_hasPlaceFor l D cI cJ cZ ad σ (nI t) (nI q)) ml_X3_58 im_X1_hasPlaceFor se_X1_hasPlaceFor ini_X1 co_X1_hasPlaceFor hd_X1_hasPlaceFor ⟨Nat.le_of_ble_eq_true rfl, Nat.le_of_ble_eq_true rfl⟩ ⟨Nat.le_refl _, Nat.le_refl _⟩ 1 rfl rfl hP (hD _) hS hA2 rfl hl.1 (Nat.le_of_ble_eq_true rfl) dX3_operation_6 rfl (fun H locs hP hS => ?_)
  refine bv_if_ne (x := isW (nI t) (nI (gcn σ)) && isW (nI q) (nI 4)) E dX3_operation_9 (tgt := 22) (by decide) (fun h9 => ?_) (fun h9 => ?_)
  · refine lv_iload_n E.1.1 E.1.2.1 dX3_operation_22 rfl (lv_at hl 3 rfl) ?_
    refine lv_iload E.1.1 E.1.2.1 dX3_operation_23 (lv_at hl 4 rfl) ?_
    refine lv_iload E.1.1 E.1.2.1 dX3_operation_25 (lv_at hl 5 rfl) ?_
    refine lv_iload E.1.1 E.1.2.1 dX3_operation_27 (lv_at hl 6 rfl) ?_
    refine CM.callSi (n := 4) E (c_X1_isWellFormed l D cI cJ cZ ad σ (nI k) (nI x) y z) ml_X3_64 st_X1_isWellFormed ini_X1 co_X1_isWellFormed hd_X1_isWellFormed ⟨Nat.le_of_ble_eq_true rfl, Nat.le_of_ble_eq_true rfl⟩ ⟨Nat.le_refl _, Nat.le_refl _⟩ hP (hD _) hS hA2 rfl hl.1 (Nat.le_of_ble_eq_true rfl) dX3_operation_29 rfl (fun H locs hP hS => ?_)
    refine bv_if_ne (x := wfF (nI k) (nI x) y z) E dX3_operation_32 (tgt := 45) (by decide) (fun h32 => ?_) (fun h32 => ?_)
    · refine lv_iload_n E.1.1 E.1.2.1 dX3_operation_45 rfl (lv_at hl 1 rfl) ?_
      refine lv_iload_n E.1.1 E.1.2.1 dX3_operation_46 rfl (lv_at hl 2 rfl) ?_
      refine CM.callSi (n := 2) E (c_X1_bodyOf l D cI cJ cZ ad σ t q) ml_X3_70 st_X1_bodyOf ini_X1 co_X1_bodyOf hd_X1_bodyOf ⟨Nat.le_of_ble_eq_true rfl, Nat.le_of_ble_eq_true rfl⟩ ⟨Nat.le_refl _, Nat.le_refl _⟩ hP (hD _) hS hA2 rfl hl.1 (Nat.le_of_ble_eq_true rfl) dX3_operation_47 rfl (fun H locs hP hS => ?_)
      refine lv_istore (lv' := [(7, .int (nI (t * 4 + q))), (0, .ref (ad 0)), (1, .int (nI t)), (2, .int (nI q)), (3, .int (nI k)), (4, .int (nI x)), (5, .int y), (6, .int z)]) E.1.1 E.1.2.1 dX3_operation_50 hl (by decide) rfl (fun ls hl => ?_)
      refine lv_aload_n E.1.1 E.1.2.1 dX3_operation_52 rfl (lv_at hl 1 rfl) ?_
      refine gt_X3_program E fl_X3_12 hP dX3_operation_53 ?_
      refine lv_iload E.1.1 E.1.2.1 dX3_operation_56 (lv_at hl 0 rfl) ?_
      refine CM.callVi (n := 1) E (c_X1_isFull l D cI cJ cZ ad σ (t * 4 + q) (by omega) hI) ml_X3_74 im_X1_isFull se_X1_isFull ini_X1 co_X1_isFull hd_X1_isFull ⟨Nat.le_of_ble_eq_true rfl, Nat.le_of_ble_eq_true rfl⟩ ⟨Nat.le_refl _, Nat.le_refl _⟩ 1 rfl rfl hP (hD _) hS hA2 rfl hl.1 (Nat.le_of_ble_eq_true rfl) dX3_operation_58 rfl (fun H locs hP hS => ?_)
      refine bv_if_eq (x := decide (10 ≤ gcL σ (t * 4 + q))) E dX3_operation_61 (tgt := 74) (by decide) (fun h61 => ?_) (fun h61 => ?_)
      · refine lv_aload_n E.1.1 E.1.2.1 dX3_operation_74 rfl (lv_at hl 1 rfl) ?_
        refine gt_X3_shaping E fl_X3_21 hP dX3_operation_75 ?_
        refine lv_iload E.1.1 E.1.2.1 dX3_operation_78 (lv_at hl 0 rfl) ?_
        refine CM.callVv (n := 1) E (c_X2_forget l D cI cJ cZ ad σ (t * 4 + q) (by omega)) ml_X3_79 im_X2_forget se_X2_forget ini_X2 co_X2_forget hd_X2_forget ⟨Nat.le_of_ble_eq_true rfl, Nat.le_of_ble_eq_true rfl⟩ ⟨Nat.le_refl _, Nat.le_refl _⟩ 2 rfl rfl hP (hD _) hS hA2 rfl hl.1 (Nat.le_of_ble_eq_true rfl) dX3_operation_80 rfl (fun H locs hP hS => ?_)
        have hP : va_P D vwCl (wC ad cI cJ cZ (fgC (t * 4 + q) σ)) H := by unfold fgC; exact hP
        have hP : va_P D vwCl (wC ad cI cJ cZ (fgC (t * 4 + q) σ)) H := hP
        refine lv_aload_n E.1.1 E.1.2.1 dX3_operation_83 rfl (lv_at hl 1 rfl) ?_
        refine gt_X3_program E fl_X3_12 hP dX3_operation_84 ?_
        refine lv_iload E.1.1 E.1.2.1 dX3_operation_87 (lv_at hl 0 rfl) ?_
        refine lv_iload_n E.1.1 E.1.2.1 dX3_operation_89 rfl (lv_at hl 4 rfl) ?_
        refine lv_iload E.1.1 E.1.2.1 dX3_operation_90 (lv_at hl 5 rfl) ?_
        refine lv_iload E.1.1 E.1.2.1 dX3_operation_92 (lv_at hl 6 rfl) ?_
        refine lv_iload E.1.1 E.1.2.1 dX3_operation_94 (lv_at hl 7 rfl) ?_
        refine CM.callVi (n := 5) E (c_X1_append l D cI cJ cZ ad (fgC (t * 4 + q) σ) (t * 4 + q) k x y z (by omega) (by rw [q_fgC_L]; exact hL)) ml_X3_83 im_X1_append se_X1_append ini_X1 co_X1_append hd_X1_append ⟨Nat.le_of_ble_eq_true rfl, Nat.le_of_ble_eq_true rfl⟩ ⟨Nat.le_refl _, Nat.le_refl _⟩ 1 rfl rfl hP (hD _) hS hA2 rfl hl.1 (Nat.le_of_ble_eq_true rfl) dX3_operation_96 rfl (fun H locs hP hS => ?_)
        exact CM.reti E hr hlk hA (by unfold apC; exact hP) hS (by rw [q_fgC_L]) dX3_operation_99
      · exact absurd (of_decide_eq_true h61) (by omega)
    · exact absurd h32 (by rw [hw]; decide)
  · exact absurd h9 (by rw [hpt]; decide)
set_option maxRecDepth 100000 in
set_option maxHeartbeats 400000 in
theorem c_X3_operation_noA (l : Launch) (hst : l.stackTraces = false) (D : va_G) (cI cJ cZ : ClassId) (ad : Nat → Nat) (σ : CS) (t : Int32) (q : Int32) (k : Int32) (x : Int32) (y : Int32) (z : Int32)  (hv : (isW t (nI (gcn σ)) && isW q (nI 4)) = false) : CX l D (t3 cI cJ cZ) yX3_operation cX3_operation 8 (some .int) 6 [.ref (ad 0), .int t, .int q, .int k, .int x, .int y, .int z] (wC ad cI cJ cZ σ) nIA := by
  refine CX.of (by decide) (Nat.le_of_ble_eq_true rfl) ?_
  intro p e s m below meth c A ls E hr hlk hP hD0 hA hA2 hS hl hml hno hX
  have hD := wC_D hD0
  have hl : lv_has ls 8 [(0, .ref (ad 0)), (1, .int t), (2, .int q), (3, .int k), (4, .int x), (5, .int y), (6, .int z)] := hl
  refine lv_aload_n E.1.1 E.1.2.1 dX3_operation_0 rfl (lv_at hl 0 rfl) ?_
  refine gt_X3_program E fl_X3_12 hP dX3_operation_1 ?_
  refine lv_iload_n E.1.1 E.1.2.1 dX3_operation_4 rfl (lv_at hl 1 rfl) ?_
  refine lv_iload_n E.1.1 E.1.2.1 dX3_operation_5 rfl (lv_at hl 2 rfl) ?_
  refine CM.callVi (n := 2) E (c_X1_hasPlaceFor l D cI cJ cZ ad σ t q) ml_X3_58 im_X1_hasPlaceFor se_X1_hasPlaceFor ini_X1 co_X1_hasPlaceFor hd_X1_hasPlaceFor ⟨Nat.le_of_ble_eq_true rfl, Nat.le_of_ble_eq_true rfl⟩ ⟨Nat.zero_le _, Nat.zero_le _⟩ 1 rfl rfl hP (hD _) hS hA2 rfl hl.1 (Nat.le_of_ble_eq_true rfl) dX3_operation_6 rfl (fun H locs hP hS => ?_)
  refine bv_if_ne (x := isW t (nI (gcn σ)) && isW q (nI 4)) E dX3_operation_9 (tgt := 22) (by decide) (fun h9 => ?_) (fun h9 => ?_)
  · exact absurd h9 (by rw [hv]; decide)
  · exact CX.thr E hst hX hA hno hlk hml hl.1 hP hS Bundle.six_0 Bundle.six_1 Bundle.six_2 Bundle.six_5 (by decide) cl_X3_38 iniIA (List.mem_of_getElem? (i := 2) rfl) atIA_t atIA_b atIA_o ⟨by decide, by decide, by decide, by decide⟩ dX3_operation_12 dX3_operation_15 dX3_operation_16 dX3_operation_18 dX3_operation_21
set_option maxRecDepth 100000 in
set_option maxHeartbeats 400000 in
theorem c_X3_operation_noB (l : Launch) (hst : l.stackTraces = false) (D : va_G) (cI cJ cZ : ClassId) (ad : Nat → Nat) (σ : CS) (t : Int32) (q : Int32) (k : Int32) (x : Int32) (y : Int32) (z : Int32)  (hv : (isW t (nI (gcn σ)) && isW q (nI 4)) = true) (hw : wfF k x y z = false) : CX l D (t3 cI cJ cZ) yX3_operation cX3_operation 8 (some .int) 6 [.ref (ad 0), .int t, .int q, .int k, .int x, .int y, .int z] (wC ad cI cJ cZ σ) nIA := by
  refine CX.of (by decide) (Nat.le_of_ble_eq_true rfl) ?_
  intro p e s m below meth c A ls E hr hlk hP hD0 hA hA2 hS hl hml hno hX
  have hD := wC_D hD0
  have hl : lv_has ls 8 [(0, .ref (ad 0)), (1, .int t), (2, .int q), (3, .int k), (4, .int x), (5, .int y), (6, .int z)] := hl
  refine lv_aload_n E.1.1 E.1.2.1 dX3_operation_0 rfl (lv_at hl 0 rfl) ?_
  refine gt_X3_program E fl_X3_12 hP dX3_operation_1 ?_
  refine lv_iload_n E.1.1 E.1.2.1 dX3_operation_4 rfl (lv_at hl 1 rfl) ?_
  refine lv_iload_n E.1.1 E.1.2.1 dX3_operation_5 rfl (lv_at hl 2 rfl) ?_
  refine CM.callVi (n := 2) E (c_X1_hasPlaceFor l D cI cJ cZ ad σ t q) ml_X3_58 im_X1_hasPlaceFor se_X1_hasPlaceFor ini_X1 co_X1_hasPlaceFor hd_X1_hasPlaceFor ⟨Nat.le_of_ble_eq_true rfl, Nat.le_of_ble_eq_true rfl⟩ ⟨Nat.zero_le _, Nat.zero_le _⟩ 1 rfl rfl hP (hD _) hS hA2 rfl hl.1 (Nat.le_of_ble_eq_true rfl) dX3_operation_6 rfl (fun H locs hP hS => ?_)
  refine bv_if_ne (x := isW t (nI (gcn σ)) && isW q (nI 4)) E dX3_operation_9 (tgt := 22) (by decide) (fun h9 => ?_) (fun h9 => ?_)
  · refine lv_iload_n E.1.1 E.1.2.1 dX3_operation_22 rfl (lv_at hl 3 rfl) ?_
    refine lv_iload E.1.1 E.1.2.1 dX3_operation_23 (lv_at hl 4 rfl) ?_
    refine lv_iload E.1.1 E.1.2.1 dX3_operation_25 (lv_at hl 5 rfl) ?_
    refine lv_iload E.1.1 E.1.2.1 dX3_operation_27 (lv_at hl 6 rfl) ?_
    refine CM.callSi (n := 4) E (c_X1_isWellFormed l D cI cJ cZ ad σ k x y z) ml_X3_64 st_X1_isWellFormed ini_X1 co_X1_isWellFormed hd_X1_isWellFormed ⟨Nat.le_of_ble_eq_true rfl, Nat.le_of_ble_eq_true rfl⟩ ⟨Nat.zero_le _, Nat.zero_le _⟩ hP (hD _) hS hA2 rfl hl.1 (Nat.le_of_ble_eq_true rfl) dX3_operation_29 rfl (fun H locs hP hS => ?_)
    refine bv_if_ne (x := wfF k x y z) E dX3_operation_32 (tgt := 45) (by decide) (fun h32 => ?_) (fun h32 => ?_)
    · exact absurd h32 (by rw [hw]; decide)
    · exact CX.thr E hst hX hA hno hlk hml hl.1 hP hS Bundle.six_0 Bundle.six_1 Bundle.six_2 Bundle.six_5 (by decide) cl_X3_38 iniIA (List.mem_of_getElem? (i := 3) rfl) atIA_t atIA_b atIA_o ⟨by decide, by decide, by decide, by decide⟩ dX3_operation_35 dX3_operation_38 dX3_operation_39 dX3_operation_41 dX3_operation_44
  · exact absurd h9 (by rw [hv]; decide)
set_option maxRecDepth 100000 in
set_option maxHeartbeats 400000 in
theorem c_X3_operation_noS (l : Launch) (hst : l.stackTraces = false) (D : va_G) (cI cJ cZ : ClassId) (ad : Nat → Nat) (σ : CS) (t : Nat) (q : Nat) (k : Nat) (x : Nat) (y : Int32) (z : Int32)  (ht : t < gcn σ) (hq : q < 4) (hI : PI σ) (hw : wfF (nI k) (nI x) y z = true) (hL : 10 ≤ gcL σ (t * 4 + q)) : CX l D (t3 cI cJ cZ) yX3_operation cX3_operation 8 (some .int) 6 [.ref (ad 0), .int (nI t), .int (nI q), .int (nI k), .int (nI x), .int y, .int z] (wC ad cI cJ cZ σ) nIS := by
  refine CX.of (by decide) (Nat.le_of_ble_eq_true rfl) ?_
  intro p e s m below meth c A ls E hr hlk hP hD0 hA hA2 hS hl hml hno hX
  have hD := wC_D hD0
  have hl : lv_has ls 8 [(0, .ref (ad 0)), (1, .int (nI t)), (2, .int (nI q)), (3, .int (nI k)), (4, .int (nI x)), (5, .int y), (6, .int z)] := hl
  have hn6 := hI.2.2.2.2
  have hpt : (isW (nI t) (nI (gcn σ)) && isW (nI q) (nI 4)) = true := by rw [isW_t ht (by omega), isW_t hq (by decide)]; rfl
  refine lv_aload_n E.1.1 E.1.2.1 dX3_operation_0 rfl (lv_at hl 0 rfl) ?_
  refine gt_X3_program E fl_X3_12 hP dX3_operation_1 ?_
  refine lv_iload_n E.1.1 E.1.2.1 dX3_operation_4 rfl (lv_at hl 1 rfl) ?_
  refine lv_iload_n E.1.1 E.1.2.1 dX3_operation_5 rfl (lv_at hl 2 rfl) ?_
  refine CM.callVi (n := 2) E (c_X1_hasPlaceFor l D cI cJ cZ ad σ (nI t) (nI q)) ml_X3_58 im_X1_hasPlaceFor se_X1_hasPlaceFor ini_X1 co_X1_hasPlaceFor hd_X1_hasPlaceFor ⟨Nat.le_of_ble_eq_true rfl, Nat.le_of_ble_eq_true rfl⟩ ⟨Nat.zero_le _, Nat.zero_le _⟩ 1 rfl rfl hP (hD _) hS hA2 rfl hl.1 (Nat.le_of_ble_eq_true rfl) dX3_operation_6 rfl (fun H locs hP hS => ?_)
  refine bv_if_ne (x := isW (nI t) (nI (gcn σ)) && isW (nI q) (nI 4)) E dX3_operation_9 (tgt := 22) (by decide) (fun h9 => ?_) (fun h9 => ?_)
  · refine lv_iload_n E.1.1 E.1.2.1 dX3_operation_22 rfl (lv_at hl 3 rfl) ?_
    refine lv_iload E.1.1 E.1.2.1 dX3_operation_23 (lv_at hl 4 rfl) ?_
    refine lv_iload E.1.1 E.1.2.1 dX3_operation_25 (lv_at hl 5 rfl) ?_
    refine lv_iload E.1.1 E.1.2.1 dX3_operation_27 (lv_at hl 6 rfl) ?_
    refine CM.callSi (n := 4) E (c_X1_isWellFormed l D cI cJ cZ ad σ (nI k) (nI x) y z) ml_X3_64 st_X1_isWellFormed ini_X1 co_X1_isWellFormed hd_X1_isWellFormed ⟨Nat.le_of_ble_eq_true rfl, Nat.le_of_ble_eq_true rfl⟩ ⟨Nat.zero_le _, Nat.zero_le _⟩ hP (hD _) hS hA2 rfl hl.1 (Nat.le_of_ble_eq_true rfl) dX3_operation_29 rfl (fun H locs hP hS => ?_)
    refine bv_if_ne (x := wfF (nI k) (nI x) y z) E dX3_operation_32 (tgt := 45) (by decide) (fun h32 => ?_) (fun h32 => ?_)
    · refine lv_iload_n E.1.1 E.1.2.1 dX3_operation_45 rfl (lv_at hl 1 rfl) ?_
      refine lv_iload_n E.1.1 E.1.2.1 dX3_operation_46 rfl (lv_at hl 2 rfl) ?_
      refine CM.callSi (n := 2) E (c_X1_bodyOf l D cI cJ cZ ad σ t q) ml_X3_70 st_X1_bodyOf ini_X1 co_X1_bodyOf hd_X1_bodyOf ⟨Nat.le_of_ble_eq_true rfl, Nat.le_of_ble_eq_true rfl⟩ ⟨Nat.zero_le _, Nat.zero_le _⟩ hP (hD _) hS hA2 rfl hl.1 (Nat.le_of_ble_eq_true rfl) dX3_operation_47 rfl (fun H locs hP hS => ?_)
      refine lv_istore (lv' := [(7, .int (nI (t * 4 + q))), (0, .ref (ad 0)), (1, .int (nI t)), (2, .int (nI q)), (3, .int (nI k)), (4, .int (nI x)), (5, .int y), (6, .int z)]) E.1.1 E.1.2.1 dX3_operation_50 hl (by decide) rfl (fun ls hl => ?_)
      refine lv_aload_n E.1.1 E.1.2.1 dX3_operation_52 rfl (lv_at hl 1 rfl) ?_
      refine gt_X3_program E fl_X3_12 hP dX3_operation_53 ?_
      refine lv_iload E.1.1 E.1.2.1 dX3_operation_56 (lv_at hl 0 rfl) ?_
      refine CM.callVi (n := 1) E (c_X1_isFull l D cI cJ cZ ad σ (t * 4 + q) (by omega) hI) ml_X3_74 im_X1_isFull se_X1_isFull ini_X1 co_X1_isFull hd_X1_isFull ⟨Nat.le_of_ble_eq_true rfl, Nat.le_of_ble_eq_true rfl⟩ ⟨Nat.zero_le _, Nat.zero_le _⟩ 1 rfl rfl hP (hD _) hS hA2 rfl hl.1 (Nat.le_of_ble_eq_true rfl) dX3_operation_58 rfl (fun H locs hP hS => ?_)
      refine bv_if_eq (x := decide (10 ≤ gcL σ (t * 4 + q))) E dX3_operation_61 (tgt := 74) (by decide) (fun h61 => ?_) (fun h61 => ?_)
      · exact absurd hL (of_decide_eq_false h61)
      · exact CX.thr E hst hX hA hno hlk hml hl.1 hP hS Bundle.six_0 Bundle.six_1 Bundle.six_2 Bundle.six_5 (by decide) cl_X3_49 iniIS (List.mem_of_getElem? (i := 4) rfl) atIS_t atIS_b atIS_o ⟨by decide, by decide, by decide, by decide⟩ dX3_operation_64 dX3_operation_67 dX3_operation_68 dX3_operation_70 dX3_operation_73
    · exact absurd h32 (by rw [hw]; decide)
  · exact absurd h9 (by rw [hpt]; decide)
set_option maxRecDepth 100000 in
set_option maxHeartbeats 400000 in
theorem c_X3_strip_ok (l : Launch) (D : va_G) (cI cJ cZ : ClassId) (ad : Nat → Nat) (σ : CS) (t : Nat) (q : Nat)  (ht : t < gcn σ) (hq : q < 4) (hI : PI σ) : CM l D (t3 cI cJ cZ) yX3_strip cX3_strip 4 (some .int) 3 [.ref (ad 0), .int (nI t), .int (nI q)] (wC ad cI cJ cZ σ) (some (.int (nI (gcL σ (t * 4 + q))))) (wC ad cI cJ cZ (emC (t * 4 + q) (fgC (t * 4 + q) σ))) := by
  refine CM.of (by decide) (Nat.le_of_ble_eq_true rfl) ?_
  intro p e s m below meth c A ls E hr hlk hP hD0 hA hA2 hS hl
  have hD := wC_D hD0
  have hl : lv_has ls 4 [(0, .ref (ad 0)), (1, .int (nI t)), (2, .int (nI q))] := hl
  have hn6 := hI.2.2.2.2
  have hpt : (isW (nI t) (nI (gcn σ)) && isW (nI q) (nI 4)) = true := by rw [isW_t ht (by omega), isW_t hq (by decide)]; rfl
  refine lv_aload_n E.1.1 E.1.2.1 dX3_strip_0 rfl (lv_at hl 0 rfl) ?_
  refine gt_X3_program E fl_X3_12 hP dX3_strip_1 ?_
  refine lv_iload_n E.1.1 E.1.2.1 dX3_strip_4 rfl (lv_at hl 1 rfl) ?_
  refine lv_iload_n E.1.1 E.1.2.1 dX3_strip_5 rfl (lv_at hl 2 rfl) ?_
  refine CM.callVi (n := 2) E (c_X1_hasPlaceFor l D cI cJ cZ ad σ (nI t) (nI q)) ml_X3_58 im_X1_hasPlaceFor se_X1_hasPlaceFor ini_X1 co_X1_hasPlaceFor hd_X1_hasPlaceFor ⟨Nat.le_of_ble_eq_true rfl, Nat.le_of_ble_eq_true rfl⟩ ⟨Nat.le_refl _, Nat.le_refl _⟩ 1 rfl rfl hP (hD _) hS hA2 rfl hl.1 (Nat.le_of_ble_eq_true rfl) dX3_strip_6 rfl (fun H locs hP hS => ?_)
  refine bv_if_ne (x := isW (nI t) (nI (gcn σ)) && isW (nI q) (nI 4)) E dX3_strip_9 (tgt := 22) (by decide) (fun h9 => ?_) (fun h9 => ?_)
  · refine lv_iload_n E.1.1 E.1.2.1 dX3_strip_22 rfl (lv_at hl 1 rfl) ?_
    refine lv_iload_n E.1.1 E.1.2.1 dX3_strip_23 rfl (lv_at hl 2 rfl) ?_
    refine CM.callSi (n := 2) E (c_X1_bodyOf l D cI cJ cZ ad σ t q) ml_X3_70 st_X1_bodyOf ini_X1 co_X1_bodyOf hd_X1_bodyOf ⟨Nat.le_of_ble_eq_true rfl, Nat.le_of_ble_eq_true rfl⟩ ⟨Nat.le_refl _, Nat.le_refl _⟩ hP (hD _) hS hA2 rfl hl.1 (Nat.le_of_ble_eq_true rfl) dX3_strip_24 rfl (fun H locs hP hS => ?_)
    refine lv_istore_n (lv' := [(3, .int (nI (t * 4 + q))), (0, .ref (ad 0)), (1, .int (nI t)), (2, .int (nI q))]) E.1.1 E.1.2.1 dX3_strip_27 rfl hl (by decide) rfl (fun ls hl => ?_)
    refine lv_aload_n E.1.1 E.1.2.1 dX3_strip_28 rfl (lv_at hl 1 rfl) ?_
    refine gt_X3_shaping E fl_X3_21 hP dX3_strip_29 ?_
    refine lv_iload_n E.1.1 E.1.2.1 dX3_strip_32 rfl (lv_at hl 0 rfl) ?_
    refine CM.callVv (n := 1) E (c_X2_forget l D cI cJ cZ ad σ (t * 4 + q) (by omega)) ml_X3_79 im_X2_forget se_X2_forget ini_X2 co_X2_forget hd_X2_forget ⟨Nat.le_of_ble_eq_true rfl, Nat.le_of_ble_eq_true rfl⟩ ⟨Nat.le_refl _, Nat.le_refl _⟩ 2 rfl rfl hP (hD _) hS hA2 rfl hl.1 (Nat.le_of_ble_eq_true rfl) dX3_strip_33 rfl (fun H locs hP hS => ?_)
    have hP : va_P D vwCl (wC ad cI cJ cZ (fgC (t * 4 + q) σ)) H := by unfold fgC; exact hP
    have hP : va_P D vwCl (wC ad cI cJ cZ (fgC (t * 4 + q) σ)) H := hP
    refine lv_aload_n E.1.1 E.1.2.1 dX3_strip_36 rfl (lv_at hl 1 rfl) ?_
    refine gt_X3_program E fl_X3_12 hP dX3_strip_37 ?_
    refine lv_iload_n E.1.1 E.1.2.1 dX3_strip_40 rfl (lv_at hl 0 rfl) ?_
    refine CM.callVi (n := 1) E (c_X1_empty l D cI cJ cZ ad (fgC (t * 4 + q) σ) (t * 4 + q) (by omega)) ml_X3_87 im_X1_empty se_X1_empty ini_X1 co_X1_empty hd_X1_empty ⟨Nat.le_of_ble_eq_true rfl, Nat.le_of_ble_eq_true rfl⟩ ⟨Nat.le_refl _, Nat.le_refl _⟩ 1 rfl rfl hP (hD _) hS hA2 rfl hl.1 (Nat.le_of_ble_eq_true rfl) dX3_strip_41 rfl (fun H locs hP hS => ?_)
    exact CM.reti E hr hlk hA (by unfold emC; exact hP) hS (by rw [q_fgC_L]) dX3_strip_44
  · exact absurd h9 (by rw [hpt]; decide)
set_option maxRecDepth 100000 in
set_option maxHeartbeats 400000 in
theorem c_X3_strip_noA (l : Launch) (hst : l.stackTraces = false) (D : va_G) (cI cJ cZ : ClassId) (ad : Nat → Nat) (σ : CS) (t : Int32) (q : Int32)  (hv : (isW t (nI (gcn σ)) && isW q (nI 4)) = false) : CX l D (t3 cI cJ cZ) yX3_strip cX3_strip 4 (some .int) 6 [.ref (ad 0), .int t, .int q] (wC ad cI cJ cZ σ) nIA := by
  refine CX.of (by decide) (Nat.le_of_ble_eq_true rfl) ?_
  intro p e s m below meth c A ls E hr hlk hP hD0 hA hA2 hS hl hml hno hX
  have hD := wC_D hD0
  have hl : lv_has ls 4 [(0, .ref (ad 0)), (1, .int t), (2, .int q)] := hl
  refine lv_aload_n E.1.1 E.1.2.1 dX3_strip_0 rfl (lv_at hl 0 rfl) ?_
  refine gt_X3_program E fl_X3_12 hP dX3_strip_1 ?_
  refine lv_iload_n E.1.1 E.1.2.1 dX3_strip_4 rfl (lv_at hl 1 rfl) ?_
  refine lv_iload_n E.1.1 E.1.2.1 dX3_strip_5 rfl (lv_at hl 2 rfl) ?_
  refine CM.callVi (n := 2) E (c_X1_hasPlaceFor l D cI cJ cZ ad σ t q) ml_X3_58 im_X1_hasPlaceFor se_X1_hasPlaceFor ini_X1 co_X1_hasPlaceFor hd_X1_hasPlaceFor ⟨Nat.le_of_ble_eq_true rfl, Nat.le_of_ble_eq_true rfl⟩ ⟨Nat.zero_le _, Nat.zero_le _⟩ 1 rfl rfl hP (hD _) hS hA2 rfl hl.1 (Nat.le_of_ble_eq_true rfl) dX3_strip_6 rfl (fun H locs hP hS => ?_)
  refine bv_if_ne (x := isW t (nI (gcn σ)) && isW q (nI 4)) E dX3_strip_9 (tgt := 22) (by decide) (fun h9 => ?_) (fun h9 => ?_)
  · exact absurd h9 (by rw [hv]; decide)
  · exact CX.thr E hst hX hA hno hlk hml hl.1 hP hS Bundle.six_0 Bundle.six_1 Bundle.six_2 Bundle.six_5 (by decide) cl_X3_38 iniIA (List.mem_of_getElem? (i := 2) rfl) atIA_t atIA_b atIA_o ⟨by decide, by decide, by decide, by decide⟩ dX3_strip_12 dX3_strip_15 dX3_strip_16 dX3_strip_18 dX3_strip_21
set_option maxRecDepth 100000 in
set_option maxHeartbeats 400000 in
theorem c_X3_site_ok (l : Launch) (D : va_G) (cI cJ cZ : ClassId) (ad : Nat → Nat) (σ : CS) (t : Nat) (q : Nat) (k : Nat)  (ht : t < gcn σ) (hq : q < 4) (hI : PI σ) (hk : k < gcL σ (t * 4 + q)) : CM l D (t3 cI cJ cZ) yX3_site cX3_site 5 (some .int) 3 [.ref (ad 0), .int (nI t), .int (nI q), .int (nI k)] (wC ad cI cJ cZ σ) (some (.int (nI (gcV σ ((t * 4 + q) * 10 + k))))) (wC ad cI cJ cZ σ) := by
  refine CM.of (by decide) (Nat.le_of_ble_eq_true rfl) ?_
  intro p e s m below meth c A ls E hr hlk hP hD0 hA hA2 hS hl
  have hD := wC_D hD0
  have hl : lv_has ls 5 [(0, .ref (ad 0)), (1, .int (nI t)), (2, .int (nI q)), (3, .int (nI k))] := hl
  have hn6 := hI.2.2.2.2
  have hpt : (isW (nI t) (nI (gcn σ)) && isW (nI q) (nI 4)) = true := by rw [isW_t ht (by omega), isW_t hq (by decide)]; rfl
  have hL9 := hI.2.1 (t * 4 + q)
  refine lv_aload_n E.1.1 E.1.2.1 dX3_site_0 rfl (lv_at hl 0 rfl) ?_
  refine gt_X3_program E fl_X3_12 hP dX3_site_1 ?_
  refine lv_iload_n E.1.1 E.1.2.1 dX3_site_4 rfl (lv_at hl 1 rfl) ?_
  refine lv_iload_n E.1.1 E.1.2.1 dX3_site_5 rfl (lv_at hl 2 rfl) ?_
  refine CM.callVi (n := 2) E (c_X1_hasPlaceFor l D cI cJ cZ ad σ (nI t) (nI q)) ml_X3_58 im_X1_hasPlaceFor se_X1_hasPlaceFor ini_X1 co_X1_hasPlaceFor hd_X1_hasPlaceFor ⟨Nat.le_of_ble_eq_true rfl, Nat.le_of_ble_eq_true rfl⟩ ⟨Nat.le_refl _, Nat.le_refl _⟩ 1 rfl rfl hP (hD _) hS hA2 rfl hl.1 (Nat.le_of_ble_eq_true rfl) dX3_site_6 rfl (fun H locs hP hS => ?_)
  refine bv_if_ne (x := isW (nI t) (nI (gcn σ)) && isW (nI q) (nI 4)) E dX3_site_9 (tgt := 22) (by decide) (fun h9 => ?_) (fun h9 => ?_)
  · refine lv_iload_n E.1.1 E.1.2.1 dX3_site_22 rfl (lv_at hl 1 rfl) ?_
    refine lv_iload_n E.1.1 E.1.2.1 dX3_site_23 rfl (lv_at hl 2 rfl) ?_
    refine CM.callSi (n := 2) E (c_X1_bodyOf l D cI cJ cZ ad σ t q) ml_X3_70 st_X1_bodyOf ini_X1 co_X1_bodyOf hd_X1_bodyOf ⟨Nat.le_of_ble_eq_true rfl, Nat.le_of_ble_eq_true rfl⟩ ⟨Nat.le_refl _, Nat.le_refl _⟩ hP (hD _) hS hA2 rfl hl.1 (Nat.le_of_ble_eq_true rfl) dX3_site_24 rfl (fun H locs hP hS => ?_)
    refine lv_istore (lv' := [(4, .int (nI (t * 4 + q))), (0, .ref (ad 0)), (1, .int (nI t)), (2, .int (nI q)), (3, .int (nI k))]) E.1.1 E.1.2.1 dX3_site_27 hl (by decide) rfl (fun ls hl => ?_)
    refine lv_iload_n E.1.1 E.1.2.1 dX3_site_29 rfl (lv_at hl 4 rfl) ?_
    refine nv_if_lt (by omega) E dX3_site_30 (tgt := 46) (by decide) ?_
    refine lv_iload_n E.1.1 E.1.2.1 dX3_site_33 rfl (lv_at hl 4 rfl) ?_
    refine lv_aload_n E.1.1 E.1.2.1 dX3_site_34 rfl (lv_at hl 1 rfl) ?_
    refine gt_X3_program E fl_X3_12 hP dX3_site_35 ?_
    refine lv_iload E.1.1 E.1.2.1 dX3_site_38 (lv_at hl 0 rfl) ?_
    refine CM.callVi (n := 1) E (c_X1_length l D cI cJ cZ ad σ (t * 4 + q) (by omega)) ml_X3_100 im_X1_length se_X1_length ini_X1 co_X1_length hd_X1_length ⟨Nat.le_of_ble_eq_true rfl, Nat.le_of_ble_eq_true rfl⟩ ⟨Nat.le_refl _, Nat.le_refl _⟩ 1 rfl rfl hP (hD _) hS hA2 rfl hl.1 (Nat.le_of_ble_eq_true rfl) dX3_site_40 rfl (fun H locs hP hS => ?_)
    refine nv_icmp_lt (by omega) (by omega) E dX3_site_43 (tgt := 56) (by decide) (fun h43 => ?_) (fun h43 => ?_)
    · refine lv_aload_n E.1.1 E.1.2.1 dX3_site_56 rfl (lv_at hl 1 rfl) ?_
      refine gt_X3_shaping E fl_X3_21 hP dX3_site_57 ?_
      refine lv_iload E.1.1 E.1.2.1 dX3_site_60 (lv_at hl 0 rfl) ?_
      refine lv_iload_n E.1.1 E.1.2.1 dX3_site_62 rfl (lv_at hl 4 rfl) ?_
      refine CM.callSi (n := 2) E (c_X1_placeOf l D cI cJ cZ ad σ (t * 4 + q) k) ml_X3_105 st_X1_placeOf ini_X1 co_X1_placeOf hd_X1_placeOf ⟨Nat.le_of_ble_eq_true rfl, Nat.le_of_ble_eq_true rfl⟩ ⟨Nat.le_refl _, Nat.le_refl _⟩ hP (hD _) hS hA2 rfl hl.1 (Nat.le_of_ble_eq_true rfl) dX3_site_63 rfl (fun H locs hP hS => ?_)
      refine CM.callVi (n := 1) E (c_X2_verdictAt l D cI cJ cZ ad σ ((t * 4 + q) * 10 + k) (by omega)) ml_X3_108 im_X2_verdictAt se_X2_verdictAt ini_X2 co_X2_verdictAt hd_X2_verdictAt ⟨Nat.le_of_ble_eq_true rfl, Nat.le_of_ble_eq_true rfl⟩ ⟨Nat.le_refl _, Nat.le_refl _⟩ 2 rfl rfl hP (hD _) hS hA2 rfl hl.1 (Nat.le_of_ble_eq_true rfl) dX3_site_66 rfl (fun H locs hP hS => ?_)
      exact CM.reti E hr hlk hA hP hS rfl dX3_site_69
    · exact absurd hk (by omega)
  · exact absurd h9 (by rw [hpt]; decide)
set_option maxRecDepth 100000 in
set_option maxHeartbeats 400000 in
theorem c_X3_site_noA (l : Launch) (hst : l.stackTraces = false) (D : va_G) (cI cJ cZ : ClassId) (ad : Nat → Nat) (σ : CS) (t : Int32) (q : Int32) (k : Int32)  (hv : (isW t (nI (gcn σ)) && isW q (nI 4)) = false) : CX l D (t3 cI cJ cZ) yX3_site cX3_site 5 (some .int) 6 [.ref (ad 0), .int t, .int q, .int k] (wC ad cI cJ cZ σ) nNS := by
  refine CX.of (by decide) (Nat.le_of_ble_eq_true rfl) ?_
  intro p e s m below meth c A ls E hr hlk hP hD0 hA hA2 hS hl hml hno hX
  have hD := wC_D hD0
  have hl : lv_has ls 5 [(0, .ref (ad 0)), (1, .int t), (2, .int q), (3, .int k)] := hl
  refine lv_aload_n E.1.1 E.1.2.1 dX3_site_0 rfl (lv_at hl 0 rfl) ?_
  refine gt_X3_program E fl_X3_12 hP dX3_site_1 ?_
  refine lv_iload_n E.1.1 E.1.2.1 dX3_site_4 rfl (lv_at hl 1 rfl) ?_
  refine lv_iload_n E.1.1 E.1.2.1 dX3_site_5 rfl (lv_at hl 2 rfl) ?_
  refine CM.callVi (n := 2) E (c_X1_hasPlaceFor l D cI cJ cZ ad σ t q) ml_X3_58 im_X1_hasPlaceFor se_X1_hasPlaceFor ini_X1 co_X1_hasPlaceFor hd_X1_hasPlaceFor ⟨Nat.le_of_ble_eq_true rfl, Nat.le_of_ble_eq_true rfl⟩ ⟨Nat.zero_le _, Nat.zero_le _⟩ 1 rfl rfl hP (hD _) hS hA2 rfl hl.1 (Nat.le_of_ble_eq_true rfl) dX3_site_6 rfl (fun H locs hP hS => ?_)
  refine bv_if_ne (x := isW t (nI (gcn σ)) && isW q (nI 4)) E dX3_site_9 (tgt := 22) (by decide) (fun h9 => ?_) (fun h9 => ?_)
  · exact absurd h9 (by rw [hv]; decide)
  · exact CX.thr E hst hX hA hno hlk hml hl.1 hP hS s13_0 s13_1 s13_2 s13_5 (by decide) cl_X3_97 iniNS (List.mem_of_getElem? (i := 2) rfl) atNS_t atNS_b atNS_o ⟨by decide, by decide, by decide, by decide⟩ dX3_site_12 dX3_site_15 dX3_site_16 dX3_site_18 dX3_site_21
set_option maxRecDepth 100000 in
set_option maxHeartbeats 400000 in
theorem c_X3_site_noB (l : Launch) (hst : l.stackTraces = false) (D : va_G) (cI cJ cZ : ClassId) (ad : Nat → Nat) (σ : CS) (t : Nat) (q : Nat) (k : Int32)  (ht : t < gcn σ) (hq : q < 4) (hI : PI σ) (hv : isW k (nI (gcL σ (t * 4 + q))) = false) : CX l D (t3 cI cJ cZ) yX3_site cX3_site 5 (some .int) 6 [.ref (ad 0), .int (nI t), .int (nI q), .int k] (wC ad cI cJ cZ σ) nNS := by
  refine CX.of (by decide) (Nat.le_of_ble_eq_true rfl) ?_
  intro p e s m below meth c A ls E hr hlk hP hD0 hA hA2 hS hl hml hno hX
  have hD := wC_D hD0
  have hl : lv_has ls 5 [(0, .ref (ad 0)), (1, .int (nI t)), (2, .int (nI q)), (3, .int k)] := hl
  have hn6 := hI.2.2.2.2
  have hpt : (isW (nI t) (nI (gcn σ)) && isW (nI q) (nI 4)) = true := by rw [isW_t ht (by omega), isW_t hq (by decide)]; rfl
  refine lv_aload_n E.1.1 E.1.2.1 dX3_site_0 rfl (lv_at hl 0 rfl) ?_
  refine gt_X3_program E fl_X3_12 hP dX3_site_1 ?_
  refine lv_iload_n E.1.1 E.1.2.1 dX3_site_4 rfl (lv_at hl 1 rfl) ?_
  refine lv_iload_n E.1.1 E.1.2.1 dX3_site_5 rfl (lv_at hl 2 rfl) ?_
  refine CM.callVi (n := 2) E (c_X1_hasPlaceFor l D cI cJ cZ ad σ (nI t) (nI q)) ml_X3_58 im_X1_hasPlaceFor se_X1_hasPlaceFor ini_X1 co_X1_hasPlaceFor hd_X1_hasPlaceFor ⟨Nat.le_of_ble_eq_true rfl, Nat.le_of_ble_eq_true rfl⟩ ⟨Nat.zero_le _, Nat.zero_le _⟩ 1 rfl rfl hP (hD _) hS hA2 rfl hl.1 (Nat.le_of_ble_eq_true rfl) dX3_site_6 rfl (fun H locs hP hS => ?_)
  refine bv_if_ne (x := isW (nI t) (nI (gcn σ)) && isW (nI q) (nI 4)) E dX3_site_9 (tgt := 22) (by decide) (fun h9 => ?_) (fun h9 => ?_)
  · refine lv_iload_n E.1.1 E.1.2.1 dX3_site_22 rfl (lv_at hl 1 rfl) ?_
    refine lv_iload_n E.1.1 E.1.2.1 dX3_site_23 rfl (lv_at hl 2 rfl) ?_
    refine CM.callSi (n := 2) E (c_X1_bodyOf l D cI cJ cZ ad σ t q) ml_X3_70 st_X1_bodyOf ini_X1 co_X1_bodyOf hd_X1_bodyOf ⟨Nat.le_of_ble_eq_true rfl, Nat.le_of_ble_eq_true rfl⟩ ⟨Nat.zero_le _, Nat.zero_le _⟩ hP (hD _) hS hA2 rfl hl.1 (Nat.le_of_ble_eq_true rfl) dX3_site_24 rfl (fun H locs hP hS => ?_)
    refine lv_istore (lv' := [(4, .int (nI (t * 4 + q))), (0, .ref (ad 0)), (1, .int (nI t)), (2, .int (nI q)), (3, .int k)]) E.1.1 E.1.2.1 dX3_site_27 hl (by decide) rfl (fun ls hl => ?_)
    refine lv_iload_n E.1.1 E.1.2.1 dX3_site_29 rfl (lv_at hl 4 rfl) ?_
    refine lv_if_lt (tgt := 46) E.1.1 E.1.2.1 dX3_site_30 (by decide) (fun h30 => ?_) (fun h30 => ?_)
    · exact CX.thr E hst hX hA hno hlk hml hl.1 hP hS s13_0 s13_1 s13_2 s13_5 (by decide) cl_X3_97 iniNS (List.mem_of_getElem? (i := 5) rfl) atNS_t atNS_b atNS_o ⟨by decide, by decide, by decide, by decide⟩ dX3_site_46 dX3_site_49 dX3_site_50 dX3_site_52 dX3_site_55
    · refine lv_iload_n E.1.1 E.1.2.1 dX3_site_33 rfl (lv_at hl 4 rfl) ?_
      refine lv_aload_n E.1.1 E.1.2.1 dX3_site_34 rfl (lv_at hl 1 rfl) ?_
      refine gt_X3_program E fl_X3_12 hP dX3_site_35 ?_
      refine lv_iload E.1.1 E.1.2.1 dX3_site_38 (lv_at hl 0 rfl) ?_
      refine CM.callVi (n := 1) E (c_X1_length l D cI cJ cZ ad σ (t * 4 + q) (by omega)) ml_X3_100 im_X1_length se_X1_length ini_X1 co_X1_length hd_X1_length ⟨Nat.le_of_ble_eq_true rfl, Nat.le_of_ble_eq_true rfl⟩ ⟨Nat.zero_le _, Nat.zero_le _⟩ 1 rfl rfl hP (hD _) hS hA2 rfl hl.1 (Nat.le_of_ble_eq_true rfl) dX3_site_40 rfl (fun H locs hP hS => ?_)
      refine lv_icmp_lt (tgt := 56) E.1.1 E.1.2.1 dX3_site_43 (by decide) (fun h43 => ?_) (fun h43 => ?_)
      · exact absurd hv (by unfold isW; rw [decide_eq_false h30, decide_eq_false (Int32.not_le.mpr h43)]; decide)
      · exact CX.thr E hst hX hA hno hlk hml hl.1 hP hS s13_0 s13_1 s13_2 s13_5 (by decide) cl_X3_97 iniNS (List.mem_of_getElem? (i := 5) rfl) atNS_t atNS_b atNS_o ⟨by decide, by decide, by decide, by decide⟩ dX3_site_46 dX3_site_49 dX3_site_50 dX3_site_52 dX3_site_55
  · exact absurd h9 (by rw [hpt]; decide)
set_option maxRecDepth 100000 in
set_option maxHeartbeats 400000 in
theorem c_X3_run_ok (l : Launch) (D : va_G) (cI cJ cZ : ClassId) (ad : Nat → Nat) (σ : CS) (b : Bool) (h : Nat)  (hR : RI σ) (hh : h ≤ 60) : CM l D (t3 cI cJ cZ) yX3_run cX3_run 3 (some .int) 7 [.ref (ad 0), .int (bI b), .int (nI h)] (wC ad cI cJ cZ σ) (some (.int (nI (gctr (exF b h σ))))) (wC ad cI cJ cZ (exF b h σ)) := by
  refine CM.of (by decide) (Nat.le_of_ble_eq_true rfl) ?_
  intro p e s m below meth c A ls E hr hlk hP hD0 hA hA2 hS hl
  have hD := wC_D hD0
  have hl : lv_has ls 3 [(0, .ref (ad 0)), (1, .int (bI b)), (2, .int (nI h))] := hl
  refine lv_iload_n E.1.1 E.1.2.1 dX3_run_0 rfl (lv_at hl 2 rfl) ?_
  refine nv_if_lt (by omega) E dX3_run_1 (tgt := 10) (by decide) ?_
  refine lv_iload_n E.1.1 E.1.2.1 dX3_run_4 rfl (lv_at hl 2 rfl) ?_
  refine lv_bipush (v := nI 60) E.1.1 E.1.2.1 dX3_run_5 rfl ?_
  refine nv_icmp_le (by omega) (by omega) E dX3_run_7 (tgt := 20) (by decide) (fun h7 => ?_) (fun h7 => ?_)
  · refine lv_aload_n E.1.1 E.1.2.1 dX3_run_20 rfl (lv_at hl 0 rfl) ?_
    refine gt_X3_machine E fl_X3_30 hP dX3_run_21 ?_
    refine lv_iload_n E.1.1 E.1.2.1 dX3_run_24 rfl (lv_at hl 1 rfl) ?_
    refine lv_iload_n E.1.1 E.1.2.1 dX3_run_25 rfl (lv_at hl 2 rfl) ?_
    refine CM.callVi (n := 2) E (c_X0_execute l D cI cJ cZ ad σ b h hR hh) ml_X3_113 im_X0_execute se_X0_execute ini_X0 co_X0_execute hd_X0_execute ⟨Nat.le_of_ble_eq_true rfl, Nat.le_of_ble_eq_true rfl⟩ ⟨Nat.le_refl _, Nat.le_refl _⟩ 3 rfl rfl hP (hD _) hS hA2 rfl hl.1 (Nat.le_of_ble_eq_true rfl) dX3_run_26 rfl (fun H locs hP hS => ?_)
    exact CM.reti E hr hlk hA hP hS rfl dX3_run_29
  · exact absurd hh (by omega)
set_option maxRecDepth 100000 in
set_option maxHeartbeats 400000 in
theorem c_X3_run_no (l : Launch) (hst : l.stackTraces = false) (D : va_G) (cI cJ cZ : ClassId) (ad : Nat → Nat) (σ : CS) (b : Bool) (v : Int32)  (hv : isW v (nI 61) = false) : CX l D (t3 cI cJ cZ) yX3_run cX3_run 3 (some .int) 6 [.ref (ad 0), .int (bI b), .int v] (wC ad cI cJ cZ σ) nIA := by
  refine CX.of (by decide) (Nat.le_of_ble_eq_true rfl) ?_
  intro p e s m below meth c A ls E hr hlk hP hD0 hA hA2 hS hl hml hno hX
  have hD := wC_D hD0
  have hl : lv_has ls 3 [(0, .ref (ad 0)), (1, .int (bI b)), (2, .int v)] := hl
  refine lv_iload_n E.1.1 E.1.2.1 dX3_run_0 rfl (lv_at hl 2 rfl) ?_
  refine lv_if_lt (tgt := 10) E.1.1 E.1.2.1 dX3_run_1 (by decide) (fun h1 => ?_) (fun h1 => ?_)
  · exact CX.thr E hst hX hA hno hlk hml hl.1 hP hS Bundle.six_0 Bundle.six_1 Bundle.six_2 Bundle.six_5 (by decide) cl_X3_38 iniIA (List.mem_of_getElem? (i := 6) rfl) atIA_t atIA_b atIA_o ⟨by decide, by decide, by decide, by decide⟩ dX3_run_10 dX3_run_13 dX3_run_14 dX3_run_16 dX3_run_19
  · refine lv_iload_n E.1.1 E.1.2.1 dX3_run_4 rfl (lv_at hl 2 rfl) ?_
    refine lv_bipush (v := nI 60) E.1.1 E.1.2.1 dX3_run_5 rfl ?_
    refine lv_icmp_le (tgt := 20) E.1.1 E.1.2.1 dX3_run_7 (by decide) (fun h7 => ?_) (fun h7 => ?_)
    · exact absurd hv (by unfold isW; rw [decide_eq_false h1, decide_eq_false (fun z => Int32.not_lt.mpr h7 ((n_succ_le (by decide) v).mp z))]; decide)
    · exact CX.thr E hst hX hA hno hlk hml hl.1 hP hS Bundle.six_0 Bundle.six_1 Bundle.six_2 Bundle.six_5 (by decide) cl_X3_38 iniIA (List.mem_of_getElem? (i := 6) rfl) atIA_t atIA_b atIA_o ⟨by decide, by decide, by decide, by decide⟩ dX3_run_10 dX3_run_13 dX3_run_14 dX3_run_16 dX3_run_19
set_option maxRecDepth 100000 in
set_option maxHeartbeats 400000 in
theorem c_X3_count_ok (l : Launch) (D : va_G) (cI cJ cZ : ClassId) (ad : Nat → Nat) (σ : CS) (j : Nat)  (hj : j < 6) : CM l D (t3 cI cJ cZ) yX3_count cX3_count 2 (some .int) 1 [.ref (ad 0), .int (nI j)] (wC ad cI cJ cZ σ) (some (.int (nI (gcCt σ j)))) (wC ad cI cJ cZ σ) := by
  refine CM.of (by decide) (Nat.le_of_ble_eq_true rfl) ?_
  intro p e s m below meth c A ls E hr hlk hP hD0 hA hA2 hS hl
  have hD := wC_D hD0
  have hl : lv_has ls 2 [(0, .ref (ad 0)), (1, .int (nI j))] := hl
  refine lv_iload_n E.1.1 E.1.2.1 dX3_count_0 rfl (lv_at hl 1 rfl) ?_
  refine nv_if_lt (by omega) E dX3_count_1 (tgt := 10) (by decide) ?_
  refine lv_iload_n E.1.1 E.1.2.1 dX3_count_4 rfl (lv_at hl 1 rfl) ?_
  refine lv_bipush (v := nI 6) E.1.1 E.1.2.1 dX3_count_5 rfl ?_
  refine nv_icmp_lt (by omega) (by omega) E dX3_count_7 (tgt := 20) (by decide) (fun h7 => ?_) (fun h7 => ?_)
  · refine lv_aload_n E.1.1 E.1.2.1 dX3_count_20 rfl (lv_at hl 0 rfl) ?_
    refine gt_X3_machine E fl_X3_30 hP dX3_count_21 ?_
    refine lv_iload_n E.1.1 E.1.2.1 dX3_count_24 rfl (lv_at hl 1 rfl) ?_
    refine CM.callVi (n := 1) E (c_X0_tally l D cI cJ cZ ad σ j hj) ml_X3_119 im_X0_tally se_X0_tally ini_X0 co_X0_tally hd_X0_tally ⟨Nat.le_of_ble_eq_true rfl, Nat.le_of_ble_eq_true rfl⟩ ⟨Nat.le_refl _, Nat.le_refl _⟩ 3 rfl rfl hP (hD _) hS hA2 rfl hl.1 (Nat.le_of_ble_eq_true rfl) dX3_count_25 rfl (fun H locs hP hS => ?_)
    exact CM.reti E hr hlk hA hP hS rfl dX3_count_28
  · exact absurd hj (by omega)
set_option maxRecDepth 100000 in
set_option maxHeartbeats 400000 in
theorem c_X3_count_no (l : Launch) (hst : l.stackTraces = false) (D : va_G) (cI cJ cZ : ClassId) (ad : Nat → Nat) (σ : CS) (v : Int32)  (hv : isW v (nI 6) = false) : CX l D (t3 cI cJ cZ) yX3_count cX3_count 2 (some .int) 6 [.ref (ad 0), .int v] (wC ad cI cJ cZ σ) nNS := by
  refine CX.of (by decide) (Nat.le_of_ble_eq_true rfl) ?_
  intro p e s m below meth c A ls E hr hlk hP hD0 hA hA2 hS hl hml hno hX
  have hD := wC_D hD0
  have hl : lv_has ls 2 [(0, .ref (ad 0)), (1, .int v)] := hl
  refine lv_iload_n E.1.1 E.1.2.1 dX3_count_0 rfl (lv_at hl 1 rfl) ?_
  refine lv_if_lt (tgt := 10) E.1.1 E.1.2.1 dX3_count_1 (by decide) (fun h1 => ?_) (fun h1 => ?_)
  · exact CX.thr E hst hX hA hno hlk hml hl.1 hP hS s13_0 s13_1 s13_2 s13_5 (by decide) cl_X3_97 iniNS (List.mem_of_getElem? (i := 7) rfl) atNS_t atNS_b atNS_o ⟨by decide, by decide, by decide, by decide⟩ dX3_count_10 dX3_count_13 dX3_count_14 dX3_count_16 dX3_count_19
  · refine lv_iload_n E.1.1 E.1.2.1 dX3_count_4 rfl (lv_at hl 1 rfl) ?_
    refine lv_bipush (v := nI 6) E.1.1 E.1.2.1 dX3_count_5 rfl ?_
    refine lv_icmp_lt (tgt := 20) E.1.1 E.1.2.1 dX3_count_7 (by decide) (fun h7 => ?_) (fun h7 => ?_)
    · exact absurd hv (by unfold isW; rw [decide_eq_false h1, decide_eq_false (Int32.not_le.mpr h7)]; decide)
    · exact CX.thr E hst hX hA hno hlk hml hl.1 hP hS s13_0 s13_1 s13_2 s13_5 (by decide) cl_X3_97 iniNS (List.mem_of_getElem? (i := 7) rfl) atNS_t atNS_b atNS_o ⟨by decide, by decide, by decide, by decide⟩ dX3_count_10 dX3_count_13 dX3_count_14 dX3_count_16 dX3_count_19
set_option maxRecDepth 100000 in
set_option maxHeartbeats 400000 in
theorem c_X3_out_ok (l : Launch) (D : va_G) (cI cJ cZ : ClassId) (ad : Nat → Nat) (σ : CS) (j : Nat)  (hj : j < gcCt σ 0) (hc : gcCt σ 0 ≤ 40) : CM l D (t3 cI cJ cZ) yX3_out cX3_out 2 (some .int) 1 [.ref (ad 0), .int (nI j)] (wC ad cI cJ cZ σ) (some (.int (gcPo σ j))) (wC ad cI cJ cZ σ) := by
  refine CM.of (by decide) (Nat.le_of_ble_eq_true rfl) ?_
  intro p e s m below meth c A ls E hr hlk hP hD0 hA hA2 hS hl
  have hD := wC_D hD0
  have hl : lv_has ls 2 [(0, .ref (ad 0)), (1, .int (nI j))] := hl
  refine lv_iload_n E.1.1 E.1.2.1 dX3_out_0 rfl (lv_at hl 1 rfl) ?_
  refine nv_if_lt (by omega) E dX3_out_1 (tgt := 16) (by decide) ?_
  refine lv_iload_n E.1.1 E.1.2.1 dX3_out_4 rfl (lv_at hl 1 rfl) ?_
  refine lv_aload_n E.1.1 E.1.2.1 dX3_out_5 rfl (lv_at hl 0 rfl) ?_
  refine gt_X3_machine E fl_X3_30 hP dX3_out_6 ?_
  refine lv_iconst (v := nI 0) E.1.1 E.1.2.1 dX3_out_9 rfl ?_
  refine CM.callVi (n := 1) E (c_X0_tally l D cI cJ cZ ad σ 0 (by decide)) ml_X3_119 im_X0_tally se_X0_tally ini_X0 co_X0_tally hd_X0_tally ⟨Nat.le_of_ble_eq_true rfl, Nat.le_of_ble_eq_true rfl⟩ ⟨Nat.le_refl _, Nat.le_refl _⟩ 3 rfl rfl hP (hD _) hS hA2 rfl hl.1 (Nat.le_of_ble_eq_true rfl) dX3_out_10 rfl (fun H locs hP hS => ?_)
  refine nv_icmp_lt (by omega) (by omega) E dX3_out_13 (tgt := 26) (by decide) (fun h13 => ?_) (fun h13 => ?_)
  · refine lv_aload_n E.1.1 E.1.2.1 dX3_out_26 rfl (lv_at hl 0 rfl) ?_
    refine gt_X3_machine E fl_X3_30 hP dX3_out_27 ?_
    refine lv_iload_n E.1.1 E.1.2.1 dX3_out_30 rfl (lv_at hl 1 rfl) ?_
    refine CM.callVi (n := 1) E (c_X0_valuePutOut l D cI cJ cZ ad σ j (by omega)) ml_X3_124 im_X0_valuePutOut se_X0_valuePutOut ini_X0 co_X0_valuePutOut hd_X0_valuePutOut ⟨Nat.le_of_ble_eq_true rfl, Nat.le_of_ble_eq_true rfl⟩ ⟨Nat.le_refl _, Nat.le_refl _⟩ 3 rfl rfl hP (hD _) hS hA2 rfl hl.1 (Nat.le_of_ble_eq_true rfl) dX3_out_31 rfl (fun H locs hP hS => ?_)
    exact CM.reti E hr hlk hA hP hS rfl dX3_out_34
  · exact absurd hj (by omega)
set_option maxRecDepth 100000 in
set_option maxHeartbeats 400000 in
theorem c_X3_out_no (l : Launch) (hst : l.stackTraces = false) (D : va_G) (cI cJ cZ : ClassId) (ad : Nat → Nat) (σ : CS) (v : Int32)  (hv : isW v (nI (gcCt σ 0)) = false) (hc : gcCt σ 0 ≤ 40) : CX l D (t3 cI cJ cZ) yX3_out cX3_out 2 (some .int) 6 [.ref (ad 0), .int v] (wC ad cI cJ cZ σ) nNS := by
  refine CX.of (by decide) (Nat.le_of_ble_eq_true rfl) ?_
  intro p e s m below meth c A ls E hr hlk hP hD0 hA hA2 hS hl hml hno hX
  have hD := wC_D hD0
  have hl : lv_has ls 2 [(0, .ref (ad 0)), (1, .int v)] := hl
  refine lv_iload_n E.1.1 E.1.2.1 dX3_out_0 rfl (lv_at hl 1 rfl) ?_
  refine lv_if_lt (tgt := 16) E.1.1 E.1.2.1 dX3_out_1 (by decide) (fun h1 => ?_) (fun h1 => ?_)
  · exact CX.thr E hst hX hA hno hlk hml hl.1 hP hS s13_0 s13_1 s13_2 s13_5 (by decide) cl_X3_97 iniNS (List.mem_of_getElem? (i := 8) rfl) atNS_t atNS_b atNS_o ⟨by decide, by decide, by decide, by decide⟩ dX3_out_16 dX3_out_19 dX3_out_20 dX3_out_22 dX3_out_25
  · refine lv_iload_n E.1.1 E.1.2.1 dX3_out_4 rfl (lv_at hl 1 rfl) ?_
    refine lv_aload_n E.1.1 E.1.2.1 dX3_out_5 rfl (lv_at hl 0 rfl) ?_
    refine gt_X3_machine E fl_X3_30 hP dX3_out_6 ?_
    refine lv_iconst (v := nI 0) E.1.1 E.1.2.1 dX3_out_9 rfl ?_
    refine CM.callVi (n := 1) E (c_X0_tally l D cI cJ cZ ad σ 0 (by decide)) ml_X3_119 im_X0_tally se_X0_tally ini_X0 co_X0_tally hd_X0_tally ⟨Nat.le_of_ble_eq_true rfl, Nat.le_of_ble_eq_true rfl⟩ ⟨Nat.zero_le _, Nat.zero_le _⟩ 3 rfl rfl hP (hD _) hS hA2 rfl hl.1 (Nat.le_of_ble_eq_true rfl) dX3_out_10 rfl (fun H locs hP hS => ?_)
    refine lv_icmp_lt (tgt := 26) E.1.1 E.1.2.1 dX3_out_13 (by decide) (fun h13 => ?_) (fun h13 => ?_)
    · exact absurd hv (by unfold isW; rw [decide_eq_false h1, decide_eq_false (Int32.not_le.mpr h13)]; decide)
    · exact CX.thr E hst hX hA hno hlk hml hl.1 hP hS s13_0 s13_1 s13_2 s13_5 (by decide) cl_X3_97 iniNS (List.mem_of_getElem? (i := 8) rfl) atNS_t atNS_b atNS_o ⟨by decide, by decide, by decide, by decide⟩ dX3_out_16 dX3_out_19 dX3_out_20 dX3_out_22 dX3_out_25
