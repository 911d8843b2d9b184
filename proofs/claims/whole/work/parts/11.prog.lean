set_option maxRecDepth 100000 in
set_option maxHeartbeats 4000000 in
theorem c_X1_bodyOf (l : Launch) (D : va_G) (cI cJ cZ : ClassId) (ad : Nat → Nat) (σ : CS) (a : Nat) (b : Nat)   : CM l D (t3 cI cJ cZ) yX1_bodyOf cX1_bodyOf 2 (some .int) 0 [.int (nI a), .int (nI b)] (wC ad cI cJ cZ σ) (some (.int (nI (a * 4 + b)))) (wC ad cI cJ cZ σ) := by
  refine CM.of (by decide) (Nat.le_of_ble_eq_true rfl) ?_
  intro p e s m below meth c A ls E hr hlk hP hD0 hA hA2 hS hl
  have hD := wC_D hD0
  have hl : lv_has ls 2 [(0, .int (nI a)), (1, .int (nI b))] := hl
  refine lv_iload_n E.1.1 E.1.2.1 dX1_bodyOf_0 rfl (lv_at hl 0 rfl) ?_
  refine lv_iconst (v := nI 4) E.1.1 E.1.2.1 dX1_bodyOf_1 rfl ?_
  refine nv_imul E dX1_bodyOf_2 ?_
  refine lv_iload_n E.1.1 E.1.2.1 dX1_bodyOf_3 rfl (lv_at hl 1 rfl) ?_
  refine nv_iadd E dX1_bodyOf_4 ?_
  exact CM.reti E hr hlk hA hP hS rfl dX1_bodyOf_5
set_option maxRecDepth 100000 in
set_option maxHeartbeats 4000000 in
theorem c_X1_placeOf (l : Launch) (D : va_G) (cI cJ cZ : ClassId) (ad : Nat → Nat) (σ : CS) (a : Nat) (b : Nat)   : CM l D (t3 cI cJ cZ) yX1_placeOf cX1_placeOf 2 (some .int) 0 [.int (nI a), .int (nI b)] (wC ad cI cJ cZ σ) (some (.int (nI (a * 10 + b)))) (wC ad cI cJ cZ σ) := by
  refine CM.of (by decide) (Nat.le_of_ble_eq_true rfl) ?_
  intro p e s m below meth c A ls E hr hlk hP hD0 hA hA2 hS hl
  have hD := wC_D hD0
  have hl : lv_has ls 2 [(0, .int (nI a)), (1, .int (nI b))] := hl
  refine lv_iload_n E.1.1 E.1.2.1 dX1_placeOf_0 rfl (lv_at hl 0 rfl) ?_
  refine lv_bipush (v := nI 10) E.1.1 E.1.2.1 dX1_placeOf_1 rfl ?_
  refine nv_imul E dX1_placeOf_3 ?_
  refine lv_iload_n E.1.1 E.1.2.1 dX1_placeOf_4 rfl (lv_at hl 1 rfl) ?_
  refine nv_iadd E dX1_placeOf_5 ?_
  exact CM.reti E hr hlk hA hP hS rfl dX1_placeOf_6
set_option maxRecDepth 100000 in
set_option maxHeartbeats 4000000 in
theorem c_X1_isWithin (l : Launch) (D : va_G) (cI cJ cZ : ClassId) (ad : Nat → Nat) (σ : CS) (v : Int32) (b : Int32)   : CM l D (t3 cI cJ cZ) yX1_isWithin cX1_isWithin 2 (some .boolean) 0 [.int v, .int b] (wC ad cI cJ cZ σ) (some (.int (bI (isW v b)))) (wC ad cI cJ cZ σ) := by
  refine CM.of (by decide) (Nat.le_of_ble_eq_true rfl) ?_
  intro p e s m below meth c A ls E hr hlk hP hD0 hA hA2 hS hl
  have hD := wC_D hD0
  have hl : lv_has ls 2 [(0, .int v), (1, .int b)] := hl
  refine lv_iload_n E.1.1 E.1.2.1 dX1_isWithin_0 rfl (lv_at hl 0 rfl) ?_
  refine lv_if_lt (tgt := 13) E.1.1 E.1.2.1 dX1_isWithin_1 (by decide) (fun h1 => ?_) (fun h1 => ?_)
  · refine lv_iconst (v := nI 0) E.1.1 E.1.2.1 dX1_isWithin_13 rfl ?_
    exact CM.retz E hr hlk hA hP hS (er_f (by simp [isW, *])) rfl dX1_isWithin_14
  · refine lv_iload_n E.1.1 E.1.2.1 dX1_isWithin_4 rfl (lv_at hl 0 rfl) ?_
    refine lv_iload_n E.1.1 E.1.2.1 dX1_isWithin_5 rfl (lv_at hl 1 rfl) ?_
    refine lv_icmp_ge (tgt := 13) E.1.1 E.1.2.1 dX1_isWithin_6 (by decide) (fun h6 => ?_) (fun h6 => ?_)
    · refine lv_iconst (v := nI 0) E.1.1 E.1.2.1 dX1_isWithin_13 rfl ?_
      exact CM.retz E hr hlk hA hP hS (er_f (by simp [isW, *])) rfl dX1_isWithin_14
    · refine lv_iconst (v := nI 1) E.1.1 E.1.2.1 dX1_isWithin_9 rfl ?_
      refine lv_goto (tgt := 14) E.1.1 E.1.2.1 dX1_isWithin_10 (by decide) ?_
      exact CM.retz E hr hlk hA hP hS (er_t (by simp [isW, *])) rfl dX1_isWithin_14
set_option maxRecDepth 100000 in
set_option maxHeartbeats 4000000 in
theorem c_X1_hasClass (l : Launch) (D : va_G) (cI cJ cZ : ClassId) (ad : Nat → Nat) (σ : CS) (v : Int32)   : CM l D (t3 cI cJ cZ) yX1_hasClass cX1_hasClass 2 (some .boolean) 1 [.ref (ad 1), .int v] (wC ad cI cJ cZ σ) (some (.int (bI (isW v (nI (gcn σ)))))) (wC ad cI cJ cZ σ) := by
  refine CM.of (by decide) (Nat.le_of_ble_eq_true rfl) ?_
  intro p e s m below meth c A ls E hr hlk hP hD0 hA hA2 hS hl
  have hD := wC_D hD0
  have hl : lv_has ls 2 [(0, .ref (ad 1)), (1, .int v)] := hl
  refine lv_iload_n E.1.1 E.1.2.1 dX1_hasClass_0 rfl (lv_at hl 1 rfl) ?_
  refine lv_aload_n E.1.1 E.1.2.1 dX1_hasClass_1 rfl (lv_at hl 0 rfl) ?_
  refine gt_X1_classes E fl_X1_36 hP dX1_hasClass_2 ?_
  refine CM.callSi (n := 2) E (c_X1_isWithin l D cI cJ cZ ad σ v (nI (gcn σ))) ml_X1_40 st_X1_isWithin ini_X1 co_X1_isWithin hd_X1_isWithin ⟨Nat.le_of_ble_eq_true rfl, Nat.le_of_ble_eq_true rfl⟩ ⟨Nat.le_refl _, Nat.le_refl _⟩ hP (hD _) hS hA2 rfl hl.1 (Nat.le_of_ble_eq_true rfl) dX1_hasClass_5 rfl (fun H locs hP hS => ?_)
  exact CM.retz E hr hlk hA hP hS rfl (bI_n _) dX1_hasClass_8
set_option maxRecDepth 100000 in
set_option maxHeartbeats 4000000 in
theorem c_X1_hasPlaceFor (l : Launch) (D : va_G) (cI cJ cZ : ClassId) (ad : Nat → Nat) (σ : CS) (t : Int32) (q : Int32)   : CM l D (t3 cI cJ cZ) yX1_hasPlaceFor cX1_hasPlaceFor 3 (some .boolean) 2 [.ref (ad 1), .int t, .int q] (wC ad cI cJ cZ σ) (some (.int (bI (isW t (nI (gcn σ)) && isW q (nI 4))))) (wC ad cI cJ cZ σ) := by
  refine CM.of (by decide) (Nat.le_of_ble_eq_true rfl) ?_
  intro p e s m below meth c A ls E hr hlk hP hD0 hA hA2 hS hl
  have hD := wC_D hD0
  have hl : lv_has ls 3 [(0, .ref (ad 1)), (1, .int t), (2, .int q)] := hl
  refine lv_aload_n E.1.1 E.1.2.1 dX1_hasPlaceFor_0 rfl (lv_at hl 0 rfl) ?_
  refine lv_iload_n E.1.1 E.1.2.1 dX1_hasPlaceFor_1 rfl (lv_at hl 1 rfl) ?_
  refine CM.callVi (n := 1) E (c_X1_hasClass l D cI cJ cZ ad σ t) ml_X1_44 im_X1_hasClass se_X1_hasClass ini_X1 co_X1_hasClass hd_X1_hasClass ⟨Nat.le_of_ble_eq_true rfl, Nat.le_of_ble_eq_true rfl⟩ ⟨Nat.le_refl _, Nat.le_refl _⟩ 1 rfl rfl hP (hD _) hS hA2 rfl hl.1 (Nat.le_of_ble_eq_true rfl) dX1_hasPlaceFor_2 rfl (fun H locs hP hS => ?_)
  refine bv_if_eq (x := isW t (nI (gcn σ))) E dX1_hasPlaceFor_5 (tgt := 20) (by decide) (fun h5 => ?_) (fun h5 => ?_)
  · refine lv_iconst (v := nI 0) E.1.1 E.1.2.1 dX1_hasPlaceFor_20 rfl ?_
    exact CM.retz E hr hlk hA hP hS (er_f (by first | (simp [*]; done) | (simp; omega))) rfl dX1_hasPlaceFor_21
  · refine lv_iload_n E.1.1 E.1.2.1 dX1_hasPlaceFor_8 rfl (lv_at hl 2 rfl) ?_
    refine lv_iconst (v := nI 4) E.1.1 E.1.2.1 dX1_hasPlaceFor_9 rfl ?_
    refine CM.callSi (n := 2) E (c_X1_isWithin l D cI cJ cZ ad σ q (nI 4)) ml_X1_40 st_X1_isWithin ini_X1 co_X1_isWithin hd_X1_isWithin ⟨Nat.le_of_ble_eq_true rfl, Nat.le_of_ble_eq_true rfl⟩ ⟨Nat.le_refl _, Nat.le_refl _⟩ hP (hD _) hS hA2 rfl hl.1 (Nat.le_of_ble_eq_true rfl) dX1_hasPlaceFor_10 rfl (fun H locs hP hS => ?_)
    refine bv_if_eq (x := isW q (nI 4)) E dX1_hasPlaceFor_13 (tgt := 20) (by decide) (fun h13 => ?_) (fun h13 => ?_)
    · refine lv_iconst (v := nI 0) E.1.1 E.1.2.1 dX1_hasPlaceFor_20 rfl ?_
      exact CM.retz E hr hlk hA hP hS (er_f (by first | (simp [*]; done) | (simp; omega))) rfl dX1_hasPlaceFor_21
    · refine lv_iconst (v := nI 1) E.1.1 E.1.2.1 dX1_hasPlaceFor_16 rfl ?_
      refine lv_goto (tgt := 21) E.1.1 E.1.2.1 dX1_hasPlaceFor_17 (by decide) ?_
      exact CM.retz E hr hlk hA hP hS (er_t (by first | (simp [*]; done) | (simp; omega))) rfl dX1_hasPlaceFor_21
set_option maxRecDepth 100000 in
set_option maxHeartbeats 4000000 in
theorem c_X1_isFullOfClasses (l : Launch) (D : va_G) (cI cJ cZ : ClassId) (ad : Nat → Nat) (σ : CS)   (hI : PI σ) : CM l D (t3 cI cJ cZ) yX1_isFullOfClasses cX1_isFullOfClasses 1 (some .boolean) 0 [.ref (ad 1)] (wC ad cI cJ cZ σ) (some (.int (bI (decide (6 ≤ gcn σ))))) (wC ad cI cJ cZ σ) := by
  refine CM.of (by decide) (Nat.le_of_ble_eq_true rfl) ?_
  intro p e s m below meth c A ls E hr hlk hP hD0 hA hA2 hS hl
  have hD := wC_D hD0
  have hl : lv_has ls 1 [(0, .ref (ad 1))] := hl
  have hn := hI.2.2.2.2
  refine lv_aload_n E.1.1 E.1.2.1 dX1_isFullOfClasses_0 rfl (lv_at hl 0 rfl) ?_
  refine gt_X1_classes E fl_X1_36 hP dX1_isFullOfClasses_1 ?_
  refine lv_bipush (v := nI 6) E.1.1 E.1.2.1 dX1_isFullOfClasses_4 rfl ?_
  refine nv_icmp_lt (by omega) (by omega) E dX1_isFullOfClasses_6 (tgt := 13) (by decide) (fun h6 => ?_) (fun h6 => ?_)
  · refine lv_iconst (v := nI 0) E.1.1 E.1.2.1 dX1_isFullOfClasses_13 rfl ?_
    exact CM.retz E hr hlk hA hP hS (er_f (by first | (simp [*]; done) | (simp; omega))) rfl dX1_isFullOfClasses_14
  · refine lv_iconst (v := nI 1) E.1.1 E.1.2.1 dX1_isFullOfClasses_9 rfl ?_
    refine lv_goto (tgt := 14) E.1.1 E.1.2.1 dX1_isFullOfClasses_10 (by decide) ?_
    exact CM.retz E hr hlk hA hP hS (er_t (by first | (simp [*]; done) | (simp; omega))) rfl dX1_isFullOfClasses_14
set_option maxRecDepth 100000 in
set_option maxHeartbeats 4000000 in
theorem c_X1_addClass (l : Launch) (D : va_G) (cI cJ cZ : ClassId) (ad : Nat → Nat) (σ : CS) (o : Option Nat)  (hn : gcn σ < 6) : CM l D (t3 cI cJ cZ) yX1_addClass cX1_addClass 3 (some .int) 0 [.ref (ad 1), .int (oI o)] (wC ad cI cJ cZ σ) (some (.int (nI (gcn σ)))) (wC ad cI cJ cZ (scn (scP σ (va_up (gcP σ) (gcn σ) o)) (gcn σ + 1))) := by
  refine CM.of (by decide) (Nat.le_of_ble_eq_true rfl) ?_
  intro p e s m below meth c A ls E hr hlk hP hD0 hA hA2 hS hl
  have hD := wC_D hD0
  have hl : lv_has ls 3 [(0, .ref (ad 1)), (1, .int (oI o))] := hl
  refine lv_aload_n E.1.1 E.1.2.1 dX1_addClass_0 rfl (lv_at hl 0 rfl) ?_
  refine gt_X1_classes E fl_X1_36 hP dX1_addClass_1 ?_
  refine lv_istore_n (lv' := [(2, .int (nI (gcn σ))), (0, .ref (ad 1)), (1, .int (oI o))]) E.1.1 E.1.2.1 dX1_addClass_4 rfl hl (by decide) rfl (fun ls hl => ?_)
  refine lv_aload_n E.1.1 E.1.2.1 dX1_addClass_5 rfl (lv_at hl 1 rfl) ?_
  refine gt_X1_parents E fl_X1_9 hP dX1_addClass_6 ?_
  refine lv_iload_n E.1.1 E.1.2.1 dX1_addClass_9 rfl (lv_at hl 0 rfl) ?_
  refine lv_iload_n E.1.1 E.1.2.1 dX1_addClass_10 rfl (lv_at hl 2 rfl) ?_
  refine as_CS_P (i := gcn σ) (v := o) E hP hD hS (by omega) dX1_addClass_11 (fun H locs hP hS => ?_)
  refine lv_aload_n E.1.1 E.1.2.1 dX1_addClass_12 rfl (lv_at hl 1 rfl) ?_
  refine lv_dup E.1.1 E.1.2.1 dX1_addClass_13 rfl ?_
  refine gt_X1_classes E fl_X1_36 hP dX1_addClass_14 ?_
  refine lv_iconst (v := nI 1) E.1.1 E.1.2.1 dX1_addClass_17 rfl ?_
  refine nv_iadd E dX1_addClass_18 ?_
  refine pt_X1_classes (v := (gcn (scP σ (va_up (gcP σ) (gcn σ) o))) + 1) E fl_X1_36 hP hD hS dX1_addClass_19 (fun H locs hP hS => ?_)
  refine lv_iload_n E.1.1 E.1.2.1 dX1_addClass_22 rfl (lv_at hl 0 rfl) ?_
  exact CM.reti E hr hlk hA hP hS rfl dX1_addClass_23
set_option maxRecDepth 100000 in
set_option maxHeartbeats 4000000 in
theorem c_X1_isFull (l : Launch) (D : va_G) (cI cJ cZ : ClassId) (ad : Nat → Nat) (σ : CS) (b : Nat)  (hb : b < 24) (hI : PI σ) : CM l D (t3 cI cJ cZ) yX1_isFull cX1_isFull 2 (some .boolean) 0 [.ref (ad 1), .int (nI b)] (wC ad cI cJ cZ σ) (some (.int (bI (decide (10 ≤ gcL σ b))))) (wC ad cI cJ cZ σ) := by
  refine CM.of (by decide) (Nat.le_of_ble_eq_true rfl) ?_
  intro p e s m below meth c A ls E hr hlk hP hD0 hA hA2 hS hl
  have hD := wC_D hD0
  have hl : lv_has ls 2 [(0, .ref (ad 1)), (1, .int (nI b))] := hl
  have hL := hI.2.1 b
  refine lv_aload_n E.1.1 E.1.2.1 dX1_isFull_0 rfl (lv_at hl 0 rfl) ?_
  refine gt_X1_lengths E fl_X1_15 hP dX1_isFull_1 ?_
  refine lv_iload_n E.1.1 E.1.2.1 dX1_isFull_4 rfl (lv_at hl 1 rfl) ?_
  refine ld_CS_L (i := b) E hP (by omega) dX1_isFull_5 ?_
  refine lv_bipush (v := nI 10) E.1.1 E.1.2.1 dX1_isFull_6 rfl ?_
  refine nv_icmp_lt (by omega) (by omega) E dX1_isFull_8 (tgt := 15) (by decide) (fun h8 => ?_) (fun h8 => ?_)
  · refine lv_iconst (v := nI 0) E.1.1 E.1.2.1 dX1_isFull_15 rfl ?_
    exact CM.retz E hr hlk hA hP hS (er_f (by first | (simp [*]; done) | (simp; omega))) rfl dX1_isFull_16
  · refine lv_iconst (v := nI 1) E.1.1 E.1.2.1 dX1_isFull_11 rfl ?_
    refine lv_goto (tgt := 16) E.1.1 E.1.2.1 dX1_isFull_12 (by decide) ?_
    exact CM.retz E hr hlk hA hP hS (er_t (by first | (simp [*]; done) | (simp; omega))) rfl dX1_isFull_16
set_option maxRecDepth 100000 in
set_option maxHeartbeats 4000000 in
theorem c_X1_append (l : Launch) (D : va_G) (cI cJ cZ : ClassId) (ad : Nat → Nat) (σ : CS) (b : Nat) (k : Nat) (x : Nat) (y : Int32) (z : Int32)  (hb : b < 24) (hL : gcL σ b < 10) : CM l D (t3 cI cJ cZ) yX1_append cX1_append 7 (some .int) 1 [.ref (ad 1), .int (nI b), .int (nI k), .int (nI x), .int y, .int z] (wC ad cI cJ cZ σ) (some (.int (nI (gcL σ b + 1)))) (wC ad cI cJ cZ (scL (scZ (scY (scX (scK σ (va_up (gcK σ) (b * 10 + gcL σ b) k)) (va_up (gcX σ) (b * 10 + gcL σ b) x)) (va_up (gcY σ) (b * 10 + gcL σ b) y)) (va_up (gcZ σ) (b * 10 + gcL σ b) z)) (va_up (gcL σ) b (gcL σ b + 1)))) := by
  refine CM.of (by decide) (Nat.le_of_ble_eq_true rfl) ?_
  intro p e s m below meth c A ls E hr hlk hP hD0 hA hA2 hS hl
  have hD := wC_D hD0
  have hl : lv_has ls 7 [(0, .ref (ad 1)), (1, .int (nI b)), (2, .int (nI k)), (3, .int (nI x)), (4, .int y), (5, .int z)] := hl
  refine lv_iload_n E.1.1 E.1.2.1 dX1_append_0 rfl (lv_at hl 1 rfl) ?_
  refine lv_aload_n E.1.1 E.1.2.1 dX1_append_1 rfl (lv_at hl 0 rfl) ?_
  refine gt_X1_lengths E fl_X1_15 hP dX1_append_2 ?_
  refine lv_iload_n E.1.1 E.1.2.1 dX1_append_5 rfl (lv_at hl 1 rfl) ?_
  refine ld_CS_L (i := b) E hP (by omega) dX1_append_6 ?_
  refine CM.callSi (n := 2) E (c_X1_placeOf l D cI cJ cZ ad σ b (gcL σ b)) ml_X1_48 st_X1_placeOf ini_X1 co_X1_placeOf hd_X1_placeOf ⟨Nat.le_of_ble_eq_true rfl, Nat.le_of_ble_eq_true rfl⟩ ⟨Nat.le_refl _, Nat.le_refl _⟩ hP (hD _) hS hA2 rfl hl.1 (Nat.le_of_ble_eq_true rfl) dX1_append_7 rfl (fun H locs hP hS => ?_)
  refine lv_istore (lv' := [(6, .int (nI (b * 10 + (gcL σ b)))), (0, .ref (ad 1)), (1, .int (nI b)), (2, .int (nI k)), (3, .int (nI x)), (4, .int y), (5, .int z)]) E.1.1 E.1.2.1 dX1_append_10 hl (by decide) rfl (fun ls hl => ?_)
  refine lv_aload_n E.1.1 E.1.2.1 dX1_append_12 rfl (lv_at hl 1 rfl) ?_
  refine gt_X1_kinds E fl_X1_18 hP dX1_append_13 ?_
  refine lv_iload E.1.1 E.1.2.1 dX1_append_16 (lv_at hl 0 rfl) ?_
  refine lv_iload_n E.1.1 E.1.2.1 dX1_append_18 rfl (lv_at hl 3 rfl) ?_
  refine as_CS_K (i := b * 10 + (gcL σ b)) (v := k) E hP hD hS (by omega) dX1_append_19 (fun H locs hP hS => ?_)
  refine lv_aload_n E.1.1 E.1.2.1 dX1_append_20 rfl (lv_at hl 1 rfl) ?_
  refine gt_X1_xs E fl_X1_21 hP dX1_append_21 ?_
  refine lv_iload E.1.1 E.1.2.1 dX1_append_24 (lv_at hl 0 rfl) ?_
  refine lv_iload_n E.1.1 E.1.2.1 dX1_append_26 rfl (lv_at hl 4 rfl) ?_
  refine as_CS_X (i := b * 10 + (gcL σ b)) (v := x) E hP hD hS (by omega) dX1_append_27 (fun H locs hP hS => ?_)
  refine lv_aload_n E.1.1 E.1.2.1 dX1_append_28 rfl (lv_at hl 1 rfl) ?_
  refine gt_X1_ys E fl_X1_24 hP dX1_append_29 ?_
  refine lv_iload E.1.1 E.1.2.1 dX1_append_32 (lv_at hl 0 rfl) ?_
  refine lv_iload E.1.1 E.1.2.1 dX1_append_34 (lv_at hl 5 rfl) ?_
  refine as_CS_Y (i := b * 10 + (gcL σ b)) (v := y) E hP hD hS (by omega) dX1_append_36 (fun H locs hP hS => ?_)
  refine lv_aload_n E.1.1 E.1.2.1 dX1_append_37 rfl (lv_at hl 1 rfl) ?_
  refine gt_X1_zs E fl_X1_27 hP dX1_append_38 ?_
  refine lv_iload E.1.1 E.1.2.1 dX1_append_41 (lv_at hl 0 rfl) ?_
  refine lv_iload E.1.1 E.1.2.1 dX1_append_43 (lv_at hl 6 rfl) ?_
  refine as_CS_Z (i := b * 10 + (gcL σ b)) (v := z) E hP hD hS (by omega) dX1_append_45 (fun H locs hP hS => ?_)
  refine lv_aload_n E.1.1 E.1.2.1 dX1_append_46 rfl (lv_at hl 1 rfl) ?_
  refine gt_X1_lengths E fl_X1_15 hP dX1_append_47 ?_
  refine lv_iload_n E.1.1 E.1.2.1 dX1_append_50 rfl (lv_at hl 2 rfl) ?_
  refine lv_dup2_11 E.1.1 E.1.2.1 dX1_append_51 rfl rfl ?_
  refine ld_CS_L (i := b) E hP (by omega) dX1_append_52 ?_
  refine lv_iconst (v := nI 1) E.1.1 E.1.2.1 dX1_append_53 rfl ?_
  refine nv_iadd E dX1_append_54 ?_
  refine as_CS_L (i := b) (v := (gcL (scZ (scY (scX (scK σ (va_up (gcK σ) (b * 10 + (gcL σ b)) k)) (va_up (gcX (scK σ (va_up (gcK σ) (b * 10 + (gcL σ b)) k))) (b * 10 + (gcL σ b)) x)) (va_up (gcY (scX (scK σ (va_up (gcK σ) (b * 10 + (gcL σ b)) k)) (va_up (gcX (scK σ (va_up (gcK σ) (b * 10 + (gcL σ b)) k))) (b * 10 + (gcL σ b)) x))) (b * 10 + (gcL σ b)) y)) (va_up (gcZ (scY (scX (scK σ (va_up (gcK σ) (b * 10 + (gcL σ b)) k)) (va_up (gcX (scK σ (va_up (gcK σ) (b * 10 + (gcL σ b)) k))) (b * 10 + (gcL σ b)) x)) (va_up (gcY (scX (scK σ (va_up (gcK σ) (b * 10 + (gcL σ b)) k)) (va_up (gcX (scK σ (va_up (gcK σ) (b * 10 + (gcL σ b)) k))) (b * 10 + (gcL σ b)) x))) (b * 10 + (gcL σ b)) y))) (b * 10 + (gcL σ b)) z)) b) + 1) E hP hD hS (by omega) dX1_append_55 (fun H locs hP hS => ?_)
  refine lv_aload_n E.1.1 E.1.2.1 dX1_append_56 rfl (lv_at hl 1 rfl) ?_
  refine gt_X1_lengths E fl_X1_15 hP dX1_append_57 ?_
  refine lv_iload_n E.1.1 E.1.2.1 dX1_append_60 rfl (lv_at hl 2 rfl) ?_
  refine ld_CS_L (i := b) E hP (by omega) dX1_append_61 ?_
  exact CM.reti E hr hlk hA hP hS (by simp [gcL, scL, scK, scX, scY, scZ, va_up]) dX1_append_62
set_option maxRecDepth 100000 in
set_option maxHeartbeats 4000000 in
theorem c_X1_empty (l : Launch) (D : va_G) (cI cJ cZ : ClassId) (ad : Nat → Nat) (σ : CS) (b : Nat)  (hb : b < 24) : CM l D (t3 cI cJ cZ) yX1_empty cX1_empty 3 (some .int) 0 [.ref (ad 1), .int (nI b)] (wC ad cI cJ cZ σ) (some (.int (nI (gcL σ b)))) (wC ad cI cJ cZ (scL σ (va_up (gcL σ) b 0))) := by
  refine CM.of (by decide) (Nat.le_of_ble_eq_true rfl) ?_
  intro p e s m below meth c A ls E hr hlk hP hD0 hA hA2 hS hl
  have hD := wC_D hD0
  have hl : lv_has ls 3 [(0, .ref (ad 1)), (1, .int (nI b))] := hl
  refine lv_aload_n E.1.1 E.1.2.1 dX1_empty_0 rfl (lv_at hl 0 rfl) ?_
  refine gt_X1_lengths E fl_X1_15 hP dX1_empty_1 ?_
  refine lv_iload_n E.1.1 E.1.2.1 dX1_empty_4 rfl (lv_at hl 1 rfl) ?_
  refine ld_CS_L (i := b) E hP (by omega) dX1_empty_5 ?_
  refine lv_istore_n (lv' := [(2, .int (nI (gcL σ b))), (0, .ref (ad 1)), (1, .int (nI b))]) E.1.1 E.1.2.1 dX1_empty_6 rfl hl (by decide) rfl (fun ls hl => ?_)
  refine lv_aload_n E.1.1 E.1.2.1 dX1_empty_7 rfl (lv_at hl 1 rfl) ?_
  refine gt_X1_lengths E fl_X1_15 hP dX1_empty_8 ?_
  refine lv_iload_n E.1.1 E.1.2.1 dX1_empty_11 rfl (lv_at hl 2 rfl) ?_
  refine lv_iconst (v := nI 0) E.1.1 E.1.2.1 dX1_empty_12 rfl ?_
  refine as_CS_L (i := b) (v := 0) E hP hD hS (by omega) dX1_empty_13 (fun H locs hP hS => ?_)
  refine lv_iload_n E.1.1 E.1.2.1 dX1_empty_14 rfl (lv_at hl 0 rfl) ?_
  exact CM.reti E hr hlk hA hP hS rfl dX1_empty_15
set_option maxRecDepth 100000 in
set_option maxHeartbeats 4000000 in
theorem c_X1_length (l : Launch) (D : va_G) (cI cJ cZ : ClassId) (ad : Nat → Nat) (σ : CS) (b : Nat)  (hb : b < 24) : CM l D (t3 cI cJ cZ) yX1_length cX1_length 2 (some .int) 0 [.ref (ad 1), .int (nI b)] (wC ad cI cJ cZ σ) (some (.int (nI (gcL σ b)))) (wC ad cI cJ cZ σ) := by
  refine CM.of (by decide) (Nat.le_of_ble_eq_true rfl) ?_
  intro p e s m below meth c A ls E hr hlk hP hD0 hA hA2 hS hl
  have hD := wC_D hD0
  have hl : lv_has ls 2 [(0, .ref (ad 1)), (1, .int (nI b))] := hl
  refine lv_aload_n E.1.1 E.1.2.1 dX1_length_0 rfl (lv_at hl 0 rfl) ?_
  refine gt_X1_lengths E fl_X1_15 hP dX1_length_1 ?_
  refine lv_iload_n E.1.1 E.1.2.1 dX1_length_4 rfl (lv_at hl 1 rfl) ?_
  refine ld_CS_L (i := b) E hP (by omega) dX1_length_5 ?_
  exact CM.reti E hr hlk hA hP hS rfl dX1_length_6
set_option maxRecDepth 100000 in
set_option maxHeartbeats 4000000 in
theorem c_X1_kind (l : Launch) (D : va_G) (cI cJ cZ : ClassId) (ad : Nat → Nat) (σ : CS) (b : Nat)  (hb : b < 240) : CM l D (t3 cI cJ cZ) yX1_kind cX1_kind 2 (some .int) 0 [.ref (ad 1), .int (nI b)] (wC ad cI cJ cZ σ) (some (.int (nI (gcK σ b)))) (wC ad cI cJ cZ σ) := by
  refine CM.of (by decide) (Nat.le_of_ble_eq_true rfl) ?_
  intro p e s m below meth c A ls E hr hlk hP hD0 hA hA2 hS hl
  have hD := wC_D hD0
  have hl : lv_has ls 2 [(0, .ref (ad 1)), (1, .int (nI b))] := hl
  refine lv_aload_n E.1.1 E.1.2.1 dX1_kind_0 rfl (lv_at hl 0 rfl) ?_
  refine gt_X1_kinds E fl_X1_18 hP dX1_kind_1 ?_
  refine lv_iload_n E.1.1 E.1.2.1 dX1_kind_4 rfl (lv_at hl 1 rfl) ?_
  refine ld_CS_K (i := b) E hP (by omega) dX1_kind_5 ?_
  exact CM.reti E hr hlk hA hP hS rfl dX1_kind_6
set_option maxRecDepth 100000 in
set_option maxHeartbeats 4000000 in
theorem c_X1_x (l : Launch) (D : va_G) (cI cJ cZ : ClassId) (ad : Nat → Nat) (σ : CS) (b : Nat)  (hb : b < 240) : CM l D (t3 cI cJ cZ) yX1_x cX1_x 2 (some .int) 0 [.ref (ad 1), .int (nI b)] (wC ad cI cJ cZ σ) (some (.int (nI (gcX σ b)))) (wC ad cI cJ cZ σ) := by
  refine CM.of (by decide) (Nat.le_of_ble_eq_true rfl) ?_
  intro p e s m below meth c A ls E hr hlk hP hD0 hA hA2 hS hl
  have hD := wC_D hD0
  have hl : lv_has ls 2 [(0, .ref (ad 1)), (1, .int (nI b))] := hl
  refine lv_aload_n E.1.1 E.1.2.1 dX1_x_0 rfl (lv_at hl 0 rfl) ?_
  refine gt_X1_xs E fl_X1_21 hP dX1_x_1 ?_
  refine lv_iload_n E.1.1 E.1.2.1 dX1_x_4 rfl (lv_at hl 1 rfl) ?_
  refine ld_CS_X (i := b) E hP (by omega) dX1_x_5 ?_
  exact CM.reti E hr hlk hA hP hS rfl dX1_x_6
set_option maxRecDepth 100000 in
set_option maxHeartbeats 4000000 in
theorem c_X1_y (l : Launch) (D : va_G) (cI cJ cZ : ClassId) (ad : Nat → Nat) (σ : CS) (b : Nat)  (hb : b < 240) : CM l D (t3 cI cJ cZ) yX1_y cX1_y 2 (some .int) 0 [.ref (ad 1), .int (nI b)] (wC ad cI cJ cZ σ) (some (.int (gcY σ b))) (wC ad cI cJ cZ σ) := by
  refine CM.of (by decide) (Nat.le_of_ble_eq_true rfl) ?_
  intro p e s m below meth c A ls E hr hlk hP hD0 hA hA2 hS hl
  have hD := wC_D hD0
  have hl : lv_has ls 2 [(0, .ref (ad 1)), (1, .int (nI b))] := hl
  refine lv_aload_n E.1.1 E.1.2.1 dX1_y_0 rfl (lv_at hl 0 rfl) ?_
  refine gt_X1_ys E fl_X1_24 hP dX1_y_1 ?_
  refine lv_iload_n E.1.1 E.1.2.1 dX1_y_4 rfl (lv_at hl 1 rfl) ?_
  refine ld_CS_Y (i := b) E hP (by omega) dX1_y_5 ?_
  exact CM.reti E hr hlk hA hP hS rfl dX1_y_6
set_option maxRecDepth 100000 in
set_option maxHeartbeats 4000000 in
theorem c_X1_z (l : Launch) (D : va_G) (cI cJ cZ : ClassId) (ad : Nat → Nat) (σ : CS) (b : Nat)  (hb : b < 240) : CM l D (t3 cI cJ cZ) yX1_z cX1_z 2 (some .int) 0 [.ref (ad 1), .int (nI b)] (wC ad cI cJ cZ σ) (some (.int (gcZ σ b))) (wC ad cI cJ cZ σ) := by
  refine CM.of (by decide) (Nat.le_of_ble_eq_true rfl) ?_
  intro p e s m below meth c A ls E hr hlk hP hD0 hA hA2 hS hl
  have hD := wC_D hD0
  have hl : lv_has ls 2 [(0, .ref (ad 1)), (1, .int (nI b))] := hl
  refine lv_aload_n E.1.1 E.1.2.1 dX1_z_0 rfl (lv_at hl 0 rfl) ?_
  refine gt_X1_zs E fl_X1_27 hP dX1_z_1 ?_
  refine lv_iload_n E.1.1 E.1.2.1 dX1_z_4 rfl (lv_at hl 1 rfl) ?_
  refine ld_CS_Z (i := b) E hP (by omega) dX1_z_5 ?_
  exact CM.reti E hr hlk hA hP hS rfl dX1_z_6
set_option maxRecDepth 100000 in
set_option maxHeartbeats 4000000 in
theorem c_X1_target (l : Launch) (D : va_G) (cI cJ cZ : ClassId) (ad : Nat → Nat) (σ : CS) (t : Nat) (q : Nat)  (ht : t < 6) (hq : q < 4) (hI : PI σ) : CM l D (t3 cI cJ cZ) yX1_target cX1_target 6 (some .int) 1 [.ref (ad 1), .int (nI t), .int (nI q)] (wC ad cI cJ cZ σ) (some (.int (oI (tgtF (gcP σ) (gcL σ) q 6 (some t))))) (wC ad cI cJ cZ σ) := by
  refine CM.of (by decide) (Nat.le_of_ble_eq_true rfl) ?_
  intro p e s m below meth c A ls E hr hlk hP hD0 hA hA2 hS hl
  have hD := wC_D hD0
  have hl : lv_has ls 6 [(0, .ref (ad 1)), (1, .int (nI t)), (2, .int (nI q))] := hl
  refine lv_iload_n E.1.1 E.1.2.1 dX1_target_0 rfl (lv_at hl 1 rfl) ?_
  refine lv_istore_n (lv' := [(3, .int (nI t)), (0, .ref (ad 1)), (1, .int (nI t)), (2, .int (nI q))]) E.1.1 E.1.2.1 dX1_target_1 rfl hl (by decide) rfl (fun ls hl => ?_)
  refine lv_bipush (v := nI 6) E.1.1 E.1.2.1 dX1_target_2 rfl ?_
  refine lv_istore (lv' := [(4, .int (nI 6)), (3, .int (nI t)), (0, .ref (ad 1)), (1, .int (nI t)), (2, .int (nI q))]) E.1.1 E.1.2.1 dX1_target_4 hl (by decide) rfl (fun ls hl => ?_)
  have LP6 : ∀ (k : Nat) (o : Option Nat) (H : Heap) (locs : List Loc) (ls : Array Slot), (k ≤ 6) → (∀ j, o = some j → j < 6) → (tgtF (gcP σ) (gcL σ) q 6 (some t) = tgtF (gcP σ) (gcL σ) q k o) → va_P D vwCl (wC ad cI cJ cZ σ) H → va_S A s.heap H locs → lv_has ls 6 [(0, .ref (ad 1)), (1, .int (nI t)), (2, .int (nI q)), (3, .int (oI o)), (4, .int (nI k))] → W p l e { frames := 1, cells := 0, slots := 0, locals := 40 * 1 } s m [.ref (ad 1), .int (nI t), .int (nI q)].toArray below meth c H locs 0 0 (MQ below (Qcm D (wC ad cI cJ cZ σ) s.heap.size (some (.int (oI (tgtF (gcP σ) (gcL σ) q 6 (some t))))) (wC ad cI cJ cZ σ)) [.ref (ad 1), .int (nI t), .int (nI q)].toArray s 0 0 A) (F0 m 6 ls []) := by
    intro k
    induction k with
    | zero =>
      intro o H locs ls hk ho hv hP hS hl
      refine lv_iload E.1.1 E.1.2.1 dX1_target_6 (lv_at hl 4 rfl) ?_
      refine nv_if_le (by omega) E dX1_target_8 (tgt := 49) (by decide) (fun h8 => ?_) (fun h8 => ?_)
      · refine lv_iconst (v := -1) E.1.1 E.1.2.1 dX1_target_49 rfl ?_
        exact CM.reti E hr hlk hA hP hS (by rw [hv]; first | (rw [h13]; rfl) | rfl) dX1_target_50
      · exact absurd h8 (by omega)
    | succ k ih6 =>
      intro o H locs ls hk ho hv hP hS hl
      refine lv_iload E.1.1 E.1.2.1 dX1_target_6 (lv_at hl 4 rfl) ?_
      refine nv_if_le (by omega) E dX1_target_8 (tgt := 49) (by decide) (fun h8 => ?_) (fun h8 => ?_)
      · exact absurd h8 (by omega)
      · refine lv_iload_n E.1.1 E.1.2.1 dX1_target_11 rfl (lv_at hl 3 rfl) ?_
        refine lv_iconst (v := -1) E.1.1 E.1.2.1 dX1_target_12 rfl ?_
        refine ov_m1_eq (o := o) (fun j hj => by have := ho j hj; omega) E dX1_target_13 (tgt := 49) (by decide) (fun h13 => ?_) (fun k13 h13 => ?_)
        · refine lv_iconst (v := -1) E.1.1 E.1.2.1 dX1_target_49 rfl ?_
          exact CM.reti E hr hlk hA hP hS (by rw [hv]; first | (rw [h13]; rfl) | rfl) dX1_target_50
        · have hk13 := ho _ h13
          subst h13
          have hl : lv_has ls 6 [(0, .ref (ad 1)), (1, .int (nI t)), (2, .int (nI q)), (3, .int (nI k13)), (4, .int (nI (k + 1)))] := hl
          refine lv_iload_n E.1.1 E.1.2.1 dX1_target_16 rfl (lv_at hl 3 rfl) ?_
          refine lv_iload_n E.1.1 E.1.2.1 dX1_target_17 rfl (lv_at hl 2 rfl) ?_
          refine CM.callSi (n := 2) E (c_X1_bodyOf l D cI cJ cZ ad σ k13 q) ml_X1_52 st_X1_bodyOf ini_X1 co_X1_bodyOf hd_X1_bodyOf ⟨Nat.le_of_ble_eq_true rfl, Nat.le_of_ble_eq_true rfl⟩ ⟨Nat.le_refl _, Nat.le_refl _⟩ hP (hD _) hS hA2 rfl hl.1 (Nat.le_of_ble_eq_true rfl) dX1_target_18 rfl (fun H locs hP hS => ?_)
          refine lv_istore (lv' := [(5, .int (nI (k13 * 4 + q))), (0, .ref (ad 1)), (1, .int (nI t)), (2, .int (nI q)), (3, .int (nI k13)), (4, .int (nI (k + 1)))]) E.1.1 E.1.2.1 dX1_target_21 hl (by decide) rfl (fun ls hl => ?_)
          refine lv_aload_n E.1.1 E.1.2.1 dX1_target_23 rfl (lv_at hl 1 rfl) ?_
          refine gt_X1_lengths E fl_X1_15 hP dX1_target_24 ?_
          refine lv_iload E.1.1 E.1.2.1 dX1_target_27 (lv_at hl 0 rfl) ?_
          refine ld_CS_L (i := k13 * 4 + q) E hP (by omega) dX1_target_29 ?_
          refine nv_if_le (by have := hI.2.1 (k13 * 4 + q); omega) E dX1_target_30 (tgt := 36) (by decide) (fun h30 => ?_) (fun h30 => ?_)
          · refine lv_aload_n E.1.1 E.1.2.1 dX1_target_36 rfl (lv_at hl 1 rfl) ?_
            refine gt_X1_parents E fl_X1_9 hP dX1_target_37 ?_
            refine lv_iload_n E.1.1 E.1.2.1 dX1_target_40 rfl (lv_at hl 4 rfl) ?_
            refine ld_CS_P (i := k13) E hP (by omega) dX1_target_41 ?_
            refine lv_istore_n (lv' := [(3, .int (oI (gcP σ k13))), (5, .int (nI (k13 * 4 + q))), (0, .ref (ad 1)), (1, .int (nI t)), (2, .int (nI q)), (4, .int (nI (k + 1)))]) E.1.1 E.1.2.1 dX1_target_42 rfl hl (by decide) rfl (fun ls hl => ?_)
            refine lv_iinc (v := nI k) (lv' := [(4, .int (nI k)), (3, .int (oI (gcP σ k13))), (5, .int (nI (k13 * 4 + q))), (0, .ref (ad 1)), (1, .int (nI t)), (2, .int (nI q))]) E.1.1 E.1.2.1 dX1_target_43 hl (k := 5) rfl (pk_m1 k) (by decide) rfl (fun ls hl => ?_)
            refine lv_goto (tgt := 6) E.1.1 E.1.2.1 dX1_target_46 (by decide) ?_
            exact ih6 (gcP σ k13) _ _ _ (by omega) (fun j hj => hI.1 _ j hj) (by rw [hv, tgtF, if_neg (by omega)]) hP hS (lv_sub hl [3, 4, 5, 1, 0] rfl)
          · refine lv_iload E.1.1 E.1.2.1 dX1_target_33 (lv_at hl 0 rfl) ?_
            exact CM.reti E hr hlk hA hP hS (by rw [hv, tgtF, if_pos h30]; rfl) dX1_target_35
  exact LP6 6 (some t) _ _ _ (by omega) (fun j hj => by cases hj; exact ht) rfl hP hS (lv_sub hl [2, 3, 4, 1, 0] rfl)
set_option maxRecDepth 100000 in
set_option maxHeartbeats 4000000 in
theorem c_X1_classIs (l : Launch) (D : va_G) (cI cJ cZ : ClassId) (ad : Nat → Nat) (σ : CS) (t : Nat) (q : Nat)  (ht : t < 6) (hq : q < 6) (hI : PI σ) : CM l D (t3 cI cJ cZ) yX1_classIs cX1_classIs 5 (some .boolean) 0 [.ref (ad 1), .int (nI t), .int (nI q)] (wC ad cI cJ cZ σ) (some (.int (bI (isF (gcP σ) q 6 (some t))))) (wC ad cI cJ cZ σ) := by
  refine CM.of (by decide) (Nat.le_of_ble_eq_true rfl) ?_
  intro p e s m below meth c A ls E hr hlk hP hD0 hA hA2 hS hl
  have hD := wC_D hD0
  have hl : lv_has ls 5 [(0, .ref (ad 1)), (1, .int (nI t)), (2, .int (nI q))] := hl
  refine lv_iload_n E.1.1 E.1.2.1 dX1_classIs_0 rfl (lv_at hl 1 rfl) ?_
  refine lv_istore_n (lv' := [(3, .int (nI t)), (0, .ref (ad 1)), (1, .int (nI t)), (2, .int (nI q))]) E.1.1 E.1.2.1 dX1_classIs_1 rfl hl (by decide) rfl (fun ls hl => ?_)
  refine lv_bipush (v := nI 6) E.1.1 E.1.2.1 dX1_classIs_2 rfl ?_
  refine lv_istore (lv' := [(4, .int (nI 6)), (3, .int (nI t)), (0, .ref (ad 1)), (1, .int (nI t)), (2, .int (nI q))]) E.1.1 E.1.2.1 dX1_classIs_4 hl (by decide) rfl (fun ls hl => ?_)
  have LP6 : ∀ (k : Nat) (o : Option Nat) (H : Heap) (locs : List Loc) (ls : Array Slot), (k ≤ 6) → (∀ j, o = some j → j < 6) → (isF (gcP σ) q 6 (some t) = isF (gcP σ) q k o) → va_P D vwCl (wC ad cI cJ cZ σ) H → va_S A s.heap H locs → lv_has ls 5 [(0, .ref (ad 1)), (1, .int (nI t)), (2, .int (nI q)), (3, .int (oI o)), (4, .int (nI k))] → W p l e { frames := 0, cells := 0, slots := 0, locals := 40 * 0 } s m [.ref (ad 1), .int (nI t), .int (nI q)].toArray below meth c H locs 0 0 (MQ below (Qcm D (wC ad cI cJ cZ σ) s.heap.size (some (.int (bI (isF (gcP σ) q 6 (some t))))) (wC ad cI cJ cZ σ)) [.ref (ad 1), .int (nI t), .int (nI q)].toArray s 0 0 A) (F0 m 6 ls []) := by
    intro k
    induction k with
    | zero =>
      intro o H locs ls hk ho hv hP hS hl
      refine lv_iload E.1.1 E.1.2.1 dX1_classIs_6 (lv_at hl 4 rfl) ?_
      refine nv_if_le (by omega) E dX1_classIs_8 (tgt := 36) (by decide) (fun h8 => ?_) (fun h8 => ?_)
      · refine lv_iconst (v := nI 0) E.1.1 E.1.2.1 dX1_classIs_36 rfl ?_
        exact CM.retz E hr hlk hA hP hS (er_f (by rw [hv]; first | (rw [h13]; rfl) | rfl)) rfl dX1_classIs_37
      · exact absurd h8 (by omega)
    | succ k ih6 =>
      intro o H locs ls hk ho hv hP hS hl
      refine lv_iload E.1.1 E.1.2.1 dX1_classIs_6 (lv_at hl 4 rfl) ?_
      refine nv_if_le (by omega) E dX1_classIs_8 (tgt := 36) (by decide) (fun h8 => ?_) (fun h8 => ?_)
      · exact absurd h8 (by omega)
      · refine lv_iload_n E.1.1 E.1.2.1 dX1_classIs_11 rfl (lv_at hl 3 rfl) ?_
        refine lv_iconst (v := -1) E.1.1 E.1.2.1 dX1_classIs_12 rfl ?_
        refine ov_m1_eq (o := o) (fun j hj => by have := ho j hj; omega) E dX1_classIs_13 (tgt := 36) (by decide) (fun h13 => ?_) (fun k13 h13 => ?_)
        · refine lv_iconst (v := nI 0) E.1.1 E.1.2.1 dX1_classIs_36 rfl ?_
          exact CM.retz E hr hlk hA hP hS (er_f (by rw [hv]; first | (rw [h13]; rfl) | rfl)) rfl dX1_classIs_37
        · have hk13 := ho _ h13
          subst h13
          have hl : lv_has ls 5 [(0, .ref (ad 1)), (1, .int (nI t)), (2, .int (nI q)), (3, .int (nI k13)), (4, .int (nI (k + 1)))] := hl
          refine lv_iload_n E.1.1 E.1.2.1 dX1_classIs_16 rfl (lv_at hl 3 rfl) ?_
          refine lv_iload_n E.1.1 E.1.2.1 dX1_classIs_17 rfl (lv_at hl 2 rfl) ?_
          refine nv_icmp_ne (by omega) (by omega) E dX1_classIs_18 (tgt := 23) (by decide) (fun h18 => ?_) (fun h18 => ?_)
          · refine lv_aload_n E.1.1 E.1.2.1 dX1_classIs_23 rfl (lv_at hl 0 rfl) ?_
            refine gt_X1_parents E fl_X1_9 hP dX1_classIs_24 ?_
            refine lv_iload_n E.1.1 E.1.2.1 dX1_classIs_27 rfl (lv_at hl 3 rfl) ?_
            refine ld_CS_P (i := k13) E hP (by omega) dX1_classIs_28 ?_
            refine lv_istore_n (lv' := [(3, .int (oI (gcP σ k13))), (0, .ref (ad 1)), (1, .int (nI t)), (2, .int (nI q)), (4, .int (nI (k + 1)))]) E.1.1 E.1.2.1 dX1_classIs_29 rfl hl (by decide) rfl (fun ls hl => ?_)
            refine lv_iinc (v := nI k) (lv' := [(4, .int (nI k)), (3, .int (oI (gcP σ k13))), (0, .ref (ad 1)), (1, .int (nI t)), (2, .int (nI q))]) E.1.1 E.1.2.1 dX1_classIs_30 hl (k := 4) rfl (pk_m1 k) (by decide) rfl (fun ls hl => ?_)
            refine lv_goto (tgt := 6) E.1.1 E.1.2.1 dX1_classIs_33 (by decide) ?_
            exact ih6 (gcP σ k13) _ _ _ (by omega) (fun j hj => hI.1 _ j hj) (by rw [hv, isF, if_neg h18]) hP hS (lv_sub hl [2, 3, 4, 1, 0] rfl)
          · refine lv_iconst (v := nI 1) E.1.1 E.1.2.1 dX1_classIs_21 rfl ?_
            exact CM.retz E hr hlk hA hP hS (er_t (by rw [hv, isF, if_pos h18])) rfl dX1_classIs_22
  exact LP6 6 (some t) _ _ _ (by omega) (fun j hj => by cases hj; exact ht) rfl hP hS (lv_sub hl [2, 3, 4, 1, 0] rfl)
set_option maxRecDepth 100000 in
set_option maxHeartbeats 4000000 in
theorem c_X1_fitsInPlace (l : Launch) (D : va_G) (cI cJ cZ : ClassId) (ad : Nat → Nat) (σ : CS) (b : Nat)  (hb : b < 24) (hI : PI σ) : CM l D (t3 cI cJ cZ) yX1_fitsInPlace cX1_fitsInPlace 4 (some .boolean) 1 [.ref (ad 1), .int (nI b)] (wC ad cI cJ cZ σ) (some (.int (bI (fitF (gcL σ) (gcK σ) b)))) (wC ad cI cJ cZ σ) := by
  refine CM.of (by decide) (Nat.le_of_ble_eq_true rfl) ?_
  intro p e s m below meth c A ls E hr hlk hP hD0 hA hA2 hS hl
  have hD := wC_D hD0
  have hl : lv_has ls 4 [(0, .ref (ad 1)), (1, .int (nI b))] := hl
  have hL := hI.2.1 b
  refine lv_aload_n E.1.1 E.1.2.1 dX1_fitsInPlace_0 rfl (lv_at hl 0 rfl) ?_
  refine gt_X1_lengths E fl_X1_15 hP dX1_fitsInPlace_1 ?_
  refine lv_iload_n E.1.1 E.1.2.1 dX1_fitsInPlace_4 rfl (lv_at hl 1 rfl) ?_
  refine ld_CS_L (i := b) E hP (by omega) dX1_fitsInPlace_5 ?_
  refine lv_iconst (v := nI 3) E.1.1 E.1.2.1 dX1_fitsInPlace_6 rfl ?_
  refine nv_icmp_le (by omega) (by omega) E dX1_fitsInPlace_7 (tgt := 12) (by decide) (fun h7 => ?_) (fun h7 => ?_)
  · refine lv_iconst (v := nI 0) E.1.1 E.1.2.1 dX1_fitsInPlace_12 rfl ?_
    refine lv_istore_n (lv' := [(2, .int (nI 0)), (0, .ref (ad 1)), (1, .int (nI b))]) E.1.1 E.1.2.1 dX1_fitsInPlace_13 rfl hl (by decide) rfl (fun ls hl => ?_)
    have LP14 : ∀ (n : Nat) (k : Nat) (H : Heap) (locs : List Loc) (ls : Array Slot), (k + n = gcL σ b) → (fitF (gcL σ) (gcK σ) b = allF (fun k => decide (gcK σ (b * 10 + k) ≠ 7) && decide (gcK σ (b * 10 + k) ≠ 9)) n k) → va_P D vwCl (wC ad cI cJ cZ σ) H → va_S A s.heap H locs → lv_has ls 4 [(0, .ref (ad 1)), (1, .int (nI b)), (2, .int (nI k))] → W p l e { frames := 1, cells := 0, slots := 0, locals := 40 * 1 } s m [.ref (ad 1), .int (nI b)].toArray below meth c H locs 0 0 (MQ below (Qcm D (wC ad cI cJ cZ σ) s.heap.size (some (.int (bI (fitF (gcL σ) (gcK σ) b)))) (wC ad cI cJ cZ σ)) [.ref (ad 1), .int (nI b)].toArray s 0 0 A) (F0 m 14 ls []) := by
      intro n
      induction n with
      | zero =>
        intro k H locs ls hk hv hP hS hl
        refine lv_iload_n E.1.1 E.1.2.1 dX1_fitsInPlace_14 rfl (lv_at hl 2 rfl) ?_
        refine lv_aload_n E.1.1 E.1.2.1 dX1_fitsInPlace_15 rfl (lv_at hl 0 rfl) ?_
        refine gt_X1_lengths E fl_X1_15 hP dX1_fitsInPlace_16 ?_
        refine lv_iload_n E.1.1 E.1.2.1 dX1_fitsInPlace_19 rfl (lv_at hl 1 rfl) ?_
        refine ld_CS_L (i := b) E hP (by omega) dX1_fitsInPlace_20 ?_
        refine nv_icmp_ge (by omega) (by omega) E dX1_fitsInPlace_21 (tgt := 55) (by decide) (fun h21 => ?_) (fun h21 => ?_)
        · refine lv_iconst (v := nI 1) E.1.1 E.1.2.1 dX1_fitsInPlace_55 rfl ?_
          exact CM.retz E hr hlk hA hP hS (er_t (by rw [hv]; rfl)) rfl dX1_fitsInPlace_56
        · exact absurd h21 (by omega)
      | succ n ih14 =>
        intro k H locs ls hk hv hP hS hl
        refine lv_iload_n E.1.1 E.1.2.1 dX1_fitsInPlace_14 rfl (lv_at hl 2 rfl) ?_
        refine lv_aload_n E.1.1 E.1.2.1 dX1_fitsInPlace_15 rfl (lv_at hl 0 rfl) ?_
        refine gt_X1_lengths E fl_X1_15 hP dX1_fitsInPlace_16 ?_
        refine lv_iload_n E.1.1 E.1.2.1 dX1_fitsInPlace_19 rfl (lv_at hl 1 rfl) ?_
        refine ld_CS_L (i := b) E hP (by omega) dX1_fitsInPlace_20 ?_
        refine nv_icmp_ge (by omega) (by omega) E dX1_fitsInPlace_21 (tgt := 55) (by decide) (fun h21 => ?_) (fun h21 => ?_)
        · exact absurd h21 (by omega)
        · refine lv_aload_n E.1.1 E.1.2.1 dX1_fitsInPlace_24 rfl (lv_at hl 0 rfl) ?_
          refine gt_X1_kinds E fl_X1_18 hP dX1_fitsInPlace_25 ?_
          refine lv_iload_n E.1.1 E.1.2.1 dX1_fitsInPlace_28 rfl (lv_at hl 1 rfl) ?_
          refine lv_iload_n E.1.1 E.1.2.1 dX1_fitsInPlace_29 rfl (lv_at hl 2 rfl) ?_
          refine CM.callSi (n := 2) E (c_X1_placeOf l D cI cJ cZ ad σ b k) ml_X1_48 st_X1_placeOf ini_X1 co_X1_placeOf hd_X1_placeOf ⟨Nat.le_of_ble_eq_true rfl, Nat.le_of_ble_eq_true rfl⟩ ⟨Nat.le_refl _, Nat.le_refl _⟩ hP (hD _) hS hA2 rfl hl.1 (Nat.le_of_ble_eq_true rfl) dX1_fitsInPlace_30 rfl (fun H locs hP hS => ?_)
          refine ld_CS_K (i := b * 10 + k) E hP (by omega) dX1_fitsInPlace_33 ?_
          refine lv_istore_n (lv' := [(3, .int (nI (gcK σ (b * 10 + k)))), (0, .ref (ad 1)), (1, .int (nI b)), (2, .int (nI k))]) E.1.1 E.1.2.1 dX1_fitsInPlace_34 rfl hl (by decide) rfl (fun ls hl => ?_)
          have hK := hI.2.2.1 (b * 10 + k)
          refine lv_iload_n E.1.1 E.1.2.1 dX1_fitsInPlace_35 rfl (lv_at hl 0 rfl) ?_
          refine lv_bipush (v := nI 7) E.1.1 E.1.2.1 dX1_fitsInPlace_36 rfl ?_
          refine nv_icmp_eq (by omega) (by omega) E dX1_fitsInPlace_38 (tgt := 47) (by decide) (fun h38 => ?_) (fun h38 => ?_)
          · refine lv_iconst (v := nI 0) E.1.1 E.1.2.1 dX1_fitsInPlace_47 rfl ?_
            exact CM.retz E hr hlk hA hP hS (er_f (by rw [hv, allF]; first | (simp [h38]; done) | (simp [h44]; done))) rfl dX1_fitsInPlace_48
          · refine lv_iload_n E.1.1 E.1.2.1 dX1_fitsInPlace_41 rfl (lv_at hl 0 rfl) ?_
            refine lv_bipush (v := nI 9) E.1.1 E.1.2.1 dX1_fitsInPlace_42 rfl ?_
            refine nv_icmp_ne (by omega) (by omega) E dX1_fitsInPlace_44 (tgt := 49) (by decide) (fun h44 => ?_) (fun h44 => ?_)
            · refine lv_iinc (v := nI (k + 1)) (lv' := [(2, .int (nI (k + 1))), (3, .int (nI (gcK σ (b * 10 + k)))), (0, .ref (ad 1)), (1, .int (nI b))]) E.1.1 E.1.2.1 dX1_fitsInPlace_49 hl (k := 3) rfl (nI_add k 1) (by decide) rfl (fun ls hl => ?_)
              refine lv_goto (tgt := 14) E.1.1 E.1.2.1 dX1_fitsInPlace_52 (by decide) ?_
              exact ih14 (k + 1) _ _ _ (by omega) (by rw [hv, allF]; simp [h38, h44]) hP hS (lv_sub hl [2, 3, 0] rfl)
            · refine lv_iconst (v := nI 0) E.1.1 E.1.2.1 dX1_fitsInPlace_47 rfl ?_
              exact CM.retz E hr hlk hA hP hS (er_f (by rw [hv, allF]; first | (simp [h38]; done) | (simp [h44]; done))) rfl dX1_fitsInPlace_48
    exact LP14 (gcL σ b) 0 _ _ _ (by omega) (by simp [fitF, h7]) hP hS (lv_sub hl [1, 2, 0] rfl)
  · refine lv_iconst (v := nI 0) E.1.1 E.1.2.1 dX1_fitsInPlace_10 rfl ?_
    exact CM.retz E hr hlk hA hP hS (er_f (by simp [fitF]; omega)) rfl dX1_fitsInPlace_11
set_option maxRecDepth 100000 in
set_option maxHeartbeats 4000000 in
theorem c_X1_isWellFormed (l : Launch) (D : va_G) (cI cJ cZ : ClassId) (ad : Nat → Nat) (σ : CS) (k : Int32) (x : Int32) (y : Int32) (z : Int32)   : CM l D (t3 cI cJ cZ) yX1_isWellFormed cX1_isWellFormed 4 (some .boolean) 1 [.int k, .int x, .int y, .int z] (wC ad cI cJ cZ σ) (some (.int (bI (wfF k x y z)))) (wC ad cI cJ cZ σ) := by
  refine CM.of (by decide) (Nat.le_of_ble_eq_true rfl) ?_
  intro p e s m below meth c A ls E hr hlk hP hD0 hA hA2 hS hl
  have hD := wC_D hD0
  have hl : lv_has ls 4 [(0, .int k), (1, .int x), (2, .int y), (3, .int z)] := hl
  refine lv_iload_n E.1.1 E.1.2.1 dX1_isWellFormed_0 rfl (lv_at hl 1 rfl) ?_
  refine lv_bipush (v := nI 6) E.1.1 E.1.2.1 dX1_isWellFormed_1 rfl ?_
  refine CM.callSi (n := 2) E (c_X1_isWithin l D cI cJ cZ ad σ x (nI 6)) ml_X1_40 st_X1_isWithin ini_X1 co_X1_isWithin hd_X1_isWithin ⟨Nat.le_of_ble_eq_true rfl, Nat.le_of_ble_eq_true rfl⟩ ⟨Nat.le_refl _, Nat.le_refl _⟩ hP (hD _) hS hA2 rfl hl.1 (Nat.le_of_ble_eq_true rfl) dX1_isWellFormed_3 rfl (fun H locs hP hS => ?_)
  refine bv_if_ne (x := isW x (nI 6)) E dX1_isWellFormed_6 (tgt := 11) (by decide) (fun h6 => ?_) (fun h6 => ?_)
  · refine lv_iload_n E.1.1 E.1.2.1 dX1_isWellFormed_11 rfl (lv_at hl 0 rfl) ?_
    rcases sw12 k with h12 | h12 | h12 | h12 | h12 | h12 | h12 | h12 | h12 | h12 | h12 | h12 | h12
    · subst h12
      refine lv_tableIn (off := 64) (tgt := 76) E.1.1 E.1.2.1 dX1_isWellFormed_12 (by decide) (by decide) (by decide) (by decide) ?_
      refine lv_iconst (v := nI 1) E.1.1 E.1.2.1 dX1_isWellFormed_76 rfl ?_
      exact CM.retz E hr hlk hA hP hS (er_t (by simp [wfF, h6, wfK_0, wfK_8, wfK_11])) rfl dX1_isWellFormed_77
    · subst h12
      refine lv_tableIn (off := 66) (tgt := 78) E.1.1 E.1.2.1 dX1_isWellFormed_12 (by decide) (by decide) (by decide) (by decide) ?_
      refine lv_iload_n E.1.1 E.1.2.1 dX1_isWellFormed_78 rfl (lv_at hl 2 rfl) ?_
      refine lv_bipush (v := nI 6) E.1.1 E.1.2.1 dX1_isWellFormed_79 rfl ?_
      refine CM.callSi (n := 2) E (c_X1_isWithin l D cI cJ cZ ad σ y (nI 6)) ml_X1_40 st_X1_isWithin ini_X1 co_X1_isWithin hd_X1_isWithin ⟨Nat.le_of_ble_eq_true rfl, Nat.le_of_ble_eq_true rfl⟩ ⟨Nat.le_refl _, Nat.le_refl _⟩ hP (hD _) hS hA2 rfl hl.1 (Nat.le_of_ble_eq_true rfl) dX1_isWellFormed_81 rfl (fun H locs hP hS => ?_)
      exact CM.retz E hr hlk hA hP hS (by simp [wfF, h6, wfK_1]) (bI_n _) dX1_isWellFormed_84
    · subst h12
      refine lv_tableIn (off := 73) (tgt := 85) E.1.1 E.1.2.1 dX1_isWellFormed_12 (by decide) (by decide) (by decide) (by decide) ?_
      refine lv_iload_n E.1.1 E.1.2.1 dX1_isWellFormed_85 rfl (lv_at hl 2 rfl) ?_
      refine lv_bipush (v := nI 6) E.1.1 E.1.2.1 dX1_isWellFormed_86 rfl ?_
      refine CM.callSi (n := 2) E (c_X1_isWithin l D cI cJ cZ ad σ y (nI 6)) ml_X1_40 st_X1_isWithin ini_X1 co_X1_isWithin hd_X1_isWithin ⟨Nat.le_of_ble_eq_true rfl, Nat.le_of_ble_eq_true rfl⟩ ⟨Nat.le_refl _, Nat.le_refl _⟩ hP (hD _) hS hA2 rfl hl.1 (Nat.le_of_ble_eq_true rfl) dX1_isWellFormed_88 rfl (fun H locs hP hS => ?_)
      refine bv_if_eq (x := isW y (nI 6)) E dX1_isWellFormed_91 (tgt := 107) (by decide) (fun h91 => ?_) (fun h91 => ?_)
      · refine lv_iconst (v := nI 0) E.1.1 E.1.2.1 dX1_isWellFormed_107 rfl ?_
        exact CM.retz E hr hlk hA hP hS (er_f (by simp [wfF, h6, wfK_2, wfK_3, *])) rfl dX1_isWellFormed_108
      · refine lv_iload_n E.1.1 E.1.2.1 dX1_isWellFormed_94 rfl (lv_at hl 3 rfl) ?_
        refine lv_bipush (v := nI 6) E.1.1 E.1.2.1 dX1_isWellFormed_95 rfl ?_
        refine CM.callSi (n := 2) E (c_X1_isWithin l D cI cJ cZ ad σ z (nI 6)) ml_X1_40 st_X1_isWithin ini_X1 co_X1_isWithin hd_X1_isWithin ⟨Nat.le_of_ble_eq_true rfl, Nat.le_of_ble_eq_true rfl⟩ ⟨Nat.le_refl _, Nat.le_refl _⟩ hP (hD _) hS hA2 rfl hl.1 (Nat.le_of_ble_eq_true rfl) dX1_isWellFormed_97 rfl (fun H locs hP hS => ?_)
        refine bv_if_eq (x := isW z (nI 6)) E dX1_isWellFormed_100 (tgt := 107) (by decide) (fun h100 => ?_) (fun h100 => ?_)
        · refine lv_iconst (v := nI 0) E.1.1 E.1.2.1 dX1_isWellFormed_107 rfl ?_
          exact CM.retz E hr hlk hA hP hS (er_f (by simp [wfF, h6, wfK_2, wfK_3, *])) rfl dX1_isWellFormed_108
        · refine lv_iconst (v := nI 1) E.1.1 E.1.2.1 dX1_isWellFormed_103 rfl ?_
          refine lv_goto (tgt := 108) E.1.1 E.1.2.1 dX1_isWellFormed_104 (by decide) ?_
          exact CM.retz E hr hlk hA hP hS (er_t (by simp [wfF, h6, wfK_2, wfK_3, *])) rfl dX1_isWellFormed_108
    · subst h12
      refine lv_tableIn (off := 73) (tgt := 85) E.1.1 E.1.2.1 dX1_isWellFormed_12 (by decide) (by decide) (by decide) (by decide) ?_
      refine lv_iload_n E.1.1 E.1.2.1 dX1_isWellFormed_85 rfl (lv_at hl 2 rfl) ?_
      refine lv_bipush (v := nI 6) E.1.1 E.1.2.1 dX1_isWellFormed_86 rfl ?_
      refine CM.callSi (n := 2) E (c_X1_isWithin l D cI cJ cZ ad σ y (nI 6)) ml_X1_40 st_X1_isWithin ini_X1 co_X1_isWithin hd_X1_isWithin ⟨Nat.le_of_ble_eq_true rfl, Nat.le_of_ble_eq_true rfl⟩ ⟨Nat.le_refl _, Nat.le_refl _⟩ hP (hD _) hS hA2 rfl hl.1 (Nat.le_of_ble_eq_true rfl) dX1_isWellFormed_88 rfl (fun H locs hP hS => ?_)
      refine bv_if_eq (x := isW y (nI 6)) E dX1_isWellFormed_91 (tgt := 107) (by decide) (fun h91 => ?_) (fun h91 => ?_)
      · refine lv_iconst (v := nI 0) E.1.1 E.1.2.1 dX1_isWellFormed_107 rfl ?_
        exact CM.retz E hr hlk hA hP hS (er_f (by simp [wfF, h6, wfK_2, wfK_3, *])) rfl dX1_isWellFormed_108
      · refine lv_iload_n E.1.1 E.1.2.1 dX1_isWellFormed_94 rfl (lv_at hl 3 rfl) ?_
        refine lv_bipush (v := nI 6) E.1.1 E.1.2.1 dX1_isWellFormed_95 rfl ?_
        refine CM.callSi (n := 2) E (c_X1_isWithin l D cI cJ cZ ad σ z (nI 6)) ml_X1_40 st_X1_isWithin ini_X1 co_X1_isWithin hd_X1_isWithin ⟨Nat.le_of_ble_eq_true rfl, Nat.le_of_ble_eq_true rfl⟩ ⟨Nat.le_refl _, Nat.le_refl _⟩ hP (hD _) hS hA2 rfl hl.1 (Nat.le_of_ble_eq_true rfl) dX1_isWellFormed_97 rfl (fun H locs hP hS => ?_)
        refine bv_if_eq (x := isW z (nI 6)) E dX1_isWellFormed_100 (tgt := 107) (by decide) (fun h100 => ?_) (fun h100 => ?_)
        · refine lv_iconst (v := nI 0) E.1.1 E.1.2.1 dX1_isWellFormed_107 rfl ?_
          exact CM.retz E hr hlk hA hP hS (er_f (by simp [wfF, h6, wfK_2, wfK_3, *])) rfl dX1_isWellFormed_108
        · refine lv_iconst (v := nI 1) E.1.1 E.1.2.1 dX1_isWellFormed_103 rfl ?_
          refine lv_goto (tgt := 108) E.1.1 E.1.2.1 dX1_isWellFormed_104 (by decide) ?_
          exact CM.retz E hr hlk hA hP hS (er_t (by simp [wfF, h6, wfK_2, wfK_3, *])) rfl dX1_isWellFormed_108
    · subst h12
      refine lv_tableIn (off := 97) (tgt := 109) E.1.1 E.1.2.1 dX1_isWellFormed_12 (by decide) (by decide) (by decide) (by decide) ?_
      refine lv_iload_n E.1.1 E.1.2.1 dX1_isWellFormed_109 rfl (lv_at hl 2 rfl) ?_
      refine lv_bipush (v := nI 6) E.1.1 E.1.2.1 dX1_isWellFormed_110 rfl ?_
      refine CM.callSi (n := 2) E (c_X1_isWithin l D cI cJ cZ ad σ y (nI 6)) ml_X1_40 st_X1_isWithin ini_X1 co_X1_isWithin hd_X1_isWithin ⟨Nat.le_of_ble_eq_true rfl, Nat.le_of_ble_eq_true rfl⟩ ⟨Nat.le_refl _, Nat.le_refl _⟩ hP (hD _) hS hA2 rfl hl.1 (Nat.le_of_ble_eq_true rfl) dX1_isWellFormed_112 rfl (fun H locs hP hS => ?_)
      exact CM.retz E hr hlk hA hP hS (by simp [wfF, h6, wfK_4, wfK_10]) (bI_n _) dX1_isWellFormed_115
    · subst h12
      refine lv_tableIn (off := 104) (tgt := 116) E.1.1 E.1.2.1 dX1_isWellFormed_12 (by decide) (by decide) (by decide) (by decide) ?_
      refine lv_iload_n E.1.1 E.1.2.1 dX1_isWellFormed_116 rfl (lv_at hl 2 rfl) ?_
      refine lv_bipush (v := nI 6) E.1.1 E.1.2.1 dX1_isWellFormed_117 rfl ?_
      refine CM.callSi (n := 2) E (c_X1_isWithin l D cI cJ cZ ad σ y (nI 6)) ml_X1_40 st_X1_isWithin ini_X1 co_X1_isWithin hd_X1_isWithin ⟨Nat.le_of_ble_eq_true rfl, Nat.le_of_ble_eq_true rfl⟩ ⟨Nat.le_refl _, Nat.le_refl _⟩ hP (hD _) hS hA2 rfl hl.1 (Nat.le_of_ble_eq_true rfl) dX1_isWellFormed_119 rfl (fun H locs hP hS => ?_)
      refine bv_if_eq (x := isW y (nI 6)) E dX1_isWellFormed_122 (tgt := 137) (by decide) (fun h122 => ?_) (fun h122 => ?_)
      · refine lv_iconst (v := nI 0) E.1.1 E.1.2.1 dX1_isWellFormed_137 rfl ?_
        exact CM.retz E hr hlk hA hP hS (er_f (by simp [wfF, h6, wfK_5, wfK_6, *])) rfl dX1_isWellFormed_138
      · refine lv_iload_n E.1.1 E.1.2.1 dX1_isWellFormed_125 rfl (lv_at hl 3 rfl) ?_
        refine lv_iconst (v := nI 3) E.1.1 E.1.2.1 dX1_isWellFormed_126 rfl ?_
        refine CM.callSi (n := 2) E (c_X1_isWithin l D cI cJ cZ ad σ z (nI 3)) ml_X1_40 st_X1_isWithin ini_X1 co_X1_isWithin hd_X1_isWithin ⟨Nat.le_of_ble_eq_true rfl, Nat.le_of_ble_eq_true rfl⟩ ⟨Nat.le_refl _, Nat.le_refl _⟩ hP (hD _) hS hA2 rfl hl.1 (Nat.le_of_ble_eq_true rfl) dX1_isWellFormed_127 rfl (fun H locs hP hS => ?_)
        refine bv_if_eq (x := isW z (nI 3)) E dX1_isWellFormed_130 (tgt := 137) (by decide) (fun h130 => ?_) (fun h130 => ?_)
        · refine lv_iconst (v := nI 0) E.1.1 E.1.2.1 dX1_isWellFormed_137 rfl ?_
          exact CM.retz E hr hlk hA hP hS (er_f (by simp [wfF, h6, wfK_5, wfK_6, *])) rfl dX1_isWellFormed_138
        · refine lv_iconst (v := nI 1) E.1.1 E.1.2.1 dX1_isWellFormed_133 rfl ?_
          refine lv_goto (tgt := 138) E.1.1 E.1.2.1 dX1_isWellFormed_134 (by decide) ?_
          exact CM.retz E hr hlk hA hP hS (er_t (by simp [wfF, h6, wfK_5, wfK_6, *])) rfl dX1_isWellFormed_138
    · subst h12
      refine lv_tableIn (off := 104) (tgt := 116) E.1.1 E.1.2.1 dX1_isWellFormed_12 (by decide) (by decide) (by decide) (by decide) ?_
      refine lv_iload_n E.1.1 E.1.2.1 dX1_isWellFormed_116 rfl (lv_at hl 2 rfl) ?_
      refine lv_bipush (v := nI 6) E.1.1 E.1.2.1 dX1_isWellFormed_117 rfl ?_
      refine CM.callSi (n := 2) E (c_X1_isWithin l D cI cJ cZ ad σ y (nI 6)) ml_X1_40 st_X1_isWithin ini_X1 co_X1_isWithin hd_X1_isWithin ⟨Nat.le_of_ble_eq_true rfl, Nat.le_of_ble_eq_true rfl⟩ ⟨Nat.le_refl _, Nat.le_refl _⟩ hP (hD _) hS hA2 rfl hl.1 (Nat.le_of_ble_eq_true rfl) dX1_isWellFormed_119 rfl (fun H locs hP hS => ?_)
      refine bv_if_eq (x := isW y (nI 6)) E dX1_isWellFormed_122 (tgt := 137) (by decide) (fun h122 => ?_) (fun h122 => ?_)
      · refine lv_iconst (v := nI 0) E.1.1 E.1.2.1 dX1_isWellFormed_137 rfl ?_
        exact CM.retz E hr hlk hA hP hS (er_f (by simp [wfF, h6, wfK_5, wfK_6, *])) rfl dX1_isWellFormed_138
      · refine lv_iload_n E.1.1 E.1.2.1 dX1_isWellFormed_125 rfl (lv_at hl 3 rfl) ?_
        refine lv_iconst (v := nI 3) E.1.1 E.1.2.1 dX1_isWellFormed_126 rfl ?_
        refine CM.callSi (n := 2) E (c_X1_isWithin l D cI cJ cZ ad σ z (nI 3)) ml_X1_40 st_X1_isWithin ini_X1 co_X1_isWithin hd_X1_isWithin ⟨Nat.le_of_ble_eq_true rfl, Nat.le_of_ble_eq_true rfl⟩ ⟨Nat.le_refl _, Nat.le_refl _⟩ hP (hD _) hS hA2 rfl hl.1 (Nat.le_of_ble_eq_true rfl) dX1_isWellFormed_127 rfl (fun H locs hP hS => ?_)
        refine bv_if_eq (x := isW z (nI 3)) E dX1_isWellFormed_130 (tgt := 137) (by decide) (fun h130 => ?_) (fun h130 => ?_)
        · refine lv_iconst (v := nI 0) E.1.1 E.1.2.1 dX1_isWellFormed_137 rfl ?_
          exact CM.retz E hr hlk hA hP hS (er_f (by simp [wfF, h6, wfK_5, wfK_6, *])) rfl dX1_isWellFormed_138
        · refine lv_iconst (v := nI 1) E.1.1 E.1.2.1 dX1_isWellFormed_133 rfl ?_
          refine lv_goto (tgt := 138) E.1.1 E.1.2.1 dX1_isWellFormed_134 (by decide) ?_
          exact CM.retz E hr hlk hA hP hS (er_t (by simp [wfF, h6, wfK_5, wfK_6, *])) rfl dX1_isWellFormed_138
    · subst h12
      refine lv_tableIn (off := 127) (tgt := 139) E.1.1 E.1.2.1 dX1_isWellFormed_12 (by decide) (by decide) (by decide) (by decide) ?_
      refine lv_iload_n E.1.1 E.1.2.1 dX1_isWellFormed_139 rfl (lv_at hl 2 rfl) ?_
      refine lv_bipush (v := nI 6) E.1.1 E.1.2.1 dX1_isWellFormed_140 rfl ?_
      refine CM.callSi (n := 2) E (c_X1_isWithin l D cI cJ cZ ad σ y (nI 6)) ml_X1_40 st_X1_isWithin ini_X1 co_X1_isWithin hd_X1_isWithin ⟨Nat.le_of_ble_eq_true rfl, Nat.le_of_ble_eq_true rfl⟩ ⟨Nat.le_refl _, Nat.le_refl _⟩ hP (hD _) hS hA2 rfl hl.1 (Nat.le_of_ble_eq_true rfl) dX1_isWellFormed_142 rfl (fun H locs hP hS => ?_)
      refine bv_if_eq (x := isW y (nI 6)) E dX1_isWellFormed_145 (tgt := 160) (by decide) (fun h145 => ?_) (fun h145 => ?_)
      · refine lv_iconst (v := nI 0) E.1.1 E.1.2.1 dX1_isWellFormed_160 rfl ?_
        exact CM.retz E hr hlk hA hP hS (er_f (by simp [wfF, h6, wfK_7, *])) rfl dX1_isWellFormed_161
      · refine lv_iload_n E.1.1 E.1.2.1 dX1_isWellFormed_148 rfl (lv_at hl 3 rfl) ?_
        refine lv_iconst (v := nI 4) E.1.1 E.1.2.1 dX1_isWellFormed_149 rfl ?_
        refine CM.callSi (n := 2) E (c_X1_isWithin l D cI cJ cZ ad σ z (nI 4)) ml_X1_40 st_X1_isWithin ini_X1 co_X1_isWithin hd_X1_isWithin ⟨Nat.le_of_ble_eq_true rfl, Nat.le_of_ble_eq_true rfl⟩ ⟨Nat.le_refl _, Nat.le_refl _⟩ hP (hD _) hS hA2 rfl hl.1 (Nat.le_of_ble_eq_true rfl) dX1_isWellFormed_150 rfl (fun H locs hP hS => ?_)
        refine bv_if_eq (x := isW z (nI 4)) E dX1_isWellFormed_153 (tgt := 160) (by decide) (fun h153 => ?_) (fun h153 => ?_)
        · refine lv_iconst (v := nI 0) E.1.1 E.1.2.1 dX1_isWellFormed_160 rfl ?_
          exact CM.retz E hr hlk hA hP hS (er_f (by simp [wfF, h6, wfK_7, *])) rfl dX1_isWellFormed_161
        · refine lv_iconst (v := nI 1) E.1.1 E.1.2.1 dX1_isWellFormed_156 rfl ?_
          refine lv_goto (tgt := 161) E.1.1 E.1.2.1 dX1_isWellFormed_157 (by decide) ?_
          exact CM.retz E hr hlk hA hP hS (er_t (by simp [wfF, h6, wfK_7, *])) rfl dX1_isWellFormed_161
    · subst h12
      refine lv_tableIn (off := 64) (tgt := 76) E.1.1 E.1.2.1 dX1_isWellFormed_12 (by decide) (by decide) (by decide) (by decide) ?_
      refine lv_iconst (v := nI 1) E.1.1 E.1.2.1 dX1_isWellFormed_76 rfl ?_
      exact CM.retz E hr hlk hA hP hS (er_t (by simp [wfF, h6, wfK_0, wfK_8, wfK_11])) rfl dX1_isWellFormed_77
    · subst h12
      refine lv_tableIn (off := 150) (tgt := 162) E.1.1 E.1.2.1 dX1_isWellFormed_12 (by decide) (by decide) (by decide) (by decide) ?_
      refine lv_iload_n E.1.1 E.1.2.1 dX1_isWellFormed_162 rfl (lv_at hl 2 rfl) ?_
      refine lv_bipush (v := nI 10) E.1.1 E.1.2.1 dX1_isWellFormed_163 rfl ?_
      refine CM.callSi (n := 2) E (c_X1_isWithin l D cI cJ cZ ad σ y (nI 10)) ml_X1_40 st_X1_isWithin ini_X1 co_X1_isWithin hd_X1_isWithin ⟨Nat.le_of_ble_eq_true rfl, Nat.le_of_ble_eq_true rfl⟩ ⟨Nat.le_refl _, Nat.le_refl _⟩ hP (hD _) hS hA2 rfl hl.1 (Nat.le_of_ble_eq_true rfl) dX1_isWellFormed_165 rfl (fun H locs hP hS => ?_)
      exact CM.retz E hr hlk hA hP hS (by simp [wfF, h6, wfK_9]) (bI_n _) dX1_isWellFormed_168
    · subst h12
      refine lv_tableIn (off := 97) (tgt := 109) E.1.1 E.1.2.1 dX1_isWellFormed_12 (by decide) (by decide) (by decide) (by decide) ?_
      refine lv_iload_n E.1.1 E.1.2.1 dX1_isWellFormed_109 rfl (lv_at hl 2 rfl) ?_
      refine lv_bipush (v := nI 6) E.1.1 E.1.2.1 dX1_isWellFormed_110 rfl ?_
      refine CM.callSi (n := 2) E (c_X1_isWithin l D cI cJ cZ ad σ y (nI 6)) ml_X1_40 st_X1_isWithin ini_X1 co_X1_isWithin hd_X1_isWithin ⟨Nat.le_of_ble_eq_true rfl, Nat.le_of_ble_eq_true rfl⟩ ⟨Nat.le_refl _, Nat.le_refl _⟩ hP (hD _) hS hA2 rfl hl.1 (Nat.le_of_ble_eq_true rfl) dX1_isWellFormed_112 rfl (fun H locs hP hS => ?_)
      exact CM.retz E hr hlk hA hP hS (by simp [wfF, h6, wfK_4, wfK_10]) (bI_n _) dX1_isWellFormed_115
    · subst h12
      refine lv_tableIn (off := 64) (tgt := 76) E.1.1 E.1.2.1 dX1_isWellFormed_12 (by decide) (by decide) (by decide) (by decide) ?_
      refine lv_iconst (v := nI 1) E.1.1 E.1.2.1 dX1_isWellFormed_76 rfl ?_
      exact CM.retz E hr hlk hA hP hS (er_t (by simp [wfF, h6, wfK_0, wfK_8, wfK_11])) rfl dX1_isWellFormed_77
    · refine lv_tableOut (tgt := 169) E.1.1 E.1.2.1 dX1_isWellFormed_12 h12 (by decide) ?_
      refine lv_iconst (v := nI 0) E.1.1 E.1.2.1 dX1_isWellFormed_169 rfl ?_
      exact CM.retz E hr hlk hA hP hS (er_f (by simp [wfF, wfK_out h12])) rfl dX1_isWellFormed_170
  · refine lv_iconst (v := nI 0) E.1.1 E.1.2.1 dX1_isWellFormed_9 rfl ?_
    exact CM.retz E hr hlk hA hP hS (er_f (by simp [wfF, h6])) rfl dX1_isWellFormed_10
