set_option maxRecDepth 100000 in
set_option maxHeartbeats 400000 in
theorem c_X4_thrown (l : Launch) (D : va_G) (cI cJ cZ : ClassId) (ad : Nat → Nat) (σ : MS)    : CM l D (t3 cI cJ cZ) yX4_thrown cX4_thrown 1 (some .int) 0 [.ref (ad 0)] (wR ad cI cJ cZ σ) (some (.int (nI (gmth σ)))) (wR ad cI cJ cZ σ) := by
  refine CM.of (by decide) (Nat.le_of_ble_eq_true rfl) ?_
  intro p e s m below meth c A ls E hr hlk hP hD0 hA hA2 hS hl
  have hD := wR_D hD0
  have hl : lv_has ls 1 [(0, .ref (ad 0))] := hl
  refine lv_aload_n E.1.1 E.1.2.1 dX4_thrown_0 rfl (lv_at hl 0 rfl) ?_
  refine gt_X4_thrown E fl_X4_69 hP dX4_thrown_1 ?_
  exact CM.reti E hr hlk hA hP hS rfl dX4_thrown_4
set_option maxRecDepth 100000 in
set_option maxHeartbeats 400000 in
theorem c_X4_outside (l : Launch) (D : va_G) (cI cJ cZ : ClassId) (ad : Nat → Nat) (σ : MS) (v : Int32) (lo : Int32) (hi : Int32)   : CM l D (t3 cI cJ cZ) yX4_outside cX4_outside 3 (some .boolean) 0 [.int v, .int lo, .int hi] (wR ad cI cJ cZ σ) (some (.int (bI (ouF v lo hi)))) (wR ad cI cJ cZ σ) := by
  refine CM.of (by decide) (Nat.le_of_ble_eq_true rfl) ?_
  intro p e s m below meth c A ls E hr hlk hP hD0 hA hA2 hS hl
  have hD := wR_D hD0
  have hl : lv_has ls 3 [(0, .int v), (1, .int lo), (2, .int hi)] := hl
  refine lv_iload_n E.1.1 E.1.2.1 dX4_outside_0 rfl (lv_at hl 0 rfl) ?_
  refine lv_iload_n E.1.1 E.1.2.1 dX4_outside_1 rfl (lv_at hl 1 rfl) ?_
  refine lv_icmp_lt (tgt := 10) E.1.1 E.1.2.1 dX4_outside_2 (by decide) (fun h2 => ?_) (fun h2 => ?_)
  · refine lv_iconst (v := nI 1) E.1.1 E.1.2.1 dX4_outside_10 rfl ?_
    refine lv_goto (tgt := 15) E.1.1 E.1.2.1 dX4_outside_11 (by decide) ?_
    exact CM.retz E hr hlk hA hP hS (er_t (by simp [ouF, *])) rfl dX4_outside_15
  · refine lv_iload_n E.1.1 E.1.2.1 dX4_outside_5 rfl (lv_at hl 0 rfl) ?_
    refine lv_iload_n E.1.1 E.1.2.1 dX4_outside_6 rfl (lv_at hl 2 rfl) ?_
    refine lv_icmp_le (tgt := 14) E.1.1 E.1.2.1 dX4_outside_7 (by decide) (fun h7 => ?_) (fun h7 => ?_)
    · refine lv_iconst (v := nI 0) E.1.1 E.1.2.1 dX4_outside_14 rfl ?_
      exact CM.retz E hr hlk hA hP hS (er_f (by simp [ouF, *])) rfl dX4_outside_15
    · refine lv_iconst (v := nI 1) E.1.1 E.1.2.1 dX4_outside_10 rfl ?_
      refine lv_goto (tgt := 15) E.1.1 E.1.2.1 dX4_outside_11 (by decide) ?_
      exact CM.retz E hr hlk hA hP hS (er_t (by simp [ouF, *])) rfl dX4_outside_15
set_option maxRecDepth 100000 in
set_option maxHeartbeats 400000 in
theorem c_X4_isRegister (l : Launch) (D : va_G) (cI cJ cZ : ClassId) (ad : Nat → Nat) (σ : MS) (v : Int32)   : CM l D (t3 cI cJ cZ) yX4_isRegister cX4_isRegister 1 (some .boolean) 0 [.int v] (wR ad cI cJ cZ σ) (some (.int (bI (isW v (nI 6))))) (wR ad cI cJ cZ σ) := by
  refine CM.of (by decide) (Nat.le_of_ble_eq_true rfl) ?_
  intro p e s m below meth c A ls E hr hlk hP hD0 hA hA2 hS hl
  have hD := wR_D hD0
  have hl : lv_has ls 1 [(0, .int v)] := hl
  refine lv_iload_n E.1.1 E.1.2.1 dX4_isRegister_0 rfl (lv_at hl 0 rfl) ?_
  refine lv_if_lt (tgt := 13) E.1.1 E.1.2.1 dX4_isRegister_1 (by decide) (fun h1 => ?_) (fun h1 => ?_)
  · refine lv_iconst (v := nI 0) E.1.1 E.1.2.1 dX4_isRegister_13 rfl ?_
    exact CM.retz E hr hlk hA hP hS (er_f (by simp only [isW]; first | (simp [h1]; done) | (simp [h1, (n_succ_le (n := 5) (by decide) v).mpr h6]; done) | (have h7 : ¬ nI 6 ≤ v := fun z => h6 ((n_succ_le (n := 5) (by decide) v).mp z); simp [h1, h7]))) rfl dX4_isRegister_14
  · refine lv_iload_n E.1.1 E.1.2.1 dX4_isRegister_4 rfl (lv_at hl 0 rfl) ?_
    refine lv_iconst (v := nI 5) E.1.1 E.1.2.1 dX4_isRegister_5 rfl ?_
    refine lv_icmp_gt (tgt := 13) E.1.1 E.1.2.1 dX4_isRegister_6 (by decide) (fun h6 => ?_) (fun h6 => ?_)
    · refine lv_iconst (v := nI 0) E.1.1 E.1.2.1 dX4_isRegister_13 rfl ?_
      exact CM.retz E hr hlk hA hP hS (er_f (by simp only [isW]; first | (simp [h1]; done) | (simp [h1, (n_succ_le (n := 5) (by decide) v).mpr h6]; done) | (have h7 : ¬ nI 6 ≤ v := fun z => h6 ((n_succ_le (n := 5) (by decide) v).mp z); simp [h1, h7]))) rfl dX4_isRegister_14
    · refine lv_iconst (v := nI 1) E.1.1 E.1.2.1 dX4_isRegister_9 rfl ?_
      refine lv_goto (tgt := 14) E.1.1 E.1.2.1 dX4_isRegister_10 (by decide) ?_
      exact CM.retz E hr hlk hA hP hS (er_t (by simp only [isW]; first | (simp [h1]; done) | (simp [h1, (n_succ_le (n := 5) (by decide) v).mpr h6]; done) | (have h7 : ¬ nI 6 ≤ v := fun z => h6 ((n_succ_le (n := 5) (by decide) v).mp z); simp [h1, h7]))) rfl dX4_isRegister_14
set_option maxRecDepth 100000 in
set_option maxHeartbeats 400000 in
theorem c_X4_isField (l : Launch) (D : va_G) (cI cJ cZ : ClassId) (ad : Nat → Nat) (σ : MS) (v : Int32)   : CM l D (t3 cI cJ cZ) yX4_isField cX4_isField 1 (some .boolean) 0 [.int v] (wR ad cI cJ cZ σ) (some (.int (bI (isW v (nI 3))))) (wR ad cI cJ cZ σ) := by
  refine CM.of (by decide) (Nat.le_of_ble_eq_true rfl) ?_
  intro p e s m below meth c A ls E hr hlk hP hD0 hA hA2 hS hl
  have hD := wR_D hD0
  have hl : lv_has ls 1 [(0, .int v)] := hl
  refine lv_iload_n E.1.1 E.1.2.1 dX4_isField_0 rfl (lv_at hl 0 rfl) ?_
  refine lv_if_lt (tgt := 13) E.1.1 E.1.2.1 dX4_isField_1 (by decide) (fun h1 => ?_) (fun h1 => ?_)
  · refine lv_iconst (v := nI 0) E.1.1 E.1.2.1 dX4_isField_13 rfl ?_
    exact CM.retz E hr hlk hA hP hS (er_f (by simp only [isW]; first | (simp [h1]; done) | (simp [h1, (n_succ_le (n := 2) (by decide) v).mpr h6]; done) | (have h7 : ¬ nI 3 ≤ v := fun z => h6 ((n_succ_le (n := 2) (by decide) v).mp z); simp [h1, h7]))) rfl dX4_isField_14
  · refine lv_iload_n E.1.1 E.1.2.1 dX4_isField_4 rfl (lv_at hl 0 rfl) ?_
    refine lv_iconst (v := nI 2) E.1.1 E.1.2.1 dX4_isField_5 rfl ?_
    refine lv_icmp_gt (tgt := 13) E.1.1 E.1.2.1 dX4_isField_6 (by decide) (fun h6 => ?_) (fun h6 => ?_)
    · refine lv_iconst (v := nI 0) E.1.1 E.1.2.1 dX4_isField_13 rfl ?_
      exact CM.retz E hr hlk hA hP hS (er_f (by simp only [isW]; first | (simp [h1]; done) | (simp [h1, (n_succ_le (n := 2) (by decide) v).mpr h6]; done) | (have h7 : ¬ nI 3 ≤ v := fun z => h6 ((n_succ_le (n := 2) (by decide) v).mp z); simp [h1, h7]))) rfl dX4_isField_14
    · refine lv_iconst (v := nI 1) E.1.1 E.1.2.1 dX4_isField_9 rfl ?_
      refine lv_goto (tgt := 14) E.1.1 E.1.2.1 dX4_isField_10 (by decide) ?_
      exact CM.retz E hr hlk hA hP hS (er_t (by simp only [isW]; first | (simp [h1]; done) | (simp [h1, (n_succ_le (n := 2) (by decide) v).mpr h6]; done) | (have h7 : ¬ nI 3 ≤ v := fun z => h6 ((n_succ_le (n := 2) (by decide) v).mp z); simp [h1, h7]))) rfl dX4_isField_14
set_option maxRecDepth 100000 in
set_option maxHeartbeats 400000 in
theorem c_X4_fails (l : Launch) (D : va_G) (cI cJ cZ : ClassId) (ad : Nat → Nat) (σ : MS) (x : Bool) (y : Bool)   : CM l D (t3 cI cJ cZ) yX4_fails cX4_fails 3 (some .boolean) 0 [.ref (ad 0), .int (bI x), .int (bI y)] (wR ad cI cJ cZ σ) (some (.int (bI (x || y)))) (wR ad cI cJ cZ (smth σ (thF x y))) := by
  refine CM.of (by decide) (Nat.le_of_ble_eq_true rfl) ?_
  intro p e s m below meth c A ls E hr hlk hP hD0 hA hA2 hS hl
  have hD := wR_D hD0
  have hl : lv_has ls 3 [(0, .ref (ad 0)), (1, .int (bI x)), (2, .int (bI y))] := hl
  refine lv_aload_n E.1.1 E.1.2.1 dX4_fails_0 rfl (lv_at hl 0 rfl) ?_
  refine lv_iload_n E.1.1 E.1.2.1 dX4_fails_1 rfl (lv_at hl 1 rfl) ?_
  refine bv_if_eq (x := x) E dX4_fails_2 (tgt := 9) (by decide) (fun h2 => ?_) (fun h2 => ?_)
  · refine lv_iload_n E.1.1 E.1.2.1 dX4_fails_9 rfl (lv_at hl 2 rfl) ?_
    refine bv_if_eq (x := y) E dX4_fails_10 (tgt := 17) (by decide) (fun h10 => ?_) (fun h10 => ?_)
    · refine lv_iconst (v := nI 0) E.1.1 E.1.2.1 dX4_fails_17 rfl ?_
      refine pt_X4_thrown (v := 0) E fl_X4_69 hP hD hS dX4_fails_18 (fun H locs hP hS => ?_)
      refine lv_aload_n E.1.1 E.1.2.1 dX4_fails_21 rfl (lv_at hl 0 rfl) ?_
      refine gt_X4_thrown E fl_X4_69 hP dX4_fails_22 ?_
      refine tpi (y := nI 0) (by rw [hs_th_th]) ?_
      refine nv_if_le (by omega) E dX4_fails_25 (tgt := 32) (by decide) (fun h25 => ?_) (fun h25 => ?_)
      · refine lv_iconst (v := nI 0) E.1.1 E.1.2.1 dX4_fails_32 rfl ?_
        exact CM.retz E hr hlk hA (by have e9 : thF x y = 0 := (by simp [thF, *]); rw [e9]; exact hP) hS (er_f (by simp [*])) rfl dX4_fails_33
      · exact absurd h25 (by omega)
    · refine lv_iconst (v := nI 2) E.1.1 E.1.2.1 dX4_fails_13 rfl ?_
      refine lv_goto (tgt := 18) E.1.1 E.1.2.1 dX4_fails_14 (by decide) ?_
      refine pt_X4_thrown (v := 2) E fl_X4_69 hP hD hS dX4_fails_18 (fun H locs hP hS => ?_)
      refine lv_aload_n E.1.1 E.1.2.1 dX4_fails_21 rfl (lv_at hl 0 rfl) ?_
      refine gt_X4_thrown E fl_X4_69 hP dX4_fails_22 ?_
      refine tpi (y := nI 2) (by rw [hs_th_th]) ?_
      refine nv_if_le (by omega) E dX4_fails_25 (tgt := 32) (by decide) (fun h25 => ?_) (fun h25 => ?_)
      · exact absurd h25 (by omega)
      · refine lv_iconst (v := nI 1) E.1.1 E.1.2.1 dX4_fails_28 rfl ?_
        refine lv_goto (tgt := 33) E.1.1 E.1.2.1 dX4_fails_29 (by decide) ?_
        exact CM.retz E hr hlk hA (by have e9 : thF x y = 2 := (by simp [thF, *]); rw [e9]; exact hP) hS (er_t (by simp [*])) rfl dX4_fails_33
  · refine lv_iconst (v := nI 1) E.1.1 E.1.2.1 dX4_fails_5 rfl ?_
    refine lv_goto (tgt := 18) E.1.1 E.1.2.1 dX4_fails_6 (by decide) ?_
    refine pt_X4_thrown (v := 1) E fl_X4_69 hP hD hS dX4_fails_18 (fun H locs hP hS => ?_)
    refine lv_aload_n E.1.1 E.1.2.1 dX4_fails_21 rfl (lv_at hl 0 rfl) ?_
    refine gt_X4_thrown E fl_X4_69 hP dX4_fails_22 ?_
    refine tpi (y := nI 1) (by rw [hs_th_th]) ?_
    refine nv_if_le (by omega) E dX4_fails_25 (tgt := 32) (by decide) (fun h25 => ?_) (fun h25 => ?_)
    · exact absurd h25 (by omega)
    · refine lv_iconst (v := nI 1) E.1.1 E.1.2.1 dX4_fails_28 rfl ?_
      refine lv_goto (tgt := 33) E.1.1 E.1.2.1 dX4_fails_29 (by decide) ?_
      exact CM.retz E hr hlk hA (by have e9 : thF x y = 1 := (by simp [thF, *]); rw [e9]; exact hP) hS (er_t (by simp [*])) rfl dX4_fails_33
set_option maxRecDepth 100000 in
set_option maxHeartbeats 400000 in
theorem c_X4_isBody (l : Launch) (D : va_G) (cI cJ cZ : ClassId) (ad : Nat → Nat) (σ : MS) (t : Int32) (q : Int32)  (hQ : QI σ) : CM l D (t3 cI cJ cZ) yX4_isBody cX4_isBody 3 (some .boolean) 0 [.ref (ad 0), .int t, .int q] (wR ad cI cJ cZ σ) (some (.int (bI (isW t (nI (gmty σ)) && isW q (nI 4))))) (wR ad cI cJ cZ σ) := by
  refine CM.of (by decide) (Nat.le_of_ble_eq_true rfl) ?_
  intro p e s m below meth c A ls E hr hlk hP hD0 hA hA2 hS hl
  have hD := wR_D hD0
  have hl : lv_has ls 3 [(0, .ref (ad 0)), (1, .int t), (2, .int q)] := hl
  refine lv_iload_n E.1.1 E.1.2.1 dX4_isBody_0 rfl (lv_at hl 1 rfl) ?_
  refine lv_if_lt (tgt := 25) E.1.1 E.1.2.1 dX4_isBody_1 (by decide) (fun h1 => ?_) (fun h1 => ?_)
  · refine lv_iconst (v := nI 0) E.1.1 E.1.2.1 dX4_isBody_25 rfl ?_
    exact CM.retz E hr hlk hA hP hS (er_f (by simp only [isW]; first | (simp [h1]; done) | (simp [h9]; done) | (simp [h13]; done) | (simp [(n_succ_le (n := 3) (by decide) q).mpr h18]; done) | (have h7 : ¬ nI 4 ≤ q := fun z => h18 ((n_succ_le (n := 3) (by decide) q).mp z); simp [h1, h9, h13, h7]))) rfl dX4_isBody_26
  · refine lv_iload_n E.1.1 E.1.2.1 dX4_isBody_4 rfl (lv_at hl 1 rfl) ?_
    refine lv_aload_n E.1.1 E.1.2.1 dX4_isBody_5 rfl (lv_at hl 0 rfl) ?_
    refine gt_X4_types E fl_X4_7 hP dX4_isBody_6 ?_
    refine lv_icmp_ge (tgt := 25) E.1.1 E.1.2.1 dX4_isBody_9 (by decide) (fun h9 => ?_) (fun h9 => ?_)
    · refine lv_iconst (v := nI 0) E.1.1 E.1.2.1 dX4_isBody_25 rfl ?_
      exact CM.retz E hr hlk hA hP hS (er_f (by simp only [isW]; first | (simp [h1]; done) | (simp [h9]; done) | (simp [h13]; done) | (simp [(n_succ_le (n := 3) (by decide) q).mpr h18]; done) | (have h7 : ¬ nI 4 ≤ q := fun z => h18 ((n_succ_le (n := 3) (by decide) q).mp z); simp [h1, h9, h13, h7]))) rfl dX4_isBody_26
    · refine lv_iload_n E.1.1 E.1.2.1 dX4_isBody_12 rfl (lv_at hl 2 rfl) ?_
      refine lv_if_lt (tgt := 25) E.1.1 E.1.2.1 dX4_isBody_13 (by decide) (fun h13 => ?_) (fun h13 => ?_)
      · refine lv_iconst (v := nI 0) E.1.1 E.1.2.1 dX4_isBody_25 rfl ?_
        exact CM.retz E hr hlk hA hP hS (er_f (by simp only [isW]; first | (simp [h1]; done) | (simp [h9]; done) | (simp [h13]; done) | (simp [(n_succ_le (n := 3) (by decide) q).mpr h18]; done) | (have h7 : ¬ nI 4 ≤ q := fun z => h18 ((n_succ_le (n := 3) (by decide) q).mp z); simp [h1, h9, h13, h7]))) rfl dX4_isBody_26
      · refine lv_iload_n E.1.1 E.1.2.1 dX4_isBody_16 rfl (lv_at hl 2 rfl) ?_
        refine lv_iconst (v := nI 3) E.1.1 E.1.2.1 dX4_isBody_17 rfl ?_
        refine lv_icmp_gt (tgt := 25) E.1.1 E.1.2.1 dX4_isBody_18 (by decide) (fun h18 => ?_) (fun h18 => ?_)
        · refine lv_iconst (v := nI 0) E.1.1 E.1.2.1 dX4_isBody_25 rfl ?_
          exact CM.retz E hr hlk hA hP hS (er_f (by simp only [isW]; first | (simp [h1]; done) | (simp [h9]; done) | (simp [h13]; done) | (simp [(n_succ_le (n := 3) (by decide) q).mpr h18]; done) | (have h7 : ¬ nI 4 ≤ q := fun z => h18 ((n_succ_le (n := 3) (by decide) q).mp z); simp [h1, h9, h13, h7]))) rfl dX4_isBody_26
        · refine lv_iconst (v := nI 1) E.1.1 E.1.2.1 dX4_isBody_21 rfl ?_
          refine lv_goto (tgt := 26) E.1.1 E.1.2.1 dX4_isBody_22 (by decide) ?_
          exact CM.retz E hr hlk hA hP hS (er_t (by simp only [isW]; first | (simp [h1]; done) | (simp [h9]; done) | (simp [h13]; done) | (simp [(n_succ_le (n := 3) (by decide) q).mpr h18]; done) | (have h7 : ¬ nI 4 ≤ q := fun z => h18 ((n_succ_le (n := 3) (by decide) q).mp z); simp [h1, h9, h13, h7]))) rfl dX4_isBody_26
set_option maxRecDepth 100000 in
set_option maxHeartbeats 400000 in
theorem c_X4_target (l : Launch) (D : va_G) (cI cJ cZ : ClassId) (ad : Nat → Nat) (σ : MS) (t : Nat) (q : Nat)  (ht : t < 6) (hq : q < 4) (hQ : QI σ) : CM l D (t3 cI cJ cZ) yX4_target cX4_target 4 (some .int) 0 [.ref (ad 0), .int (nI t), .int (nI q)] (wR ad cI cJ cZ σ) (some (.int (oI (tgM σ t q)))) (wR ad cI cJ cZ σ) := by
  refine CM.of (by decide) (Nat.le_of_ble_eq_true rfl) ?_
  intro p e s m below meth c A ls E hr hlk hP hD0 hA hA2 hS hl
  have hD := wR_D hD0
  have hl : lv_has ls 4 [(0, .ref (ad 0)), (1, .int (nI t)), (2, .int (nI q))] := hl
  refine lv_iload_n E.1.1 E.1.2.1 dX4_target_0 rfl (lv_at hl 1 rfl) ?_
  refine lv_aload_n E.1.1 E.1.2.1 dX4_target_1 rfl (lv_at hl 0 rfl) ?_
  refine gt_X4_types E fl_X4_7 hP dX4_target_2 ?_
  refine nv_icmp_ge (by omega) (by have := hQ.2.2; omega) E dX4_target_5 (tgt := 12) (by decide) (fun h5 => ?_) (fun h5 => ?_)
  · refine lv_iconst (v := oI none) E.1.1 E.1.2.1 dX4_target_12 rfl ?_
    refine lv_istore_n (lv' := [(3, .int (oI none)), (0, .ref (ad 0)), (1, .int (nI t)), (2, .int (nI q))]) E.1.1 E.1.2.1 dX4_target_13 rfl hl (by decide) rfl (fun ls hl => ?_)
    have LP14 : ∀ (f : Nat) (o : Option Nat) (H : Heap) (locs : List Loc) (ls : Array Slot), (f ≤ 6) → (∀ j, o = some j → j < f) → (tgM σ t q = mtgF (gmpa σ) (gmmy σ) q f o) → va_P D vwCl (wR ad cI cJ cZ σ) H → va_S A s.heap H locs → lv_has ls 4 [(0, .ref (ad 0)), (1, .int (nI t)), (2, .int (nI q)), (3, .int (oI o))] → W p l e { frames := 0, cells := 0, slots := 0, locals := 40 * 0 } s m [.ref (ad 0), .int (nI t), .int (nI q)].toArray below meth c H locs 0 0 (MQ below (Qcm D (wR ad cI cJ cZ σ) s.heap.size (some (.int (oI (tgM σ t q)))) (wR ad cI cJ cZ σ)) [.ref (ad 0), .int (nI t), .int (nI q)].toArray s 0 0 A) (F0 m 14 ls []) := by
      intro f
      induction f with
      | zero =>
        intro o H locs ls hf ho hv hP hS hl
        refine lv_iload_n E.1.1 E.1.2.1 dX4_target_14 rfl (lv_at hl 3 rfl) ?_
        refine ov_lt0 (o := o) (fun j hj => by have := ho j hj; omega) E dX4_target_15 (tgt := 41) (by decide) (fun h15 => ?_) (fun k15 h15 => ?_)
        · refine lv_iload_n E.1.1 E.1.2.1 dX4_target_41 rfl (lv_at hl 3 rfl) ?_
          refine ov_ge0 (o := o) (by first | (intro j hj; have := ho j hj; omega) | omega) E dX4_target_42 (tgt := 49) (by decide) (fun k42 h42 => ?_) (fun h42 => ?_)
          · exact absurd (h15.symm.trans h42) (by simp)
          · refine lv_iconst (v := -1) E.1.1 E.1.2.1 dX4_target_45 rfl ?_
            refine lv_goto (tgt := 54) E.1.1 E.1.2.1 dX4_target_46 (by decide) ?_
            exact CM.reti E hr hlk hA hP hS (by rw [hv]; first | (rw [h15]; rfl) | (rw [mtgF, if_pos h28]; rfl)) dX4_target_54
        · exact absurd (ho _ h15) (Nat.not_lt_zero _)
      | succ f ih14 =>
        intro o H locs ls hf ho hv hP hS hl
        refine lv_iload_n E.1.1 E.1.2.1 dX4_target_14 rfl (lv_at hl 3 rfl) ?_
        refine ov_lt0 (o := o) (fun j hj => by have := ho j hj; omega) E dX4_target_15 (tgt := 41) (by decide) (fun h15 => ?_) (fun k15 h15 => ?_)
        · refine lv_iload_n E.1.1 E.1.2.1 dX4_target_41 rfl (lv_at hl 3 rfl) ?_
          refine ov_ge0 (o := o) (by first | (intro j hj; have := ho j hj; omega) | omega) E dX4_target_42 (tgt := 49) (by decide) (fun k42 h42 => ?_) (fun h42 => ?_)
          · exact absurd (h15.symm.trans h42) (by simp)
          · refine lv_iconst (v := -1) E.1.1 E.1.2.1 dX4_target_45 rfl ?_
            refine lv_goto (tgt := 54) E.1.1 E.1.2.1 dX4_target_46 (by decide) ?_
            exact CM.reti E hr hlk hA hP hS (by rw [hv]; first | (rw [h15]; rfl) | (rw [mtgF, if_pos h28]; rfl)) dX4_target_54
        · subst h15
          have hk15 := ho _ rfl
          have hl : lv_has ls 4 [(0, .ref (ad 0)), (1, .int (nI t)), (2, .int (nI q)), (3, .int (nI k15))] := hl
          refine lv_aload_n E.1.1 E.1.2.1 dX4_target_18 rfl (lv_at hl 0 rfl) ?_
          refine gt_X4_many E fl_X4_17 hP dX4_target_19 ?_
          refine lv_iconst (v := nI 4) E.1.1 E.1.2.1 dX4_target_22 rfl ?_
          refine lv_iload_n E.1.1 E.1.2.1 dX4_target_23 rfl (lv_at hl 3 rfl) ?_
          refine nv_imul E dX4_target_24 ?_
          refine lv_iload_n E.1.1 E.1.2.1 dX4_target_25 rfl (lv_at hl 2 rfl) ?_
          refine nv_iadd E dX4_target_26 ?_
          refine ld_MS_my (i := (4 * k15) + q) E hP (by omega) dX4_target_27 ?_
          refine nv_if_ne (by have := hQ.2.1 (4 * k15 + q); omega) E dX4_target_28 (tgt := 41) (by decide) (fun h28 => ?_) (fun h28 => ?_)
          · refine lv_iload_n E.1.1 E.1.2.1 dX4_target_41 rfl (lv_at hl 3 rfl) ?_
            refine nv_if_ge (by first | (intro j hj; have := ho j hj; omega) | omega) E dX4_target_42 (tgt := 49) (by decide) ?_
            refine lv_iconst (v := nI 4) E.1.1 E.1.2.1 dX4_target_49 rfl ?_
            refine lv_iload_n E.1.1 E.1.2.1 dX4_target_50 rfl (lv_at hl 3 rfl) ?_
            refine nv_imul E dX4_target_51 ?_
            refine lv_iload_n E.1.1 E.1.2.1 dX4_target_52 rfl (lv_at hl 2 rfl) ?_
            refine nv_iadd E dX4_target_53 ?_
            exact CM.reti E hr hlk hA hP hS (by rw [hv]; first | (rw [h15]; rfl) | (rw [mtgF, if_pos h28]; rfl)) dX4_target_54
          · refine lv_aload_n E.1.1 E.1.2.1 dX4_target_31 rfl (lv_at hl 0 rfl) ?_
            refine gt_X4_parent E fl_X4_13 hP dX4_target_32 ?_
            refine lv_iload_n E.1.1 E.1.2.1 dX4_target_35 rfl (lv_at hl 3 rfl) ?_
            refine ld_MS_pa (i := k15) E hP (by omega) dX4_target_36 ?_
            refine lv_istore_n (lv' := [(3, .int (oI (gmpa σ k15))), (0, .ref (ad 0)), (1, .int (nI t)), (2, .int (nI q))]) E.1.1 E.1.2.1 dX4_target_37 rfl hl (by decide) rfl (fun ls hl => ?_)
            refine lv_goto (tgt := 14) E.1.1 E.1.2.1 dX4_target_38 (by decide) ?_
            exact ih14 (gmpa σ k15) _ _ _ (by omega) (fun j hj => by have := hQ.1 _ j hj; have := ho _ rfl; omega) (by rw [hv, mtgF, if_neg (by omega)]) hP hS (lv_sub hl [1, 2, 3, 0] rfl)
    exact LP14 6 none _ _ _ (by omega) (by intro j hj; cases hj; try exact ht) (by unfold tgM; first | (rw [if_pos h5]; done) | rw [if_neg (by omega)]) hP hS (lv_sub hl [1, 2, 3, 0] rfl)
  · refine lv_iload_n E.1.1 E.1.2.1 dX4_target_8 rfl (lv_at hl 1 rfl) ?_
    refine lv_goto (tgt := 13) E.1.1 E.1.2.1 dX4_target_9 (by decide) ?_
    refine lv_istore_n (lv' := [(3, .int (nI t)), (0, .ref (ad 0)), (1, .int (nI t)), (2, .int (nI q))]) E.1.1 E.1.2.1 dX4_target_13 rfl hl (by decide) rfl (fun ls hl => ?_)
    have LP14 : ∀ (f : Nat) (o : Option Nat) (H : Heap) (locs : List Loc) (ls : Array Slot), (f ≤ 6) → (∀ j, o = some j → j < f) → (tgM σ t q = mtgF (gmpa σ) (gmmy σ) q f o) → va_P D vwCl (wR ad cI cJ cZ σ) H → va_S A s.heap H locs → lv_has ls 4 [(0, .ref (ad 0)), (1, .int (nI t)), (2, .int (nI q)), (3, .int (oI o))] → W p l e { frames := 0, cells := 0, slots := 0, locals := 40 * 0 } s m [.ref (ad 0), .int (nI t), .int (nI q)].toArray below meth c H locs 0 0 (MQ below (Qcm D (wR ad cI cJ cZ σ) s.heap.size (some (.int (oI (tgM σ t q)))) (wR ad cI cJ cZ σ)) [.ref (ad 0), .int (nI t), .int (nI q)].toArray s 0 0 A) (F0 m 14 ls []) := by
      intro f
      induction f with
      | zero =>
        intro o H locs ls hf ho hv hP hS hl
        refine lv_iload_n E.1.1 E.1.2.1 dX4_target_14 rfl (lv_at hl 3 rfl) ?_
        refine ov_lt0 (o := o) (fun j hj => by have := ho j hj; omega) E dX4_target_15 (tgt := 41) (by decide) (fun h15 => ?_) (fun k15 h15 => ?_)
        · refine lv_iload_n E.1.1 E.1.2.1 dX4_target_41 rfl (lv_at hl 3 rfl) ?_
          refine ov_ge0 (o := o) (by first | (intro j hj; have := ho j hj; omega) | omega) E dX4_target_42 (tgt := 49) (by decide) (fun k42 h42 => ?_) (fun h42 => ?_)
          · exact absurd (h15.symm.trans h42) (by simp)
          · refine lv_iconst (v := -1) E.1.1 E.1.2.1 dX4_target_45 rfl ?_
            refine lv_goto (tgt := 54) E.1.1 E.1.2.1 dX4_target_46 (by decide) ?_
            exact CM.reti E hr hlk hA hP hS (by rw [hv]; first | (rw [h15]; rfl) | (rw [mtgF, if_pos h28]; rfl)) dX4_target_54
        · exact absurd (ho _ h15) (Nat.not_lt_zero _)
      | succ f ih14 =>
        intro o H locs ls hf ho hv hP hS hl
        refine lv_iload_n E.1.1 E.1.2.1 dX4_target_14 rfl (lv_at hl 3 rfl) ?_
        refine ov_lt0 (o := o) (fun j hj => by have := ho j hj; omega) E dX4_target_15 (tgt := 41) (by decide) (fun h15 => ?_) (fun k15 h15 => ?_)
        · refine lv_iload_n E.1.1 E.1.2.1 dX4_target_41 rfl (lv_at hl 3 rfl) ?_
          refine ov_ge0 (o := o) (by first | (intro j hj; have := ho j hj; omega) | omega) E dX4_target_42 (tgt := 49) (by decide) (fun k42 h42 => ?_) (fun h42 => ?_)
          · exact absurd (h15.symm.trans h42) (by simp)
          · refine lv_iconst (v := -1) E.1.1 E.1.2.1 dX4_target_45 rfl ?_
            refine lv_goto (tgt := 54) E.1.1 E.1.2.1 dX4_target_46 (by decide) ?_
            exact CM.reti E hr hlk hA hP hS (by rw [hv]; first | (rw [h15]; rfl) | (rw [mtgF, if_pos h28]; rfl)) dX4_target_54
        · subst h15
          have hk15 := ho _ rfl
          have hl : lv_has ls 4 [(0, .ref (ad 0)), (1, .int (nI t)), (2, .int (nI q)), (3, .int (nI k15))] := hl
          refine lv_aload_n E.1.1 E.1.2.1 dX4_target_18 rfl (lv_at hl 0 rfl) ?_
          refine gt_X4_many E fl_X4_17 hP dX4_target_19 ?_
          refine lv_iconst (v := nI 4) E.1.1 E.1.2.1 dX4_target_22 rfl ?_
          refine lv_iload_n E.1.1 E.1.2.1 dX4_target_23 rfl (lv_at hl 3 rfl) ?_
          refine nv_imul E dX4_target_24 ?_
          refine lv_iload_n E.1.1 E.1.2.1 dX4_target_25 rfl (lv_at hl 2 rfl) ?_
          refine nv_iadd E dX4_target_26 ?_
          refine ld_MS_my (i := (4 * k15) + q) E hP (by omega) dX4_target_27 ?_
          refine nv_if_ne (by have := hQ.2.1 (4 * k15 + q); omega) E dX4_target_28 (tgt := 41) (by decide) (fun h28 => ?_) (fun h28 => ?_)
          · refine lv_iload_n E.1.1 E.1.2.1 dX4_target_41 rfl (lv_at hl 3 rfl) ?_
            refine nv_if_ge (by first | (intro j hj; have := ho j hj; omega) | omega) E dX4_target_42 (tgt := 49) (by decide) ?_
            refine lv_iconst (v := nI 4) E.1.1 E.1.2.1 dX4_target_49 rfl ?_
            refine lv_iload_n E.1.1 E.1.2.1 dX4_target_50 rfl (lv_at hl 3 rfl) ?_
            refine nv_imul E dX4_target_51 ?_
            refine lv_iload_n E.1.1 E.1.2.1 dX4_target_52 rfl (lv_at hl 2 rfl) ?_
            refine nv_iadd E dX4_target_53 ?_
            exact CM.reti E hr hlk hA hP hS (by rw [hv]; first | (rw [h15]; rfl) | (rw [mtgF, if_pos h28]; rfl)) dX4_target_54
          · refine lv_aload_n E.1.1 E.1.2.1 dX4_target_31 rfl (lv_at hl 0 rfl) ?_
            refine gt_X4_parent E fl_X4_13 hP dX4_target_32 ?_
            refine lv_iload_n E.1.1 E.1.2.1 dX4_target_35 rfl (lv_at hl 3 rfl) ?_
            refine ld_MS_pa (i := k15) E hP (by omega) dX4_target_36 ?_
            refine lv_istore_n (lv' := [(3, .int (oI (gmpa σ k15))), (0, .ref (ad 0)), (1, .int (nI t)), (2, .int (nI q))]) E.1.1 E.1.2.1 dX4_target_37 rfl hl (by decide) rfl (fun ls hl => ?_)
            refine lv_goto (tgt := 14) E.1.1 E.1.2.1 dX4_target_38 (by decide) ?_
            exact ih14 (gmpa σ k15) _ _ _ (by omega) (fun j hj => by have := hQ.1 _ j hj; have := ho _ rfl; omega) (by rw [hv, mtgF, if_neg (by omega)]) hP hS (lv_sub hl [1, 2, 3, 0] rfl)
    exact LP14 6 (some t) _ _ _ (by omega) (by intro j hj; cases hj; try exact ht) (by unfold tgM; first | (rw [if_pos h5]; done) | rw [if_neg (by omega)]) hP hS (lv_sub hl [1, 2, 3, 0] rfl)
set_option maxRecDepth 100000 in
set_option maxHeartbeats 400000 in
theorem c_X4_at (l : Launch) (D : va_G) (cI cJ cZ : ClassId) (ad : Nat → Nat) (σ : MS) (b : Nat) (k : Nat) (w : Nat)  (hi : 40 * b + 4 * k + w < 960) : CM l D (t3 cI cJ cZ) yX4_at cX4_at 4 (some .int) 0 [.ref (ad 0), .int (nI b), .int (nI k), .int (nI w)] (wR ad cI cJ cZ σ) (some (.int (gmcd σ (40 * b + 4 * k + w)))) (wR ad cI cJ cZ σ) := by
  refine CM.of (by decide) (Nat.le_of_ble_eq_true rfl) ?_
  intro p e s m below meth c A ls E hr hlk hP hD0 hA hA2 hS hl
  have hD := wR_D hD0
  have hl : lv_has ls 4 [(0, .ref (ad 0)), (1, .int (nI b)), (2, .int (nI k)), (3, .int (nI w))] := hl
  refine lv_aload_n E.1.1 E.1.2.1 dX4_at_0 rfl (lv_at hl 0 rfl) ?_
  refine gt_X4_code E fl_X4_20 hP dX4_at_1 ?_
  refine lv_bipush (v := nI 40) E.1.1 E.1.2.1 dX4_at_4 rfl ?_
  refine lv_iload_n E.1.1 E.1.2.1 dX4_at_6 rfl (lv_at hl 1 rfl) ?_
  refine nv_imul E dX4_at_7 ?_
  refine lv_iconst (v := nI 4) E.1.1 E.1.2.1 dX4_at_8 rfl ?_
  refine lv_iload_n E.1.1 E.1.2.1 dX4_at_9 rfl (lv_at hl 2 rfl) ?_
  refine nv_imul E dX4_at_10 ?_
  refine nv_iadd E dX4_at_11 ?_
  refine lv_iload_n E.1.1 E.1.2.1 dX4_at_12 rfl (lv_at hl 3 rfl) ?_
  refine nv_iadd E dX4_at_13 ?_
  refine ld_MS_cd (i := ((40 * b) + (4 * k)) + w) E hP (by omega) dX4_at_14 ?_
  exact CM.reti E hr hlk hA hP hS rfl dX4_at_15
set_option maxRecDepth 100000 in
set_option maxHeartbeats 400000 in
theorem c_X4_siteOf (l : Launch) (D : va_G) (cI cJ cZ : ClassId) (ad : Nat → Nat) (σ : MS) (b : Nat) (k : Nat)  (hb : b < 24) (hk : k < 10) : CM l D (t3 cI cJ cZ) yX4_siteOf cX4_siteOf 3 (some .int) 0 [.ref (ad 0), .int (nI b), .int (nI k)] (wR ad cI cJ cZ σ) (some (.int (nI (siF σ b k)))) (wR ad cI cJ cZ σ) := by
  refine CM.of (by decide) (Nat.le_of_ble_eq_true rfl) ?_
  intro p e s m below meth c A ls E hr hlk hP hD0 hA hA2 hS hl
  have hD := wR_D hD0
  have hl : lv_has ls 3 [(0, .ref (ad 0)), (1, .int (nI b)), (2, .int (nI k))] := hl
  refine lv_aload_n E.1.1 E.1.2.1 dX4_siteOf_0 rfl (lv_at hl 0 rfl) ?_
  refine gt_X4_reached E fl_X4_27 hP dX4_siteOf_1 ?_
  refine lv_iload_n E.1.1 E.1.2.1 dX4_siteOf_4 rfl (lv_at hl 1 rfl) ?_
  refine ld_MS_rd (i := b) E hP (by omega) dX4_siteOf_5 ?_
  refine bv_if_eq (x := gmrd σ b) E dX4_siteOf_6 (tgt := 32) (by decide) (fun h6 => ?_) (fun h6 => ?_)
  · refine lv_iconst (v := nI 0) E.1.1 E.1.2.1 dX4_siteOf_32 rfl ?_
    exact CM.reti E hr hlk hA hP hS (by unfold siF; first | (rw [if_pos ⟨h6, h15⟩]; done) | (rw [if_neg (by intro z; first | exact absurd (h6.symm.trans z.1) (by decide) | exact absurd (h15.symm.trans z.2) (by decide))])) dX4_siteOf_33
  · refine lv_aload_n E.1.1 E.1.2.1 dX4_siteOf_9 rfl (lv_at hl 0 rfl) ?_
    refine gt_X4_changed E fl_X4_30 hP dX4_siteOf_10 ?_
    refine lv_iload_n E.1.1 E.1.2.1 dX4_siteOf_13 rfl (lv_at hl 1 rfl) ?_
    refine ld_MS_ch (i := b) E hP (by omega) dX4_siteOf_14 ?_
    refine bv_if_ne (x := gmch σ b) E dX4_siteOf_15 (tgt := 32) (by decide) (fun h15 => ?_) (fun h15 => ?_)
    · refine lv_iconst (v := nI 0) E.1.1 E.1.2.1 dX4_siteOf_32 rfl ?_
      exact CM.reti E hr hlk hA hP hS (by unfold siF; first | (rw [if_pos ⟨h6, h15⟩]; done) | (rw [if_neg (by intro z; first | exact absurd (h6.symm.trans z.1) (by decide) | exact absurd (h15.symm.trans z.2) (by decide))])) dX4_siteOf_33
    · refine lv_aload_n E.1.1 E.1.2.1 dX4_siteOf_18 rfl (lv_at hl 0 rfl) ?_
      refine gt_X4_sites E fl_X4_33 hP dX4_siteOf_19 ?_
      refine lv_bipush (v := nI 10) E.1.1 E.1.2.1 dX4_siteOf_22 rfl ?_
      refine lv_iload_n E.1.1 E.1.2.1 dX4_siteOf_24 rfl (lv_at hl 1 rfl) ?_
      refine nv_imul E dX4_siteOf_25 ?_
      refine lv_iload_n E.1.1 E.1.2.1 dX4_siteOf_26 rfl (lv_at hl 2 rfl) ?_
      refine nv_iadd E dX4_siteOf_27 ?_
      refine ld_MS_si (i := (10 * b) + k) E hP (by omega) dX4_siteOf_28 ?_
      refine lv_goto (tgt := 33) E.1.1 E.1.2.1 dX4_siteOf_29 (by decide) ?_
      exact CM.reti E hr hlk hA hP hS (by unfold siF; first | (rw [if_pos ⟨h6, h15⟩]; done) | (rw [if_neg (by intro z; first | exact absurd (h6.symm.trans z.1) (by decide) | exact absurd (h15.symm.trans z.2) (by decide))])) dX4_siteOf_33
set_option maxRecDepth 100000 in
set_option maxHeartbeats 400000 in
theorem c_X4_set (l : Launch) (D : va_G) (cI cJ cZ : ClassId) (ad : Nat → Nat) (σ : MS) (i : Nat) (b : Bool) (v : Int32)  (hi : i < 78) : CM l D (t3 cI cJ cZ) yX4_set cX4_set 4 none 0 [.ref (ad 0), .int (nI i), .int (bI b), .int v] (wR ad cI cJ cZ σ) (none) (wR ad cI cJ cZ (seF i b v σ)) := by
  refine CM.of (by decide) (Nat.le_of_ble_eq_true rfl) ?_
  intro p e s m below meth c A ls E hr hlk hP hD0 hA hA2 hS hl
  have hD := wR_D hD0
  have hl : lv_has ls 4 [(0, .ref (ad 0)), (1, .int (nI i)), (2, .int (bI b)), (3, .int v)] := hl
  refine lv_aload_n E.1.1 E.1.2.1 dX4_set_0 rfl (lv_at hl 0 rfl) ?_
  refine gt_X4_is E fl_X4_57 hP dX4_set_1 ?_
  refine lv_iload_n E.1.1 E.1.2.1 dX4_set_4 rfl (lv_at hl 1 rfl) ?_
  refine lv_iload_n E.1.1 E.1.2.1 dX4_set_5 rfl (lv_at hl 2 rfl) ?_
  refine as_MS_is (i := i) (v := b) E hP hD hS (by omega) dX4_set_6 (fun H locs hP hS => ?_)
  refine lv_aload_n E.1.1 E.1.2.1 dX4_set_7 rfl (lv_at hl 0 rfl) ?_
  refine gt_X4_value E fl_X4_60 hP dX4_set_8 ?_
  refine lv_iload_n E.1.1 E.1.2.1 dX4_set_11 rfl (lv_at hl 1 rfl) ?_
  refine lv_iload_n E.1.1 E.1.2.1 dX4_set_12 rfl (lv_at hl 3 rfl) ?_
  refine as_MS_va (i := i) (v := v) E hP hD hS (by omega) dX4_set_13 (fun H locs hP hS => ?_)
  have hP : va_P D vwCl (wR ad cI cJ cZ (smva (smis σ (va_up (gmis σ) i b)) (va_up (gmva σ) i v))) H := by have q9 := hP; rw [hs_va_is] at q9; exact q9
  exact CM.retv E hr hlk hA (by unfold seF; exact hP) hS rfl dX4_set_14
set_option maxRecDepth 100000 in
set_option maxHeartbeats 400000 in
theorem c_X4_answers (l : Launch) (D : va_G) (cI cJ cZ : ClassId) (ad : Nat → Nat) (σ : MS) (b : Bool) (v : Int32)  (hf : 0 < gmfr σ) (hf2 : gmfr σ ≤ 12) (hw : ∀ i, gmwa σ i < 6) : CM l D (t3 cI cJ cZ) yX4_answers cX4_answers 3 none 1 [.ref (ad 0), .int (bI b), .int v] (wR ad cI cJ cZ σ) (none) (wR ad cI cJ cZ (awF b v σ)) := by
  refine CM.of (by decide) (Nat.le_of_ble_eq_true rfl) ?_
  intro p e s m below meth c A ls E hr hlk hP hD0 hA hA2 hS hl
  have hD := wR_D hD0
  have hl : lv_has ls 3 [(0, .ref (ad 0)), (1, .int (bI b)), (2, .int v)] := hl
  refine lv_aload_n E.1.1 E.1.2.1 dX4_answers_0 rfl (lv_at hl 0 rfl) ?_
  refine lv_dup E.1.1 E.1.2.1 dX4_answers_1 rfl ?_
  refine gt_X4_frames E fl_X4_125 hP dX4_answers_2 ?_
  refine lv_iconst (v := nI 1) E.1.1 E.1.2.1 dX4_answers_5 rfl ?_
  refine nv_isub (by omega) E dX4_answers_6 ?_
  refine pt_X4_frames (v := (gmfr σ) - 1) E fl_X4_125 hP hD hS dX4_answers_7 (fun H locs hP hS => ?_)
  refine lv_aload_n E.1.1 E.1.2.1 dX4_answers_10 rfl (lv_at hl 0 rfl) ?_
  refine gt_X4_frames E fl_X4_125 hP dX4_answers_11 ?_
  refine tpi (y := nI ((gmfr σ) - 1)) (by rw [hs_fr_fr]) ?_
  refine nv_if_ne (by omega) E dX4_answers_14 (tgt := 18) (by decide) (fun h14 => ?_) (fun h14 => ?_)
  · refine lv_aload_n E.1.1 E.1.2.1 dX4_answers_18 rfl (lv_at hl 0 rfl) ?_
    refine lv_bipush (v := nI 6) E.1.1 E.1.2.1 dX4_answers_19 rfl ?_
    refine lv_aload_n E.1.1 E.1.2.1 dX4_answers_21 rfl (lv_at hl 0 rfl) ?_
    refine gt_X4_frames E fl_X4_125 hP dX4_answers_22 ?_
    refine tpi (y := nI ((gmfr σ) - 1)) (by rw [hs_fr_fr]) ?_
    refine lv_iconst (v := nI 1) E.1.1 E.1.2.1 dX4_answers_25 rfl ?_
    refine nv_isub (by omega) E dX4_answers_26 ?_
    refine nv_imul E dX4_answers_27 ?_
    refine lv_aload_n E.1.1 E.1.2.1 dX4_answers_28 rfl (lv_at hl 0 rfl) ?_
    refine gt_X4_wants E fl_X4_54 hP dX4_answers_29 ?_
    refine lv_aload_n E.1.1 E.1.2.1 dX4_answers_32 rfl (lv_at hl 0 rfl) ?_
    refine gt_X4_frames E fl_X4_125 hP dX4_answers_33 ?_
    refine tpi (y := nI ((gmfr σ) - 1)) (by rw [hs_fr_fr]) ?_
    refine ld_MS_wa (i := (gmfr σ) - 1) E hP (by omega) dX4_answers_36 ?_
    refine tpi (y := nI (gmwa σ ((gmfr σ) - 1))) (by rw [hs_wa_fr]) ?_
    refine nv_iadd E dX4_answers_37 ?_
    refine lv_iload_n E.1.1 E.1.2.1 dX4_answers_38 rfl (lv_at hl 1 rfl) ?_
    refine lv_iload_n E.1.1 E.1.2.1 dX4_answers_39 rfl (lv_at hl 2 rfl) ?_
    refine CM.callVv (n := 3) E (c_X4_set l D cI cJ cZ ad (smfr σ ((gmfr σ) - 1)) ((6 * (((gmfr σ) - 1) - 1)) + (gmwa σ ((gmfr σ) - 1))) b v (by have := hw (gmfr σ - 1); omega)) ml_X4_128 im_X4_set se_X4_set ini_X4 co_X4_set hd_X4_set ⟨Nat.le_of_ble_eq_true rfl, Nat.le_of_ble_eq_true rfl⟩ ⟨Nat.le_refl _, Nat.le_refl _⟩ 0 rfl rfl hP (hD _) hS hA2 rfl hl.1 (Nat.le_of_ble_eq_true rfl) dX4_answers_40 rfl (fun H locs hP hS => ?_)
    exact CM.retv E hr hlk hA (by unfold awF; rw [if_neg (by omega)]; exact hP) hS rfl dX4_answers_43
  · exact CM.retv E hr hlk hA (by unfold awF; rw [if_pos h14]; exact hP) hS rfl dX4_answers_17
set_option maxRecDepth 100000 in
set_option maxHeartbeats 400000 in
theorem c_X4_isGood (l : Launch) (D : va_G) (cI cJ cZ : ClassId) (ad : Nat → Nat) (σ : MS) (k : Int32) (x : Int32) (y : Int32) (z : Int32)   : CM l D (t3 cI cJ cZ) yX4_isGood cX4_isGood 4 (some .boolean) 1 [.int k, .int x, .int y, .int z] (wR ad cI cJ cZ σ) (some (.int (bI (wfF k x y z)))) (wR ad cI cJ cZ σ) := by
  refine CM.of (by decide) (Nat.le_of_ble_eq_true rfl) ?_
  intro p e s m below meth c A ls E hr hlk hP hD0 hA hA2 hS hl
  have hD := wR_D hD0
  have hl : lv_has ls 4 [(0, .int k), (1, .int x), (2, .int y), (3, .int z)] := hl
  refine lv_iload_n E.1.1 E.1.2.1 dX4_isGood_0 rfl (lv_at hl 0 rfl) ?_
  refine lv_iconst (v := nI 0) E.1.1 E.1.2.1 dX4_isGood_1 rfl ?_
  refine lv_bipush (v := nI 11) E.1.1 E.1.2.1 dX4_isGood_2 rfl ?_
  refine CM.callSi (n := 3) E (c_X4_outside l D cI cJ cZ ad σ k (nI 0) (nI 11)) ml_X4_72 st_X4_outside ini_X4 co_X4_outside hd_X4_outside ⟨Nat.le_of_ble_eq_true rfl, Nat.le_of_ble_eq_true rfl⟩ ⟨Nat.le_refl _, Nat.le_refl _⟩ hP (hD _) hS hA2 rfl hl.1 (Nat.le_of_ble_eq_true rfl) dX4_isGood_4 rfl (fun H locs hP hS => ?_)
  refine W.eq (g2 := F0 m 7 ls [.int (bI (ouF k (nI 0) (nI 11)))]) rfl ?_
  refine bv_if_ne (x := (ouF k (nI 0) (nI 11))) E dX4_isGood_7 (tgt := 17) (by decide) (fun h7 => ?_) (fun h7 => ?_)
  · refine lv_iconst (v := nI 0) E.1.1 E.1.2.1 dX4_isGood_17 rfl ?_
    exact CM.retz E hr hlk hA hP hS (er_f (by first | (simp only [wfF, h14, Bool.false_and]) | (simp only [wfF]; rw [wfK_no h7]; simp))) rfl dX4_isGood_18
  · refine lv_iload_n E.1.1 E.1.2.1 dX4_isGood_10 rfl (lv_at hl 1 rfl) ?_
    refine CM.callSi (n := 1) E (c_X4_isRegister l D cI cJ cZ ad σ x) ml_X4_80 st_X4_isRegister ini_X4 co_X4_isRegister hd_X4_isRegister ⟨Nat.le_of_ble_eq_true rfl, Nat.le_of_ble_eq_true rfl⟩ ⟨Nat.le_refl _, Nat.le_refl _⟩ hP (hD _) hS hA2 rfl hl.1 (Nat.le_of_ble_eq_true rfl) dX4_isGood_11 rfl (fun H locs hP hS => ?_)
    refine bv_if_ne (x := isW x (nI 6)) E dX4_isGood_14 (tgt := 19) (by decide) (fun h14 => ?_) (fun h14 => ?_)
    · refine lv_iload_n E.1.1 E.1.2.1 dX4_isGood_19 rfl (lv_at hl 0 rfl) ?_
      rcases sw12 k with h20 | h20 | h20 | h20 | h20 | h20 | h20 | h20 | h20 | h20 | h20 | h20 | h20
      · subst h20
        refine lv_tableOut (tgt := 174) E.1.1 E.1.2.1 dX4_isGood_20 (by decide) (by decide) ?_
        refine lv_iconst (v := nI 1) E.1.1 E.1.2.1 dX4_isGood_174 rfl ?_
        exact CM.retz E hr hlk hA hP hS (er_t (by simp only [wfF, h14, wfK_0, wfK_8, wfK_11]; simp)) rfl dX4_isGood_175
      · subst h20
        refine lv_tableIn (off := 56) (tgt := 76) E.1.1 E.1.2.1 dX4_isGood_20 (by decide) (by decide) (by decide) (by decide) ?_
        refine lv_iload_n E.1.1 E.1.2.1 dX4_isGood_76 rfl (lv_at hl 2 rfl) ?_
        refine CM.callSi (n := 1) E (c_X4_isRegister l D cI cJ cZ ad σ y) ml_X4_80 st_X4_isRegister ini_X4 co_X4_isRegister hd_X4_isRegister ⟨Nat.le_of_ble_eq_true rfl, Nat.le_of_ble_eq_true rfl⟩ ⟨Nat.le_refl _, Nat.le_refl _⟩ hP (hD _) hS hA2 rfl hl.1 (Nat.le_of_ble_eq_true rfl) dX4_isGood_77 rfl (fun H locs hP hS => ?_)
        exact CM.retz E hr hlk hA hP hS (by simp only [wfF, h14, wfK_1, Bool.true_and]) (bI_n _) dX4_isGood_80
      · subst h20
        refine lv_tableIn (off := 61) (tgt := 81) E.1.1 E.1.2.1 dX4_isGood_20 (by decide) (by decide) (by decide) (by decide) ?_
        refine lv_iload_n E.1.1 E.1.2.1 dX4_isGood_81 rfl (lv_at hl 2 rfl) ?_
        refine CM.callSi (n := 1) E (c_X4_isRegister l D cI cJ cZ ad σ y) ml_X4_80 st_X4_isRegister ini_X4 co_X4_isRegister hd_X4_isRegister ⟨Nat.le_of_ble_eq_true rfl, Nat.le_of_ble_eq_true rfl⟩ ⟨Nat.le_refl _, Nat.le_refl _⟩ hP (hD _) hS hA2 rfl hl.1 (Nat.le_of_ble_eq_true rfl) dX4_isGood_82 rfl (fun H locs hP hS => ?_)
        refine bv_if_eq (x := isW y (nI 6)) E dX4_isGood_85 (tgt := 99) (by decide) (fun h85 => ?_) (fun h85 => ?_)
        · refine lv_iconst (v := nI 0) E.1.1 E.1.2.1 dX4_isGood_99 rfl ?_
          exact CM.retz E hr hlk hA hP hS (er_f (by simp only [wfF, h14, wfK_2, wfK_3, *]; simp)) rfl dX4_isGood_100
        · refine lv_iload_n E.1.1 E.1.2.1 dX4_isGood_88 rfl (lv_at hl 3 rfl) ?_
          refine CM.callSi (n := 1) E (c_X4_isRegister l D cI cJ cZ ad σ z) ml_X4_80 st_X4_isRegister ini_X4 co_X4_isRegister hd_X4_isRegister ⟨Nat.le_of_ble_eq_true rfl, Nat.le_of_ble_eq_true rfl⟩ ⟨Nat.le_refl _, Nat.le_refl _⟩ hP (hD _) hS hA2 rfl hl.1 (Nat.le_of_ble_eq_true rfl) dX4_isGood_89 rfl (fun H locs hP hS => ?_)
          refine bv_if_eq (x := isW z (nI 6)) E dX4_isGood_92 (tgt := 99) (by decide) (fun h92 => ?_) (fun h92 => ?_)
          · refine lv_iconst (v := nI 0) E.1.1 E.1.2.1 dX4_isGood_99 rfl ?_
            exact CM.retz E hr hlk hA hP hS (er_f (by simp only [wfF, h14, wfK_2, wfK_3, *]; simp)) rfl dX4_isGood_100
          · refine lv_iconst (v := nI 1) E.1.1 E.1.2.1 dX4_isGood_95 rfl ?_
            refine lv_goto (tgt := 100) E.1.1 E.1.2.1 dX4_isGood_96 (by decide) ?_
            exact CM.retz E hr hlk hA hP hS (er_t (by simp only [wfF, h14, wfK_2, wfK_3, *]; simp)) rfl dX4_isGood_100
      · subst h20
        refine lv_tableIn (off := 61) (tgt := 81) E.1.1 E.1.2.1 dX4_isGood_20 (by decide) (by decide) (by decide) (by decide) ?_
        refine lv_iload_n E.1.1 E.1.2.1 dX4_isGood_81 rfl (lv_at hl 2 rfl) ?_
        refine CM.callSi (n := 1) E (c_X4_isRegister l D cI cJ cZ ad σ y) ml_X4_80 st_X4_isRegister ini_X4 co_X4_isRegister hd_X4_isRegister ⟨Nat.le_of_ble_eq_true rfl, Nat.le_of_ble_eq_true rfl⟩ ⟨Nat.le_refl _, Nat.le_refl _⟩ hP (hD _) hS hA2 rfl hl.1 (Nat.le_of_ble_eq_true rfl) dX4_isGood_82 rfl (fun H locs hP hS => ?_)
        refine bv_if_eq (x := isW y (nI 6)) E dX4_isGood_85 (tgt := 99) (by decide) (fun h85 => ?_) (fun h85 => ?_)
        · refine lv_iconst (v := nI 0) E.1.1 E.1.2.1 dX4_isGood_99 rfl ?_
          exact CM.retz E hr hlk hA hP hS (er_f (by simp only [wfF, h14, wfK_2, wfK_3, *]; simp)) rfl dX4_isGood_100
        · refine lv_iload_n E.1.1 E.1.2.1 dX4_isGood_88 rfl (lv_at hl 3 rfl) ?_
          refine CM.callSi (n := 1) E (c_X4_isRegister l D cI cJ cZ ad σ z) ml_X4_80 st_X4_isRegister ini_X4 co_X4_isRegister hd_X4_isRegister ⟨Nat.le_of_ble_eq_true rfl, Nat.le_of_ble_eq_true rfl⟩ ⟨Nat.le_refl _, Nat.le_refl _⟩ hP (hD _) hS hA2 rfl hl.1 (Nat.le_of_ble_eq_true rfl) dX4_isGood_89 rfl (fun H locs hP hS => ?_)
          refine bv_if_eq (x := isW z (nI 6)) E dX4_isGood_92 (tgt := 99) (by decide) (fun h92 => ?_) (fun h92 => ?_)
          · refine lv_iconst (v := nI 0) E.1.1 E.1.2.1 dX4_isGood_99 rfl ?_
            exact CM.retz E hr hlk hA hP hS (er_f (by simp only [wfF, h14, wfK_2, wfK_3, *]; simp)) rfl dX4_isGood_100
          · refine lv_iconst (v := nI 1) E.1.1 E.1.2.1 dX4_isGood_95 rfl ?_
            refine lv_goto (tgt := 100) E.1.1 E.1.2.1 dX4_isGood_96 (by decide) ?_
            exact CM.retz E hr hlk hA hP hS (er_t (by simp only [wfF, h14, wfK_2, wfK_3, *]; simp)) rfl dX4_isGood_100
      · subst h20
        refine lv_tableIn (off := 81) (tgt := 101) E.1.1 E.1.2.1 dX4_isGood_20 (by decide) (by decide) (by decide) (by decide) ?_
        refine lv_iload_n E.1.1 E.1.2.1 dX4_isGood_101 rfl (lv_at hl 2 rfl) ?_
        refine lv_iconst (v := nI 0) E.1.1 E.1.2.1 dX4_isGood_102 rfl ?_
        refine lv_iconst (v := nI 5) E.1.1 E.1.2.1 dX4_isGood_103 rfl ?_
        refine CM.callSi (n := 3) E (c_X4_outside l D cI cJ cZ ad σ y (nI 0) (nI 5)) ml_X4_72 st_X4_outside ini_X4 co_X4_outside hd_X4_outside ⟨Nat.le_of_ble_eq_true rfl, Nat.le_of_ble_eq_true rfl⟩ ⟨Nat.le_refl _, Nat.le_refl _⟩ hP (hD _) hS hA2 rfl hl.1 (Nat.le_of_ble_eq_true rfl) dX4_isGood_104 rfl (fun H locs hP hS => ?_)
        refine bv_if_ne (x := ouF y (nI 0) (nI 5)) E dX4_isGood_107 (tgt := 114) (by decide) (fun h107 => ?_) (fun h107 => ?_)
        · refine lv_iconst (v := nI 0) E.1.1 E.1.2.1 dX4_isGood_114 rfl ?_
          exact CM.retz E hr hlk hA hP hS (er_f (by simp only [wfF, h14, wfK_4, wfK_10]; rw [ou_isW (by decide)] at h107; simpa using h107)) rfl dX4_isGood_115
        · refine lv_iconst (v := nI 1) E.1.1 E.1.2.1 dX4_isGood_110 rfl ?_
          refine lv_goto (tgt := 115) E.1.1 E.1.2.1 dX4_isGood_111 (by decide) ?_
          exact CM.retz E hr hlk hA hP hS (er_t (by simp only [wfF, h14, wfK_4, wfK_10]; rw [ou_isW (by decide)] at h107; simpa using h107)) rfl dX4_isGood_115
      · subst h20
        refine lv_tableIn (off := 96) (tgt := 116) E.1.1 E.1.2.1 dX4_isGood_20 (by decide) (by decide) (by decide) (by decide) ?_
        refine lv_iload_n E.1.1 E.1.2.1 dX4_isGood_116 rfl (lv_at hl 2 rfl) ?_
        refine CM.callSi (n := 1) E (c_X4_isRegister l D cI cJ cZ ad σ y) ml_X4_80 st_X4_isRegister ini_X4 co_X4_isRegister hd_X4_isRegister ⟨Nat.le_of_ble_eq_true rfl, Nat.le_of_ble_eq_true rfl⟩ ⟨Nat.le_refl _, Nat.le_refl _⟩ hP (hD _) hS hA2 rfl hl.1 (Nat.le_of_ble_eq_true rfl) dX4_isGood_117 rfl (fun H locs hP hS => ?_)
        refine bv_if_eq (x := isW y (nI 6)) E dX4_isGood_120 (tgt := 134) (by decide) (fun h120 => ?_) (fun h120 => ?_)
        · refine lv_iconst (v := nI 0) E.1.1 E.1.2.1 dX4_isGood_134 rfl ?_
          exact CM.retz E hr hlk hA hP hS (er_f (by simp only [wfF, h14, wfK_5, wfK_6, *]; simp)) rfl dX4_isGood_135
        · refine lv_iload_n E.1.1 E.1.2.1 dX4_isGood_123 rfl (lv_at hl 3 rfl) ?_
          refine CM.callSi (n := 1) E (c_X4_isField l D cI cJ cZ ad σ z) ml_X4_84 st_X4_isField ini_X4 co_X4_isField hd_X4_isField ⟨Nat.le_of_ble_eq_true rfl, Nat.le_of_ble_eq_true rfl⟩ ⟨Nat.le_refl _, Nat.le_refl _⟩ hP (hD _) hS hA2 rfl hl.1 (Nat.le_of_ble_eq_true rfl) dX4_isGood_124 rfl (fun H locs hP hS => ?_)
          refine bv_if_eq (x := isW z (nI 3)) E dX4_isGood_127 (tgt := 134) (by decide) (fun h127 => ?_) (fun h127 => ?_)
          · refine lv_iconst (v := nI 0) E.1.1 E.1.2.1 dX4_isGood_134 rfl ?_
            exact CM.retz E hr hlk hA hP hS (er_f (by simp only [wfF, h14, wfK_5, wfK_6, *]; simp)) rfl dX4_isGood_135
          · refine lv_iconst (v := nI 1) E.1.1 E.1.2.1 dX4_isGood_130 rfl ?_
            refine lv_goto (tgt := 135) E.1.1 E.1.2.1 dX4_isGood_131 (by decide) ?_
            exact CM.retz E hr hlk hA hP hS (er_t (by simp only [wfF, h14, wfK_5, wfK_6, *]; simp)) rfl dX4_isGood_135
      · subst h20
        refine lv_tableIn (off := 96) (tgt := 116) E.1.1 E.1.2.1 dX4_isGood_20 (by decide) (by decide) (by decide) (by decide) ?_
        refine lv_iload_n E.1.1 E.1.2.1 dX4_isGood_116 rfl (lv_at hl 2 rfl) ?_
        refine CM.callSi (n := 1) E (c_X4_isRegister l D cI cJ cZ ad σ y) ml_X4_80 st_X4_isRegister ini_X4 co_X4_isRegister hd_X4_isRegister ⟨Nat.le_of_ble_eq_true rfl, Nat.le_of_ble_eq_true rfl⟩ ⟨Nat.le_refl _, Nat.le_refl _⟩ hP (hD _) hS hA2 rfl hl.1 (Nat.le_of_ble_eq_true rfl) dX4_isGood_117 rfl (fun H locs hP hS => ?_)
        refine bv_if_eq (x := isW y (nI 6)) E dX4_isGood_120 (tgt := 134) (by decide) (fun h120 => ?_) (fun h120 => ?_)
        · refine lv_iconst (v := nI 0) E.1.1 E.1.2.1 dX4_isGood_134 rfl ?_
          exact CM.retz E hr hlk hA hP hS (er_f (by simp only [wfF, h14, wfK_5, wfK_6, *]; simp)) rfl dX4_isGood_135
        · refine lv_iload_n E.1.1 E.1.2.1 dX4_isGood_123 rfl (lv_at hl 3 rfl) ?_
          refine CM.callSi (n := 1) E (c_X4_isField l D cI cJ cZ ad σ z) ml_X4_84 st_X4_isField ini_X4 co_X4_isField hd_X4_isField ⟨Nat.le_of_ble_eq_true rfl, Nat.le_of_ble_eq_true rfl⟩ ⟨Nat.le_refl _, Nat.le_refl _⟩ hP (hD _) hS hA2 rfl hl.1 (Nat.le_of_ble_eq_true rfl) dX4_isGood_124 rfl (fun H locs hP hS => ?_)
          refine bv_if_eq (x := isW z (nI 3)) E dX4_isGood_127 (tgt := 134) (by decide) (fun h127 => ?_) (fun h127 => ?_)
          · refine lv_iconst (v := nI 0) E.1.1 E.1.2.1 dX4_isGood_134 rfl ?_
            exact CM.retz E hr hlk hA hP hS (er_f (by simp only [wfF, h14, wfK_5, wfK_6, *]; simp)) rfl dX4_isGood_135
          · refine lv_iconst (v := nI 1) E.1.1 E.1.2.1 dX4_isGood_130 rfl ?_
            refine lv_goto (tgt := 135) E.1.1 E.1.2.1 dX4_isGood_131 (by decide) ?_
            exact CM.retz E hr hlk hA hP hS (er_t (by simp only [wfF, h14, wfK_5, wfK_6, *]; simp)) rfl dX4_isGood_135
      · subst h20
        refine lv_tableIn (off := 116) (tgt := 136) E.1.1 E.1.2.1 dX4_isGood_20 (by decide) (by decide) (by decide) (by decide) ?_
        refine lv_iload_n E.1.1 E.1.2.1 dX4_isGood_136 rfl (lv_at hl 2 rfl) ?_
        refine CM.callSi (n := 1) E (c_X4_isRegister l D cI cJ cZ ad σ y) ml_X4_80 st_X4_isRegister ini_X4 co_X4_isRegister hd_X4_isRegister ⟨Nat.le_of_ble_eq_true rfl, Nat.le_of_ble_eq_true rfl⟩ ⟨Nat.le_refl _, Nat.le_refl _⟩ hP (hD _) hS hA2 rfl hl.1 (Nat.le_of_ble_eq_true rfl) dX4_isGood_137 rfl (fun H locs hP hS => ?_)
        refine bv_if_eq (x := isW y (nI 6)) E dX4_isGood_140 (tgt := 156) (by decide) (fun h140 => ?_) (fun h140 => ?_)
        · refine lv_iconst (v := nI 0) E.1.1 E.1.2.1 dX4_isGood_156 rfl ?_
          exact CM.retz E hr hlk hA hP hS (er_f (by simp only [wfF, h14, wfK_7, *]; first | (simp; done) | (rw [ou_isW (by decide)] at h149; simpa using h149))) rfl dX4_isGood_157
        · refine lv_iload_n E.1.1 E.1.2.1 dX4_isGood_143 rfl (lv_at hl 3 rfl) ?_
          refine lv_iconst (v := nI 0) E.1.1 E.1.2.1 dX4_isGood_144 rfl ?_
          refine lv_iconst (v := nI 3) E.1.1 E.1.2.1 dX4_isGood_145 rfl ?_
          refine CM.callSi (n := 3) E (c_X4_outside l D cI cJ cZ ad σ z (nI 0) (nI 3)) ml_X4_72 st_X4_outside ini_X4 co_X4_outside hd_X4_outside ⟨Nat.le_of_ble_eq_true rfl, Nat.le_of_ble_eq_true rfl⟩ ⟨Nat.le_refl _, Nat.le_refl _⟩ hP (hD _) hS hA2 rfl hl.1 (Nat.le_of_ble_eq_true rfl) dX4_isGood_146 rfl (fun H locs hP hS => ?_)
          refine bv_if_ne (x := ouF z (nI 0) (nI 3)) E dX4_isGood_149 (tgt := 156) (by decide) (fun h149 => ?_) (fun h149 => ?_)
          · refine lv_iconst (v := nI 0) E.1.1 E.1.2.1 dX4_isGood_156 rfl ?_
            exact CM.retz E hr hlk hA hP hS (er_f (by simp only [wfF, h14, wfK_7, *]; first | (simp; done) | (rw [ou_isW (by decide)] at h149; simpa using h149))) rfl dX4_isGood_157
          · refine lv_iconst (v := nI 1) E.1.1 E.1.2.1 dX4_isGood_152 rfl ?_
            refine lv_goto (tgt := 157) E.1.1 E.1.2.1 dX4_isGood_153 (by decide) ?_
            exact CM.retz E hr hlk hA hP hS (er_t (by simp only [wfF, h14, wfK_7, *]; first | (simp; done) | (rw [ou_isW (by decide)] at h149; simpa using h149))) rfl dX4_isGood_157
      · subst h20
        refine lv_tableIn (off := 154) (tgt := 174) E.1.1 E.1.2.1 dX4_isGood_20 (by decide) (by decide) (by decide) (by decide) ?_
        refine lv_iconst (v := nI 1) E.1.1 E.1.2.1 dX4_isGood_174 rfl ?_
        exact CM.retz E hr hlk hA hP hS (er_t (by simp only [wfF, h14, wfK_0, wfK_8, wfK_11]; simp)) rfl dX4_isGood_175
      · subst h20
        refine lv_tableIn (off := 138) (tgt := 158) E.1.1 E.1.2.1 dX4_isGood_20 (by decide) (by decide) (by decide) (by decide) ?_
        refine lv_iload_n E.1.1 E.1.2.1 dX4_isGood_158 rfl (lv_at hl 2 rfl) ?_
        refine lv_iconst (v := nI 0) E.1.1 E.1.2.1 dX4_isGood_159 rfl ?_
        refine lv_bipush (v := nI 9) E.1.1 E.1.2.1 dX4_isGood_160 rfl ?_
        refine CM.callSi (n := 3) E (c_X4_outside l D cI cJ cZ ad σ y (nI 0) (nI 9)) ml_X4_72 st_X4_outside ini_X4 co_X4_outside hd_X4_outside ⟨Nat.le_of_ble_eq_true rfl, Nat.le_of_ble_eq_true rfl⟩ ⟨Nat.le_refl _, Nat.le_refl _⟩ hP (hD _) hS hA2 rfl hl.1 (Nat.le_of_ble_eq_true rfl) dX4_isGood_162 rfl (fun H locs hP hS => ?_)
        refine bv_if_ne (x := ouF y (nI 0) (nI 9)) E dX4_isGood_165 (tgt := 172) (by decide) (fun h165 => ?_) (fun h165 => ?_)
        · refine lv_iconst (v := nI 0) E.1.1 E.1.2.1 dX4_isGood_172 rfl ?_
          exact CM.retz E hr hlk hA hP hS (er_f (by simp only [wfF, h14, wfK_9]; rw [ou_isW (by decide)] at h165; simpa using h165)) rfl dX4_isGood_173
        · refine lv_iconst (v := nI 1) E.1.1 E.1.2.1 dX4_isGood_168 rfl ?_
          refine lv_goto (tgt := 173) E.1.1 E.1.2.1 dX4_isGood_169 (by decide) ?_
          exact CM.retz E hr hlk hA hP hS (er_t (by simp only [wfF, h14, wfK_9]; rw [ou_isW (by decide)] at h165; simpa using h165)) rfl dX4_isGood_173
      · subst h20
        refine lv_tableIn (off := 81) (tgt := 101) E.1.1 E.1.2.1 dX4_isGood_20 (by decide) (by decide) (by decide) (by decide) ?_
        refine lv_iload_n E.1.1 E.1.2.1 dX4_isGood_101 rfl (lv_at hl 2 rfl) ?_
        refine lv_iconst (v := nI 0) E.1.1 E.1.2.1 dX4_isGood_102 rfl ?_
        refine lv_iconst (v := nI 5) E.1.1 E.1.2.1 dX4_isGood_103 rfl ?_
        refine CM.callSi (n := 3) E (c_X4_outside l D cI cJ cZ ad σ y (nI 0) (nI 5)) ml_X4_72 st_X4_outside ini_X4 co_X4_outside hd_X4_outside ⟨Nat.le_of_ble_eq_true rfl, Nat.le_of_ble_eq_true rfl⟩ ⟨Nat.le_refl _, Nat.le_refl _⟩ hP (hD _) hS hA2 rfl hl.1 (Nat.le_of_ble_eq_true rfl) dX4_isGood_104 rfl (fun H locs hP hS => ?_)
        refine bv_if_ne (x := ouF y (nI 0) (nI 5)) E dX4_isGood_107 (tgt := 114) (by decide) (fun h107 => ?_) (fun h107 => ?_)
        · refine lv_iconst (v := nI 0) E.1.1 E.1.2.1 dX4_isGood_114 rfl ?_
          exact CM.retz E hr hlk hA hP hS (er_f (by simp only [wfF, h14, wfK_4, wfK_10]; rw [ou_isW (by decide)] at h107; simpa using h107)) rfl dX4_isGood_115
        · refine lv_iconst (v := nI 1) E.1.1 E.1.2.1 dX4_isGood_110 rfl ?_
          refine lv_goto (tgt := 115) E.1.1 E.1.2.1 dX4_isGood_111 (by decide) ?_
          exact CM.retz E hr hlk hA hP hS (er_t (by simp only [wfF, h14, wfK_4, wfK_10]; rw [ou_isW (by decide)] at h107; simpa using h107)) rfl dX4_isGood_115
      · subst h20
        refine lv_tableOut (tgt := 174) E.1.1 E.1.2.1 dX4_isGood_20 (by decide) (by decide) ?_
        refine lv_iconst (v := nI 1) E.1.1 E.1.2.1 dX4_isGood_174 rfl ?_
        exact CM.retz E hr hlk hA hP hS (er_t (by simp only [wfF, h14, wfK_0, wfK_8, wfK_11]; simp)) rfl dX4_isGood_175
      · exact absurd h20 (ou11 h7)
    · refine lv_iconst (v := nI 0) E.1.1 E.1.2.1 dX4_isGood_17 rfl ?_
      exact CM.retz E hr hlk hA hP hS (er_f (by first | (simp only [wfF, h14, Bool.false_and]) | (simp only [wfF]; rw [wfK_no h7]; simp))) rfl dX4_isGood_18
