set_option maxRecDepth 100000 in
set_option maxHeartbeats 4000000 in
theorem c_X2_isIn (l : Launch) (D : va_G) (cI cJ cZ : ClassId) (ad : Nat → Nat) (σ : CS) (a : Nat) (b : Nat)  (ha : a < 4294967296) (hb : b < 32) : CM l D (t3 cI cJ cZ) yX2_isIn cX2_isIn 2 (some .boolean) 0 [.int (nI a), .int (nI b)] (wC ad cI cJ cZ σ) (some (.int (bI (a.testBit b)))) (wC ad cI cJ cZ σ) := by
  refine CM.of (by decide) (Nat.le_of_ble_eq_true rfl) ?_
  intro p e s m below meth c A ls E hr hlk hP hD0 hA hA2 hS hl
  have hD := wC_D hD0
  have hl : lv_has ls 2 [(0, .int (nI a)), (1, .int (nI b))] := hl
  refine lv_iload_n E.1.1 E.1.2.1 dX2_isIn_0 rfl (lv_at hl 0 rfl) ?_
  refine lv_iload_n E.1.1 E.1.2.1 dX2_isIn_1 rfl (lv_at hl 1 rfl) ?_
  refine nv_iushr (by omega) (by omega) E dX2_isIn_2 ?_
  refine lv_iconst (v := nI 1) E.1.1 E.1.2.1 dX2_isIn_3 rfl ?_
  refine nv_iand E dX2_isIn_4 ?_
  refine nv_if_eq (Nat.lt_of_le_of_lt Nat.and_le_right (by decide)) E dX2_isIn_5 (tgt := 12) (by decide) (fun h5 => ?_) (fun h5 => ?_)
  · refine lv_iconst (v := nI 0) E.1.1 E.1.2.1 dX2_isIn_12 rfl ?_
    exact CM.retz E hr hlk hA hP hS (er_f (by first | exact (testBit_and1 a b).mp h5 | exact ts_nf9 (fun z => absurd ((testBit_and1 a b).mpr z) (by omega)))) rfl dX2_isIn_13
  · refine lv_iconst (v := nI 1) E.1.1 E.1.2.1 dX2_isIn_8 rfl ?_
    refine lv_goto (tgt := 13) E.1.1 E.1.2.1 dX2_isIn_9 (by decide) ?_
    exact CM.retz E hr hlk hA hP hS (er_t (by first | exact (testBit_and1 a b).mp h5 | exact ts_nf9 (fun z => absurd ((testBit_and1 a b).mpr z) (by omega)))) rfl dX2_isIn_13
set_option maxRecDepth 100000 in
set_option maxHeartbeats 4000000 in
theorem c_X2_bits (l : Launch) (D : va_G) (cI cJ cZ : ClassId) (ad : Nat → Nat) (σ : CS)    : CM l D (t3 cI cJ cZ) yX2_bits cX2_bits 1 (some .int) 0 [.ref (ad 2)] (wC ad cI cJ cZ σ) (some (.int (nI (gcma σ ||| gcre σ <<< 8)))) (wC ad cI cJ cZ σ) := by
  refine CM.of (by decide) (Nat.le_of_ble_eq_true rfl) ?_
  intro p e s m below meth c A ls E hr hlk hP hD0 hA hA2 hS hl
  have hD := wC_D hD0
  have hl : lv_has ls 1 [(0, .ref (ad 2))] := hl
  refine lv_aload_n E.1.1 E.1.2.1 dX2_bits_0 rfl (lv_at hl 0 rfl) ?_
  refine gt_X2_made E fl_X2_22 hP dX2_bits_1 ?_
  refine lv_aload_n E.1.1 E.1.2.1 dX2_bits_4 rfl (lv_at hl 0 rfl) ?_
  refine gt_X2_reached E fl_X2_26 hP dX2_bits_5 ?_
  refine lv_bipush (v := nI 8) E.1.1 E.1.2.1 dX2_bits_8 rfl ?_
  refine nv_ishl (by omega) E dX2_bits_10 ?_
  refine nv_ior E dX2_bits_11 ?_
  exact CM.reti E hr hlk hA hP hS rfl dX2_bits_12
set_option maxRecDepth 100000 in
set_option maxHeartbeats 4000000 in
theorem c_X2_verdictAt (l : Launch) (D : va_G) (cI cJ cZ : ClassId) (ad : Nat → Nat) (σ : CS) (pl : Nat)  (hpl : pl < 240) : CM l D (t3 cI cJ cZ) yX2_verdictAt cX2_verdictAt 2 (some .int) 0 [.ref (ad 2), .int (nI pl)] (wC ad cI cJ cZ σ) (some (.int (nI (gcV σ pl)))) (wC ad cI cJ cZ σ) := by
  refine CM.of (by decide) (Nat.le_of_ble_eq_true rfl) ?_
  intro p e s m below meth c A ls E hr hlk hP hD0 hA hA2 hS hl
  have hD := wC_D hD0
  have hl : lv_has ls 2 [(0, .ref (ad 2)), (1, .int (nI pl))] := hl
  refine lv_aload_n E.1.1 E.1.2.1 dX2_verdictAt_0 rfl (lv_at hl 0 rfl) ?_
  refine gt_X2_verdicts E fl_X2_9 hP dX2_verdictAt_1 ?_
  refine lv_iload_n E.1.1 E.1.2.1 dX2_verdictAt_4 rfl (lv_at hl 1 rfl) ?_
  refine ld_CS_V (i := pl) E hP (by omega) dX2_verdictAt_5 ?_
  exact CM.reti E hr hlk hA hP hS rfl dX2_verdictAt_6
set_option maxRecDepth 100000 in
set_option maxHeartbeats 4000000 in
theorem c_X2_forget (l : Launch) (D : va_G) (cI cJ cZ : ClassId) (ad : Nat → Nat) (σ : CS) (b : Nat)  (hb : b < 24) : CM l D (t3 cI cJ cZ) yX2_forget cX2_forget 3 none 2 [.ref (ad 2), .int (nI b)] (wC ad cI cJ cZ σ) (none) (wC ad cI cJ cZ (scV σ (fillF (gcV σ) (b * 10 + 0) ((b * 10 + 0) + 10) 0))) := by
  refine CM.of (by decide) (Nat.le_of_ble_eq_true rfl) ?_
  intro p e s m below meth c A ls E hr hlk hP hD0 hA hA2 hS hl
  have hD := wC_D hD0
  have hl : lv_has ls 3 [(0, .ref (ad 2)), (1, .int (nI b))] := hl
  refine lv_iload_n E.1.1 E.1.2.1 dX2_forget_0 rfl (lv_at hl 1 rfl) ?_
  refine lv_iconst (v := nI 0) E.1.1 E.1.2.1 dX2_forget_1 rfl ?_
  refine CM.callSi (n := 2) E (c_X1_placeOf l D cI cJ cZ ad σ b 0) ml_X2_29 st_X1_placeOf ini_X1 co_X1_placeOf hd_X1_placeOf ⟨Nat.le_of_ble_eq_true rfl, Nat.le_of_ble_eq_true rfl⟩ ⟨Nat.le_refl _, Nat.le_refl _⟩ hP (hD _) hS hA2 rfl hl.1 (Nat.le_of_ble_eq_true rfl) dX2_forget_2 rfl (fun H locs hP hS => ?_)
  refine lv_istore_n (lv' := [(2, .int (nI (b * 10 + 0))), (0, .ref (ad 2)), (1, .int (nI b))]) E.1.1 E.1.2.1 dX2_forget_5 rfl hl (by decide) rfl (fun ls hl => ?_)
  refine lv_aload_n E.1.1 E.1.2.1 dX2_forget_6 rfl (lv_at hl 1 rfl) ?_
  refine gt_X2_verdicts E fl_X2_9 hP dX2_forget_7 ?_
  refine lv_iload_n E.1.1 E.1.2.1 dX2_forget_10 rfl (lv_at hl 0 rfl) ?_
  refine lv_iload_n E.1.1 E.1.2.1 dX2_forget_11 rfl (lv_at hl 0 rfl) ?_
  refine lv_bipush (v := nI 10) E.1.1 E.1.2.1 dX2_forget_12 rfl ?_
  refine nv_iadd E dX2_forget_14 ?_
  refine lv_iconst (v := nI 0) E.1.1 E.1.2.1 dX2_forget_15 rfl ?_
  refine CM.callSv (n := 4) E (c_J7_fill_fda19_V l D cI cJ cZ ad σ (b * 10 + 0) ((b * 10 + 0) + 10) 0 (by omega) (by omega)) ml_X2_35 st_J7_fill_fda19 ini_J7 co_J7_fill_fda19 hd_J7_fill_fda19 ⟨Nat.le_of_ble_eq_true rfl, Nat.le_of_ble_eq_true rfl⟩ ⟨Nat.le_refl _, Nat.le_refl _⟩ hP (hD _) hS hA2 rfl hl.1 (Nat.le_of_ble_eq_true rfl) dX2_forget_16 rfl (fun H locs hP hS => ?_)
  exact CM.retv E hr hlk hA hP hS rfl dX2_forget_19
set_option maxRecDepth 100000 in
set_option maxHeartbeats 4000000 in
theorem c_X2_targetSet (l : Launch) (D : va_G) (cI cJ cZ : ClassId) (ad : Nat → Nat) (σ : CS) (t : Nat) (q : Nat)  (ht : t < 6) (hq : q < 4) (hI : PI σ) : CM l D (t3 cI cJ cZ) yX2_targetSet cX2_targetSet 4 (some .int) 2 [.ref (ad 2), .int (nI t), .int (nI q)] (wC ad cI cJ cZ σ) (some (.int (nI (tsF σ t q)))) (wC ad cI cJ cZ σ) := by
  refine CM.of (by decide) (Nat.le_of_ble_eq_true rfl) ?_
  intro p e s m below meth c A ls E hr hlk hP hD0 hA hA2 hS hl
  have hD := wC_D hD0
  have hl : lv_has ls 4 [(0, .ref (ad 2)), (1, .int (nI t)), (2, .int (nI q))] := hl
  refine lv_aload_n E.1.1 E.1.2.1 dX2_targetSet_0 rfl (lv_at hl 0 rfl) ?_
  refine gt_X2_program E fl_X2_18 hP dX2_targetSet_1 ?_
  refine lv_iload_n E.1.1 E.1.2.1 dX2_targetSet_4 rfl (lv_at hl 1 rfl) ?_
  refine lv_iload_n E.1.1 E.1.2.1 dX2_targetSet_5 rfl (lv_at hl 2 rfl) ?_
  refine CM.callVi (n := 2) E (c_X1_target l D cI cJ cZ ad σ t q ht hq hI) ml_X2_76 im_X1_target se_X1_target ini_X1 co_X1_target hd_X1_target ⟨Nat.le_of_ble_eq_true rfl, Nat.le_of_ble_eq_true rfl⟩ ⟨Nat.le_refl _, Nat.le_refl _⟩ 1 rfl rfl hP (hD _) hS hA2 rfl hl.1 (Nat.le_of_ble_eq_true rfl) dX2_targetSet_6 rfl (fun H locs hP hS => ?_)
  refine W.eq (g2 := F0 m 9 ls [.int (oI (tgC σ t q))]) rfl ?_
  refine lv_istore_n (lv' := [(3, .int (oI (tgC σ t q))), (0, .ref (ad 2)), (1, .int (nI t)), (2, .int (nI q))]) E.1.1 E.1.2.1 dX2_targetSet_9 rfl hl (by decide) rfl (fun ls hl => ?_)
  refine lv_iload_n E.1.1 E.1.2.1 dX2_targetSet_10 rfl (lv_at hl 0 rfl) ?_
  refine lv_iconst (v := -1) E.1.1 E.1.2.1 dX2_targetSet_11 rfl ?_
  refine ov_m1_ne (o := (tgC σ t q)) (fun j hj => by have := tgC_lt hI ht hq hj; omega) E dX2_targetSet_12 (tgt := 19) (by decide) (fun k12 h12 => ?_) (fun h12 => ?_)
  · have hk12 := tgC_lt hI ht hq h12
    have hl : lv_has ls 4 [(3, .int (nI k12)), (0, .ref (ad 2)), (1, .int (nI t)), (2, .int (nI q))] := by have q9 := hl; rw [h12] at q9; exact q9
    refine lv_iconst (v := nI 1) E.1.1 E.1.2.1 dX2_targetSet_19 rfl ?_
    refine lv_iload_n E.1.1 E.1.2.1 dX2_targetSet_20 rfl (lv_at hl 0 rfl) ?_
    refine nv_ishl (by omega) E dX2_targetSet_21 ?_
    exact CM.reti E hr hlk hA hP hS (by rw [tsF, h12]) dX2_targetSet_22
  · refine lv_iconst (v := nI 0) E.1.1 E.1.2.1 dX2_targetSet_15 rfl ?_
    refine lv_goto (tgt := 22) E.1.1 E.1.2.1 dX2_targetSet_16 (by decide) ?_
    exact CM.reti E hr hlk hA hP hS (by rw [tsF, h12]) dX2_targetSet_22
set_option maxRecDepth 100000 in
set_option maxHeartbeats 4000000 in
theorem c_X2_readBody (l : Launch) (D : va_G) (cI cJ cZ : ClassId) (ad : Nat → Nat) (σ : CS) (b : Nat)  (hb : b < 24) (hK : Kp σ σ) : CM l D (t3 cI cJ cZ) yX2_readBody cX2_readBody 4 none 1 [.ref (ad 2), .int (nI b)] (wC ad cI cJ cZ σ) (none) (wC ad cI cJ cZ (rbF b σ)) := by
  refine CM.of (by decide) (Nat.le_of_ble_eq_true rfl) ?_
  intro p e s m below meth c A ls E hr hlk hP hD0 hA hA2 hS hl
  have hD := wC_D hD0
  have hl : lv_has ls 4 [(0, .ref (ad 2)), (1, .int (nI b))] := hl
  refine lv_iconst (v := nI 0) E.1.1 E.1.2.1 dX2_readBody_0 rfl ?_
  refine lv_istore_n (lv' := [(2, .int (nI 0)), (0, .ref (ad 2)), (1, .int (nI b))]) E.1.1 E.1.2.1 dX2_readBody_1 rfl hl (by decide) rfl (fun ls hl => ?_)
  have LP2 : ∀ (n : Nat) (k : Nat) (τ : CS) (H : Heap) (locs : List Loc) (ls : Array Slot), (Kp σ τ) → (k + n = gcL τ b) → (rbF b σ = itN (rbS b) n k τ) → va_P D vwCl (wC ad cI cJ cZ τ) H → va_S A s.heap H locs → lv_has ls 4 [(0, .ref (ad 2)), (1, .int (nI b)), (2, .int (nI k))] → W p l e { frames := 1, cells := 0, slots := 0, locals := 40 * 1 } s m [.ref (ad 2), .int (nI b)].toArray below meth c H locs 0 0 (MQ below (Qcm D (wC ad cI cJ cZ σ) s.heap.size (none) (wC ad cI cJ cZ (rbF b σ))) [.ref (ad 2), .int (nI b)].toArray s 0 0 A) (F0 m 2 ls []) := by
    intro n
    induction n with
    | zero =>
      intro k τ H locs ls hT hk hv hP hS hl
      have hL := hT.1.2.1 b
      refine lv_iload_n E.1.1 E.1.2.1 dX2_readBody_2 rfl (lv_at hl 2 rfl) ?_
      refine lv_aload_n E.1.1 E.1.2.1 dX2_readBody_3 rfl (lv_at hl 0 rfl) ?_
      refine gt_X2_program E fl_X2_18 hP dX2_readBody_4 ?_
      refine lv_iload_n E.1.1 E.1.2.1 dX2_readBody_7 rfl (lv_at hl 1 rfl) ?_
      refine CM.callVi (n := 1) E (c_X1_length l D cI cJ cZ ad τ b (by omega)) ml_X2_82 im_X1_length se_X1_length ini_X1 co_X1_length hd_X1_length ⟨Nat.le_of_ble_eq_true rfl, Nat.le_of_ble_eq_true rfl⟩ ⟨Nat.le_refl _, Nat.le_refl _⟩ 1 rfl rfl hP (hD _) hS hA2 rfl hl.1 (Nat.le_of_ble_eq_true rfl) dX2_readBody_8 rfl (fun H locs hP hS => ?_)
      refine nv_icmp_ge (by omega) (by omega) E dX2_readBody_11 (tgt := 92) (by decide) (fun h11 => ?_) (fun h11 => ?_)
      · exact CM.retv E hr hlk hA (by rw [hv]; exact hP) hS rfl dX2_readBody_92
      · exact absurd h11 (by omega)
    | succ n ih2 =>
      intro k τ H locs ls hT hk hv hP hS hl
      have hL := hT.1.2.1 b
      refine lv_iload_n E.1.1 E.1.2.1 dX2_readBody_2 rfl (lv_at hl 2 rfl) ?_
      refine lv_aload_n E.1.1 E.1.2.1 dX2_readBody_3 rfl (lv_at hl 0 rfl) ?_
      refine gt_X2_program E fl_X2_18 hP dX2_readBody_4 ?_
      refine lv_iload_n E.1.1 E.1.2.1 dX2_readBody_7 rfl (lv_at hl 1 rfl) ?_
      refine CM.callVi (n := 1) E (c_X1_length l D cI cJ cZ ad τ b (by omega)) ml_X2_82 im_X1_length se_X1_length ini_X1 co_X1_length hd_X1_length ⟨Nat.le_of_ble_eq_true rfl, Nat.le_of_ble_eq_true rfl⟩ ⟨Nat.le_refl _, Nat.le_refl _⟩ 1 rfl rfl hP (hD _) hS hA2 rfl hl.1 (Nat.le_of_ble_eq_true rfl) dX2_readBody_8 rfl (fun H locs hP hS => ?_)
      refine nv_icmp_ge (by omega) (by omega) E dX2_readBody_11 (tgt := 92) (by decide) (fun h11 => ?_) (fun h11 => ?_)
      · exact absurd h11 (by omega)
      · refine lv_iload_n E.1.1 E.1.2.1 dX2_readBody_14 rfl (lv_at hl 1 rfl) ?_
        refine lv_iload_n E.1.1 E.1.2.1 dX2_readBody_15 rfl (lv_at hl 2 rfl) ?_
        refine CM.callSi (n := 2) E (c_X1_placeOf l D cI cJ cZ ad τ b k) ml_X2_29 st_X1_placeOf ini_X1 co_X1_placeOf hd_X1_placeOf ⟨Nat.le_of_ble_eq_true rfl, Nat.le_of_ble_eq_true rfl⟩ ⟨Nat.le_refl _, Nat.le_refl _⟩ hP (hD _) hS hA2 rfl hl.1 (Nat.le_of_ble_eq_true rfl) dX2_readBody_16 rfl (fun H locs hP hS => ?_)
        refine lv_istore_n (lv' := [(3, .int (nI (b * 10 + k))), (0, .ref (ad 2)), (1, .int (nI b)), (2, .int (nI k))]) E.1.1 E.1.2.1 dX2_readBody_19 rfl hl (by decide) rfl (fun ls hl => ?_)
        have hKk := hT.1.2.2.1 (b * 10 + k)
        refine lv_aload_n E.1.1 E.1.2.1 dX2_readBody_20 rfl (lv_at hl 1 rfl) ?_
        refine gt_X2_program E fl_X2_18 hP dX2_readBody_21 ?_
        refine lv_iload_n E.1.1 E.1.2.1 dX2_readBody_24 rfl (lv_at hl 0 rfl) ?_
        refine CM.callVi (n := 1) E (c_X1_kind l D cI cJ cZ ad τ (b * 10 + k) (by omega)) ml_X2_85 im_X1_kind se_X1_kind ini_X1 co_X1_kind hd_X1_kind ⟨Nat.le_of_ble_eq_true rfl, Nat.le_of_ble_eq_true rfl⟩ ⟨Nat.le_refl _, Nat.le_refl _⟩ 1 rfl rfl hP (hD _) hS hA2 rfl hl.1 (Nat.le_of_ble_eq_true rfl) dX2_readBody_25 rfl (fun H locs hP hS => ?_)
        refine lv_iconst (v := nI 4) E.1.1 E.1.2.1 dX2_readBody_28 rfl ?_
        refine nv_icmp_ne (by omega) (by omega) E dX2_readBody_29 (tgt := 54) (by decide) (fun h29 => ?_) (fun h29 => ?_)
        · refine lv_aload_n E.1.1 E.1.2.1 dX2_readBody_54 rfl (lv_at hl 1 rfl) ?_
          refine gt_X2_program E fl_X2_18 hP dX2_readBody_55 ?_
          refine lv_iload_n E.1.1 E.1.2.1 dX2_readBody_58 rfl (lv_at hl 0 rfl) ?_
          refine CM.callVi (n := 1) E (c_X1_kind l D cI cJ cZ ad τ (b * 10 + k) (by omega)) ml_X2_85 im_X1_kind se_X1_kind ini_X1 co_X1_kind hd_X1_kind ⟨Nat.le_of_ble_eq_true rfl, Nat.le_of_ble_eq_true rfl⟩ ⟨Nat.le_refl _, Nat.le_refl _⟩ 1 rfl rfl hP (hD _) hS hA2 rfl hl.1 (Nat.le_of_ble_eq_true rfl) dX2_readBody_59 rfl (fun H locs hP hS => ?_)
          refine lv_bipush (v := nI 7) E.1.1 E.1.2.1 dX2_readBody_62 rfl ?_
          refine nv_icmp_ne (by omega) (by omega) E dX2_readBody_64 (tgt := 86) (by decide) (fun h64 => ?_) (fun h64 => ?_)
          · refine lv_iinc (v := nI (k + 1)) (lv' := [(2, .int (nI (k + 1))), (3, .int (nI (b * 10 + k))), (0, .ref (ad 2)), (1, .int (nI b))]) E.1.1 E.1.2.1 dX2_readBody_86 hl (k := 3) rfl (nI_add k 1) (by decide) rfl (fun ls hl => ?_)
            refine lv_goto (tgt := 2) E.1.1 E.1.2.1 dX2_readBody_89 (by decide) ?_
            exact ih2 (k + 1) τ _ _ _ (by have q9 := Kp_rb (b := b) (k := k) hT; rw [rbS] at q9; first | (rw [if_pos h29] at q9; exact q9) | (rw [if_neg h29, if_pos h64] at q9; exact q9) | (rw [if_neg h29, if_neg h64] at q9; exact q9)) (by show _ = gcL τ b; omega) (by rw [hv, itN, rbS]; first | (rw [if_pos h29]; done) | (rw [if_neg h29, if_pos h64]; done) | rw [if_neg h29, if_neg h64]) hP hS (lv_sub hl [2, 3, 0] rfl)
          · refine lv_aload_n E.1.1 E.1.2.1 dX2_readBody_67 rfl (lv_at hl 1 rfl) ?_
            refine lv_dup E.1.1 E.1.2.1 dX2_readBody_68 rfl ?_
            refine gt_X2_called E fl_X2_64 hP dX2_readBody_69 ?_
            refine lv_iconst (v := nI 1) E.1.1 E.1.2.1 dX2_readBody_72 rfl ?_
            refine lv_aload_n E.1.1 E.1.2.1 dX2_readBody_73 rfl (lv_at hl 1 rfl) ?_
            refine gt_X2_program E fl_X2_18 hP dX2_readBody_74 ?_
            refine lv_iload_n E.1.1 E.1.2.1 dX2_readBody_77 rfl (lv_at hl 0 rfl) ?_
            refine CM.callVi (n := 1) E (c_X1_z l D cI cJ cZ ad τ (b * 10 + k) (by omega)) ml_X2_91 im_X1_z se_X1_z ini_X1 co_X1_z hd_X1_z ⟨Nat.le_of_ble_eq_true rfl, Nat.le_of_ble_eq_true rfl⟩ ⟨Nat.le_refl _, Nat.le_refl _⟩ 1 rfl rfl hP (hD _) hS hA2 rfl hl.1 (Nat.le_of_ble_eq_true rfl) dX2_readBody_78 rfl (fun H locs hP hS => ?_)
            refine tpi (y := nI (zN τ (b * 10 + k))) ((WI_z4 hT.2.1 h64).1) ?_
            refine nv_ishl (by have := (WI_z4 hT.2.1 h64).2; omega) E dX2_readBody_81 ?_
            refine nv_ior E dX2_readBody_82 ?_
            refine pt_X2_called (v := (gcca τ) ||| (1 <<< (zN τ (b * 10 + k)))) E fl_X2_64 hP hD hS dX2_readBody_83 (fun H locs hP hS => ?_)
            refine lv_iinc (v := nI (k + 1)) (lv' := [(2, .int (nI (k + 1))), (3, .int (nI (b * 10 + k))), (0, .ref (ad 2)), (1, .int (nI b))]) E.1.1 E.1.2.1 dX2_readBody_86 hl (k := 3) rfl (nI_add k 1) (by decide) rfl (fun ls hl => ?_)
            refine lv_goto (tgt := 2) E.1.1 E.1.2.1 dX2_readBody_89 (by decide) ?_
            exact ih2 (k + 1) (scca τ ((gcca τ) ||| (1 <<< (zN τ (b * 10 + k))))) _ _ _ (by have q9 := Kp_rb (b := b) (k := k) hT; rw [rbS] at q9; first | (rw [if_pos h29] at q9; exact q9) | (rw [if_neg h29, if_pos h64] at q9; exact q9) | (rw [if_neg h29, if_neg h64] at q9; exact q9)) (by show _ = gcL τ b; omega) (by rw [hv, itN, rbS]; first | (rw [if_pos h29]; done) | (rw [if_neg h29, if_pos h64]; done) | rw [if_neg h29, if_neg h64]) hP hS (lv_sub hl [2, 3, 0] rfl)
        · refine lv_aload_n E.1.1 E.1.2.1 dX2_readBody_32 rfl (lv_at hl 1 rfl) ?_
          refine lv_dup E.1.1 E.1.2.1 dX2_readBody_33 rfl ?_
          refine gt_X2_made E fl_X2_22 hP dX2_readBody_34 ?_
          refine lv_iconst (v := nI 1) E.1.1 E.1.2.1 dX2_readBody_37 rfl ?_
          refine lv_aload_n E.1.1 E.1.2.1 dX2_readBody_38 rfl (lv_at hl 1 rfl) ?_
          refine gt_X2_program E fl_X2_18 hP dX2_readBody_39 ?_
          refine lv_iload_n E.1.1 E.1.2.1 dX2_readBody_42 rfl (lv_at hl 0 rfl) ?_
          refine CM.callVi (n := 1) E (c_X1_y l D cI cJ cZ ad τ (b * 10 + k) (by omega)) ml_X2_88 im_X1_y se_X1_y ini_X1 co_X1_y hd_X1_y ⟨Nat.le_of_ble_eq_true rfl, Nat.le_of_ble_eq_true rfl⟩ ⟨Nat.le_refl _, Nat.le_refl _⟩ 1 rfl rfl hP (hD _) hS hA2 rfl hl.1 (Nat.le_of_ble_eq_true rfl) dX2_readBody_43 rfl (fun H locs hP hS => ?_)
          refine tpi (y := nI (yN τ (b * 10 + k))) ((WI_y hT.2.1 (by omega)).1) ?_
          refine nv_ishl (by have := (WI_y hT.2.1 (p := b * 10 + k) (by omega)).2; omega) E dX2_readBody_46 ?_
          refine nv_ior E dX2_readBody_47 ?_
          refine pt_X2_made (v := (gcma τ) ||| (1 <<< (yN τ (b * 10 + k)))) E fl_X2_22 hP hD hS dX2_readBody_48 (fun H locs hP hS => ?_)
          refine lv_goto (tgt := 86) E.1.1 E.1.2.1 dX2_readBody_51 (by decide) ?_
          refine lv_iinc (v := nI (k + 1)) (lv' := [(2, .int (nI (k + 1))), (3, .int (nI (b * 10 + k))), (0, .ref (ad 2)), (1, .int (nI b))]) E.1.1 E.1.2.1 dX2_readBody_86 hl (k := 3) rfl (nI_add k 1) (by decide) rfl (fun ls hl => ?_)
          refine lv_goto (tgt := 2) E.1.1 E.1.2.1 dX2_readBody_89 (by decide) ?_
          exact ih2 (k + 1) (scma τ ((gcma τ) ||| (1 <<< (yN τ (b * 10 + k))))) _ _ _ (by have q9 := Kp_rb (b := b) (k := k) hT; rw [rbS] at q9; first | (rw [if_pos h29] at q9; exact q9) | (rw [if_neg h29, if_pos h64] at q9; exact q9) | (rw [if_neg h29, if_neg h64] at q9; exact q9)) (by show _ = gcL τ b; omega) (by rw [hv, itN, rbS]; first | (rw [if_pos h29]; done) | (rw [if_neg h29, if_pos h64]; done) | rw [if_neg h29, if_neg h64]) hP hS (lv_sub hl [2, 3, 0] rfl)
  exact LP2 (gcL σ b) 0 σ _ _ _ hK (by omega) rfl hP hS (lv_sub hl [1, 2, 0] rfl)
set_option maxRecDepth 100000 in
set_option maxHeartbeats 4000000 in
theorem c_X2_readBodies (l : Launch) (D : va_G) (cI cJ cZ : ClassId) (ad : Nat → Nat) (σ : CS) (f : Nat)  (hf : f < 16777216) (hK : Kp σ σ) : CM l D (t3 cI cJ cZ) yX2_readBodies cX2_readBodies 3 none 2 [.ref (ad 2), .int (nI f)] (wC ad cI cJ cZ σ) (none) (wC ad cI cJ cZ (rsF f σ)) := by
  refine CM.of (by decide) (Nat.le_of_ble_eq_true rfl) ?_
  intro p e s m below meth c A ls E hr hlk hP hD0 hA hA2 hS hl
  have hD := wC_D hD0
  have hl : lv_has ls 3 [(0, .ref (ad 2)), (1, .int (nI f))] := hl
  refine lv_iconst (v := nI 0) E.1.1 E.1.2.1 dX2_readBodies_0 rfl ?_
  refine lv_istore_n (lv' := [(2, .int (nI 0)), (0, .ref (ad 2)), (1, .int (nI f))]) E.1.1 E.1.2.1 dX2_readBodies_1 rfl hl (by decide) rfl (fun ls hl => ?_)
  have LP2 : ∀ (n : Nat) (k : Nat) (τ : CS) (H : Heap) (locs : List Loc) (ls : Array Slot), (Kp σ τ) → (k + n = 24) → (rsF f σ = itN (rsS f) n k τ) → va_P D vwCl (wC ad cI cJ cZ τ) H → va_S A s.heap H locs → lv_has ls 3 [(0, .ref (ad 2)), (1, .int (nI f)), (2, .int (nI k))] → W p l e { frames := 2, cells := 0, slots := 0, locals := 40 * 2 } s m [.ref (ad 2), .int (nI f)].toArray below meth c H locs 0 0 (MQ below (Qcm D (wC ad cI cJ cZ σ) s.heap.size (none) (wC ad cI cJ cZ (rsF f σ))) [.ref (ad 2), .int (nI f)].toArray s 0 0 A) (F0 m 2 ls []) := by
    intro n
    induction n with
    | zero =>
      intro k τ H locs ls hT hk hv hP hS hl
      refine lv_iload_n E.1.1 E.1.2.1 dX2_readBodies_2 rfl (lv_at hl 2 rfl) ?_
      refine lv_bipush (v := nI 24) E.1.1 E.1.2.1 dX2_readBodies_3 rfl ?_
      refine nv_icmp_ge (by omega) (by omega) E dX2_readBodies_5 (tgt := 27) (by decide) (fun h5 => ?_) (fun h5 => ?_)
      · exact CM.retv E hr hlk hA (by rw [hv]; exact hP) hS rfl dX2_readBodies_27
      · exact absurd h5 (by omega)
    | succ n ih2 =>
      intro k τ H locs ls hT hk hv hP hS hl
      refine lv_iload_n E.1.1 E.1.2.1 dX2_readBodies_2 rfl (lv_at hl 2 rfl) ?_
      refine lv_bipush (v := nI 24) E.1.1 E.1.2.1 dX2_readBodies_3 rfl ?_
      refine nv_icmp_ge (by omega) (by omega) E dX2_readBodies_5 (tgt := 27) (by decide) (fun h5 => ?_) (fun h5 => ?_)
      · exact absurd h5 (by omega)
      · refine lv_iload_n E.1.1 E.1.2.1 dX2_readBodies_8 rfl (lv_at hl 1 rfl) ?_
        refine lv_iload_n E.1.1 E.1.2.1 dX2_readBodies_9 rfl (lv_at hl 2 rfl) ?_
        refine CM.callSi (n := 2) E (c_X2_isIn l D cI cJ cZ ad τ f k (by omega) (by omega)) ml_X2_51 st_X2_isIn ini_X2 co_X2_isIn hd_X2_isIn ⟨Nat.le_of_ble_eq_true rfl, Nat.le_of_ble_eq_true rfl⟩ ⟨Nat.le_refl _, Nat.le_refl _⟩ hP (hD _) hS hA2 rfl hl.1 (Nat.le_of_ble_eq_true rfl) dX2_readBodies_10 rfl (fun H locs hP hS => ?_)
        refine bv_if_eq (x := f.testBit k) E dX2_readBodies_13 (tgt := 21) (by decide) (fun h13 => ?_) (fun h13 => ?_)
        · refine lv_iinc (v := nI (k + 1)) (lv' := [(2, .int (nI (k + 1))), (0, .ref (ad 2)), (1, .int (nI f))]) E.1.1 E.1.2.1 dX2_readBodies_21 hl (k := 2) rfl (nI_add k 1) (by decide) rfl (fun ls hl => ?_)
          refine lv_goto (tgt := 2) E.1.1 E.1.2.1 dX2_readBodies_24 (by decide) ?_
          exact ih2 (k + 1) τ _ _ _ (hT) (by omega) (by rw [hv, itN, rsS, if_neg (by rw [h13]; decide)]) hP hS (lv_sub hl [1, 2, 0] rfl)
        · refine lv_aload_n E.1.1 E.1.2.1 dX2_readBodies_16 rfl (lv_at hl 0 rfl) ?_
          refine lv_iload_n E.1.1 E.1.2.1 dX2_readBodies_17 rfl (lv_at hl 2 rfl) ?_
          refine CM.callVv (n := 1) E (c_X2_readBody l D cI cJ cZ ad τ k (by omega) (Kp_rf hT.1 hT.2.1 hT.2.2.1)) ml_X2_79 im_X2_readBody se_X2_readBody ini_X2 co_X2_readBody hd_X2_readBody ⟨Nat.le_of_ble_eq_true rfl, Nat.le_of_ble_eq_true rfl⟩ ⟨Nat.le_refl _, Nat.le_refl _⟩ 2 rfl rfl hP (hD _) hS hA2 rfl hl.1 (Nat.le_of_ble_eq_true rfl) dX2_readBodies_18 rfl (fun H locs hP hS => ?_)
          refine lv_iinc (v := nI (k + 1)) (lv' := [(2, .int (nI (k + 1))), (0, .ref (ad 2)), (1, .int (nI f))]) E.1.1 E.1.2.1 dX2_readBodies_21 hl (k := 2) rfl (nI_add k 1) (by decide) rfl (fun ls hl => ?_)
          refine lv_goto (tgt := 2) E.1.1 E.1.2.1 dX2_readBodies_24 (by decide) ?_
          exact ih2 (k + 1) (rbF k τ) _ _ _ (Kp_rbF hT) (by omega) (by rw [hv, itN, rsS, if_pos h13]) hP hS (lv_sub hl [1, 2, 0] rfl)
  exact LP2 24 0 σ _ _ _ hK (by omega) rfl hP hS (lv_sub hl [1, 2, 0] rfl)
set_option maxRecDepth 100000 in
set_option maxHeartbeats 4000000 in
theorem c_X2_reachTargets (l : Launch) (D : va_G) (cI cJ cZ : ClassId) (ad : Nat → Nat) (σ : CS)   (hK : Kp σ σ) : CM l D (t3 cI cJ cZ) yX2_reachTargets cX2_reachTargets 3 none 3 [.ref (ad 2)] (wC ad cI cJ cZ σ) (none) (wC ad cI cJ cZ (rtF σ)) := by
  refine CM.of (by decide) (Nat.le_of_ble_eq_true rfl) ?_
  intro p e s m below meth c A ls E hr hlk hP hD0 hA hA2 hS hl
  have hD := wC_D hD0
  have hl : lv_has ls 3 [(0, .ref (ad 2))] := hl
  refine lv_iconst (v := nI 0) E.1.1 E.1.2.1 dX2_reachTargets_0 rfl ?_
  refine lv_istore_n (lv' := [(1, .int (nI 0)), (0, .ref (ad 2))]) E.1.1 E.1.2.1 dX2_reachTargets_1 rfl hl (by decide) rfl (fun ls hl => ?_)
  have LP2 : ∀ (n : Nat) (t : Nat) (τ : CS) (H : Heap) (locs : List Loc) (ls : Array Slot), (Kp σ τ) → (t + n = 6) → (rtF σ = itN (fun t τ => itN (rtS t) 4 0 τ) n t τ) → va_P D vwCl (wC ad cI cJ cZ τ) H → va_S A s.heap H locs → lv_has ls 3 [(0, .ref (ad 2)), (1, .int (nI t))] → W p l e { frames := 3, cells := 0, slots := 0, locals := 40 * 3 } s m [.ref (ad 2)].toArray below meth c H locs 0 0 (MQ below (Qcm D (wC ad cI cJ cZ σ) s.heap.size (none) (wC ad cI cJ cZ (rtF σ))) [.ref (ad 2)].toArray s 0 0 A) (F0 m 2 ls []) := by
    intro n
    induction n with
    | zero =>
      intro t τ H locs ls hT hk hv hP hS hl
      refine lv_iload_n E.1.1 E.1.2.1 dX2_reachTargets_2 rfl (lv_at hl 1 rfl) ?_
      refine lv_bipush (v := nI 6) E.1.1 E.1.2.1 dX2_reachTargets_3 rfl ?_
      refine nv_icmp_ge (by omega) (by omega) E dX2_reachTargets_5 (tgt := 64) (by decide) (fun h5 => ?_) (fun h5 => ?_)
      · exact CM.retv E hr hlk hA (by rw [hv]; exact hP) hS rfl dX2_reachTargets_64
      · exact absurd h5 (by omega)
    | succ n ih2 =>
      intro t τ H locs ls hT hk hv hP hS hl
      refine lv_iload_n E.1.1 E.1.2.1 dX2_reachTargets_2 rfl (lv_at hl 1 rfl) ?_
      refine lv_bipush (v := nI 6) E.1.1 E.1.2.1 dX2_reachTargets_3 rfl ?_
      refine nv_icmp_ge (by omega) (by omega) E dX2_reachTargets_5 (tgt := 64) (by decide) (fun h5 => ?_) (fun h5 => ?_)
      · exact absurd h5 (by omega)
      · refine lv_iconst (v := nI 0) E.1.1 E.1.2.1 dX2_reachTargets_8 rfl ?_
        refine lv_istore_n (lv' := [(2, .int (nI 0)), (0, .ref (ad 2)), (1, .int (nI t))]) E.1.1 E.1.2.1 dX2_reachTargets_9 rfl hl (by decide) rfl (fun ls hl => ?_)
        have LP10 : ∀ (n2 : Nat) (q : Nat) (τ2 : CS) (H : Heap) (locs : List Loc) (ls : Array Slot), (Kp σ τ2) → (q + n2 = 4) → (itN (rtS t) 4 0 τ = itN (rtS t) n2 q τ2) → va_P D vwCl (wC ad cI cJ cZ τ2) H → va_S A s.heap H locs → lv_has ls 3 [(0, .ref (ad 2)), (1, .int (nI t)), (2, .int (nI q))] → W p l e { frames := 3, cells := 0, slots := 0, locals := 40 * 3 } s m [.ref (ad 2)].toArray below meth c H locs 0 0 (MQ below (Qcm D (wC ad cI cJ cZ σ) s.heap.size (none) (wC ad cI cJ cZ (rtF σ))) [.ref (ad 2)].toArray s 0 0 A) (F0 m 10 ls []) := by
          intro n2
          induction n2 with
          | zero =>
            intro q τ2 H locs ls hT2 hk2 hv2 hP hS hl
            have hB := hT2.2.2.1
            refine lv_iload_n E.1.1 E.1.2.1 dX2_reachTargets_10 rfl (lv_at hl 2 rfl) ?_
            refine lv_iconst (v := nI 4) E.1.1 E.1.2.1 dX2_reachTargets_11 rfl ?_
            refine nv_icmp_ge (by omega) (by omega) E dX2_reachTargets_12 (tgt := 58) (by decide) (fun h12 => ?_) (fun h12 => ?_)
            · refine lv_iinc (v := nI (t + 1)) (lv' := [(1, .int (nI (t + 1))), (0, .ref (ad 2)), (2, .int (nI q))]) E.1.1 E.1.2.1 dX2_reachTargets_58 hl (k := 1) rfl (nI_add t 1) (by decide) rfl (fun ls hl => ?_)
              refine lv_goto (tgt := 2) E.1.1 E.1.2.1 dX2_reachTargets_61 (by decide) ?_
              exact ih2 (t + 1) τ2 _ _ _ hT2 (by omega) (by rw [hv, itN, hv2]; rfl) hP hS (lv_sub hl [1, 0] rfl)
            · exact absurd h12 (by omega)
          | succ n2 ih10 =>
            intro q τ2 H locs ls hT2 hk2 hv2 hP hS hl
            have hB := hT2.2.2.1
            refine lv_iload_n E.1.1 E.1.2.1 dX2_reachTargets_10 rfl (lv_at hl 2 rfl) ?_
            refine lv_iconst (v := nI 4) E.1.1 E.1.2.1 dX2_reachTargets_11 rfl ?_
            refine nv_icmp_ge (by omega) (by omega) E dX2_reachTargets_12 (tgt := 58) (by decide) (fun h12 => ?_) (fun h12 => ?_)
            · exact absurd h12 (by omega)
            · refine lv_aload_n E.1.1 E.1.2.1 dX2_reachTargets_15 rfl (lv_at hl 0 rfl) ?_
              refine gt_X2_made E fl_X2_22 hP dX2_reachTargets_16 ?_
              refine lv_iload_n E.1.1 E.1.2.1 dX2_reachTargets_19 rfl (lv_at hl 1 rfl) ?_
              refine CM.callSi (n := 2) E (c_X2_isIn l D cI cJ cZ ad τ2 (gcma τ2) t (by have := hB.1; omega) (by omega)) ml_X2_51 st_X2_isIn ini_X2 co_X2_isIn hd_X2_isIn ⟨Nat.le_of_ble_eq_true rfl, Nat.le_of_ble_eq_true rfl⟩ ⟨Nat.le_refl _, Nat.le_refl _⟩ hP (hD _) hS hA2 rfl hl.1 (Nat.le_of_ble_eq_true rfl) dX2_reachTargets_20 rfl (fun H locs hP hS => ?_)
              refine bv_if_eq (x := (gcma τ2).testBit t) E dX2_reachTargets_23 (tgt := 52) (by decide) (fun h23 => ?_) (fun h23 => ?_)
              · refine lv_iinc (v := nI (q + 1)) (lv' := [(2, .int (nI (q + 1))), (0, .ref (ad 2)), (1, .int (nI t))]) E.1.1 E.1.2.1 dX2_reachTargets_52 hl (k := 2) rfl (nI_add q 1) (by decide) rfl (fun ls hl => ?_)
                refine lv_goto (tgt := 10) E.1.1 E.1.2.1 dX2_reachTargets_55 (by decide) ?_
                exact ih10 (q + 1) τ2 _ _ _ (hT2) (by omega) (by rw [hv2, itN, rtS]; first | rw [if_pos h23, if_pos h34] | rw [if_pos h23, if_neg (by rw [h34]; decide)] | rw [if_neg (by rw [h23]; decide)]) hP hS (lv_sub hl [1, 2, 0] rfl)
              · refine lv_aload_n E.1.1 E.1.2.1 dX2_reachTargets_26 rfl (lv_at hl 0 rfl) ?_
                refine gt_X2_called E fl_X2_64 hP dX2_reachTargets_27 ?_
                refine lv_iload_n E.1.1 E.1.2.1 dX2_reachTargets_30 rfl (lv_at hl 2 rfl) ?_
                refine CM.callSi (n := 2) E (c_X2_isIn l D cI cJ cZ ad τ2 (gcca τ2) q (by have := hB.2.2; omega) (by omega)) ml_X2_51 st_X2_isIn ini_X2 co_X2_isIn hd_X2_isIn ⟨Nat.le_of_ble_eq_true rfl, Nat.le_of_ble_eq_true rfl⟩ ⟨Nat.le_refl _, Nat.le_refl _⟩ hP (hD _) hS hA2 rfl hl.1 (Nat.le_of_ble_eq_true rfl) dX2_reachTargets_31 rfl (fun H locs hP hS => ?_)
                refine bv_if_eq (x := (gcca τ2).testBit q) E dX2_reachTargets_34 (tgt := 52) (by decide) (fun h34 => ?_) (fun h34 => ?_)
                · refine lv_iinc (v := nI (q + 1)) (lv' := [(2, .int (nI (q + 1))), (0, .ref (ad 2)), (1, .int (nI t))]) E.1.1 E.1.2.1 dX2_reachTargets_52 hl (k := 2) rfl (nI_add q 1) (by decide) rfl (fun ls hl => ?_)
                  refine lv_goto (tgt := 10) E.1.1 E.1.2.1 dX2_reachTargets_55 (by decide) ?_
                  exact ih10 (q + 1) τ2 _ _ _ (hT2) (by omega) (by rw [hv2, itN, rtS]; first | rw [if_pos h23, if_pos h34] | rw [if_pos h23, if_neg (by rw [h34]; decide)] | rw [if_neg (by rw [h23]; decide)]) hP hS (lv_sub hl [1, 2, 0] rfl)
                · refine lv_aload_n E.1.1 E.1.2.1 dX2_reachTargets_37 rfl (lv_at hl 0 rfl) ?_
                  refine lv_dup E.1.1 E.1.2.1 dX2_reachTargets_38 rfl ?_
                  refine gt_X2_reached E fl_X2_26 hP dX2_reachTargets_39 ?_
                  refine lv_aload_n E.1.1 E.1.2.1 dX2_reachTargets_42 rfl (lv_at hl 0 rfl) ?_
                  refine lv_iload_n E.1.1 E.1.2.1 dX2_reachTargets_43 rfl (lv_at hl 1 rfl) ?_
                  refine lv_iload_n E.1.1 E.1.2.1 dX2_reachTargets_44 rfl (lv_at hl 2 rfl) ?_
                  refine CM.callVi (n := 2) E (c_X2_targetSet l D cI cJ cZ ad τ2 t q (by omega) (by omega) hT2.1) ml_X2_67 im_X2_targetSet se_X2_targetSet ini_X2 co_X2_targetSet hd_X2_targetSet ⟨Nat.le_of_ble_eq_true rfl, Nat.le_of_ble_eq_true rfl⟩ ⟨Nat.le_refl _, Nat.le_refl _⟩ 2 rfl rfl hP (hD _) hS hA2 rfl hl.1 (Nat.le_of_ble_eq_true rfl) dX2_reachTargets_45 rfl (fun H locs hP hS => ?_)
                  refine nv_ior E dX2_reachTargets_48 ?_
                  refine pt_X2_reached (v := (gcre τ2) ||| (tsF τ2 t q)) E fl_X2_26 hP hD hS dX2_reachTargets_49 (fun H locs hP hS => ?_)
                  refine lv_iinc (v := nI (q + 1)) (lv' := [(2, .int (nI (q + 1))), (0, .ref (ad 2)), (1, .int (nI t))]) E.1.1 E.1.2.1 dX2_reachTargets_52 hl (k := 2) rfl (nI_add q 1) (by decide) rfl (fun ls hl => ?_)
                  refine lv_goto (tgt := 10) E.1.1 E.1.2.1 dX2_reachTargets_55 (by decide) ?_
                  exact ih10 (q + 1) (scre τ2 ((gcre τ2) ||| (tsF τ2 t q))) _ _ _ (Kp_re hT2 (or_lt24 hT2.2.2.1.2.1 (tsF_lt hT2.1 (by omega) (by omega)))) (by omega) (by rw [hv2, itN, rtS]; first | rw [if_pos h23, if_pos h34] | rw [if_pos h23, if_neg (by rw [h34]; decide)] | rw [if_neg (by rw [h23]; decide)]) hP hS (lv_sub hl [1, 2, 0] rfl)
        exact LP10 4 0 τ _ _ _ hT (by omega) rfl hP hS (lv_sub hl [1, 2, 0] rfl)
  exact LP2 6 0 σ _ _ _ hK (by omega) rfl hP hS (lv_sub hl [1, 0] rfl)
set_option maxRecDepth 100000 in
set_option maxHeartbeats 4000000 in
theorem c_X2_findReached (l : Launch) (D : va_G) (cI cJ cZ : ClassId) (ad : Nat → Nat) (σ : CS)   (hI : PI σ) (hW : WI σ) : CM l D (t3 cI cJ cZ) yX2_findReached cX2_findReached 4 none 4 [.ref (ad 2)] (wC ad cI cJ cZ σ) (none) (wC ad cI cJ cZ (frF σ)) := by
  refine CM.of (by decide) (Nat.le_of_ble_eq_true rfl) ?_
  intro p e s m below meth c A ls E hr hlk hP hD0 hA hA2 hS hl
  have hD := wC_D hD0
  have hl : lv_has ls 4 [(0, .ref (ad 2))] := hl
  refine lv_aload_n E.1.1 E.1.2.1 dX2_findReached_0 rfl (lv_at hl 0 rfl) ?_
  refine lv_iconst (v := nI 1) E.1.1 E.1.2.1 dX2_findReached_1 rfl ?_
  refine pt_X2_made (v := 1) E fl_X2_22 hP hD hS dX2_findReached_2 (fun H locs hP hS => ?_)
  refine lv_aload_n E.1.1 E.1.2.1 dX2_findReached_5 rfl (lv_at hl 0 rfl) ?_
  refine lv_iconst (v := nI 0) E.1.1 E.1.2.1 dX2_findReached_6 rfl ?_
  refine pt_X2_called (v := 0) E fl_X2_64 hP hD hS dX2_findReached_7 (fun H locs hP hS => ?_)
  refine lv_aload_n E.1.1 E.1.2.1 dX2_findReached_10 rfl (lv_at hl 0 rfl) ?_
  refine lv_aload_n E.1.1 E.1.2.1 dX2_findReached_11 rfl (lv_at hl 0 rfl) ?_
  refine lv_iconst (v := nI 0) E.1.1 E.1.2.1 dX2_findReached_12 rfl ?_
  refine lv_iconst (v := nI 0) E.1.1 E.1.2.1 dX2_findReached_13 rfl ?_
  refine CM.callVi (n := 2) E (c_X2_targetSet l D cI cJ cZ ad (scca (scma σ 1) 0) 0 0 (by decide) (by decide) hI) ml_X2_67 im_X2_targetSet se_X2_targetSet ini_X2 co_X2_targetSet hd_X2_targetSet ⟨Nat.le_of_ble_eq_true rfl, Nat.le_of_ble_eq_true rfl⟩ ⟨Nat.le_refl _, Nat.le_refl _⟩ 2 rfl rfl hP (hD _) hS hA2 rfl hl.1 (Nat.le_of_ble_eq_true rfl) dX2_findReached_14 rfl (fun H locs hP hS => ?_)
  refine pt_X2_reached (v := tsF (scca (scma σ 1) 0) 0 0) E fl_X2_26 hP hD hS dX2_findReached_17 (fun H locs hP hS => ?_)
  refine lv_iconst (v := nI 0) E.1.1 E.1.2.1 dX2_findReached_20 rfl ?_
  refine lv_istore_n (lv' := [(1, .int (nI 0)), (0, .ref (ad 2))]) E.1.1 E.1.2.1 dX2_findReached_21 rfl hl (by decide) rfl (fun ls hl => ?_)
  refine lv_iconst (v := nI 0) E.1.1 E.1.2.1 dX2_findReached_22 rfl ?_
  refine lv_istore_n (lv' := [(2, .int (nI 0)), (1, .int (nI 0)), (0, .ref (ad 2))]) E.1.1 E.1.2.1 dX2_findReached_23 rfl hl (by decide) rfl (fun ls hl => ?_)
  have LP24 : ∀ (n : Nat) (r : Nat) (rd : Nat) (τ : CS) (H : Heap) (locs : List Loc) (ls : Array Slot), (Kp σ τ) → (r + n = 24) → (rd < 16777216) → (frF σ = frL n rd τ) → va_P D vwCl (wC ad cI cJ cZ τ) H → va_S A s.heap H locs → lv_has ls 4 [(0, .ref (ad 2)), (1, .int (nI rd)), (2, .int (nI r))] → W p l e { frames := 4, cells := 0, slots := 0, locals := 40 * 4 } s m [.ref (ad 2)].toArray below meth c H locs 0 0 (MQ below (Qcm D (wC ad cI cJ cZ σ) s.heap.size (none) (wC ad cI cJ cZ (frF σ))) [.ref (ad 2)].toArray s 0 0 A) (F0 m 24 ls []) := by
    intro n
    induction n with
    | zero =>
      intro r rd τ H locs ls hT hk hrd hv hP hS hl
      refine lv_iload_n E.1.1 E.1.2.1 dX2_findReached_24 rfl (lv_at hl 2 rfl) ?_
      refine lv_bipush (v := nI 24) E.1.1 E.1.2.1 dX2_findReached_25 rfl ?_
      refine nv_icmp_ge (by omega) (by omega) E dX2_findReached_27 (tgt := 67) (by decide) (fun h27 => ?_) (fun h27 => ?_)
      · exact CM.retv E hr hlk hA (by rw [hv]; first | exact hP | (rw [frL, if_pos h35]; exact hP)) hS rfl dX2_findReached_67
      · exact absurd h27 (by omega)
    | succ n ih24 =>
      intro r rd τ H locs ls hT hk hrd hv hP hS hl
      refine lv_iload_n E.1.1 E.1.2.1 dX2_findReached_24 rfl (lv_at hl 2 rfl) ?_
      refine lv_bipush (v := nI 24) E.1.1 E.1.2.1 dX2_findReached_25 rfl ?_
      refine nv_icmp_ge (by omega) (by omega) E dX2_findReached_27 (tgt := 67) (by decide) (fun h27 => ?_) (fun h27 => ?_)
      · exact absurd h27 (by omega)
      · refine lv_iload_n E.1.1 E.1.2.1 dX2_findReached_30 rfl (lv_at hl 1 rfl) ?_
        refine lv_aload_n E.1.1 E.1.2.1 dX2_findReached_31 rfl (lv_at hl 0 rfl) ?_
        refine gt_X2_reached E fl_X2_26 hP dX2_findReached_32 ?_
        refine nv_icmp_eq (by omega) (by have := hT.2.2.1.2.1; omega) E dX2_findReached_35 (tgt := 67) (by decide) (fun h35 => ?_) (fun h35 => ?_)
        · exact CM.retv E hr hlk hA (by rw [hv]; first | exact hP | (rw [frL, if_pos h35]; exact hP)) hS rfl dX2_findReached_67
        · refine lv_aload_n E.1.1 E.1.2.1 dX2_findReached_38 rfl (lv_at hl 0 rfl) ?_
          refine gt_X2_reached E fl_X2_26 hP dX2_findReached_39 ?_
          refine lv_iload_n E.1.1 E.1.2.1 dX2_findReached_42 rfl (lv_at hl 1 rfl) ?_
          refine lv_iconst (v := nI 4294967295) E.1.1 E.1.2.1 dX2_findReached_43 rfl ?_
          refine nv_ixor E dX2_findReached_44 ?_
          refine nv_iand E dX2_findReached_45 ?_
          refine lv_istore_n (lv' := [(3, .int (nI ((gcre τ) &&& (rd ^^^ 4294967295)))), (0, .ref (ad 2)), (1, .int (nI rd)), (2, .int (nI r))]) E.1.1 E.1.2.1 dX2_findReached_46 rfl hl (by decide) rfl (fun ls hl => ?_)
          refine lv_aload_n E.1.1 E.1.2.1 dX2_findReached_47 rfl (lv_at hl 1 rfl) ?_
          refine gt_X2_reached E fl_X2_26 hP dX2_findReached_48 ?_
          refine lv_istore_n (lv' := [(1, .int (nI (gcre τ))), (3, .int (nI ((gcre τ) &&& (rd ^^^ 4294967295)))), (0, .ref (ad 2)), (2, .int (nI r))]) E.1.1 E.1.2.1 dX2_findReached_51 rfl hl (by decide) rfl (fun ls hl => ?_)
          refine lv_aload_n E.1.1 E.1.2.1 dX2_findReached_52 rfl (lv_at hl 2 rfl) ?_
          refine lv_iload_n E.1.1 E.1.2.1 dX2_findReached_53 rfl (lv_at hl 1 rfl) ?_
          refine CM.callVv (n := 1) E (c_X2_readBodies l D cI cJ cZ ad τ ((gcre τ) &&& (rd ^^^ 4294967295)) (fresh_lt hT.2.2.1.2.1) (Kp_rf hT.1 hT.2.1 hT.2.2.1)) ml_X2_70 im_X2_readBodies se_X2_readBodies ini_X2 co_X2_readBodies hd_X2_readBodies ⟨Nat.le_of_ble_eq_true rfl, Nat.le_of_ble_eq_true rfl⟩ ⟨Nat.le_refl _, Nat.le_refl _⟩ 2 rfl rfl hP (hD _) hS hA2 rfl hl.1 (Nat.le_of_ble_eq_true rfl) dX2_findReached_54 rfl (fun H locs hP hS => ?_)
          refine lv_aload_n E.1.1 E.1.2.1 dX2_findReached_57 rfl (lv_at hl 2 rfl) ?_
          refine CM.callVv (n := 0) E (c_X2_reachTargets l D cI cJ cZ ad (rsF ((gcre τ) &&& (rd ^^^ 4294967295)) τ) (Kp_rf (Kp_rsF hT).1 (Kp_rsF hT).2.1 (Kp_rsF hT).2.2.1)) ml_X2_73 im_X2_reachTargets se_X2_reachTargets ini_X2 co_X2_reachTargets hd_X2_reachTargets ⟨Nat.le_of_ble_eq_true rfl, Nat.le_of_ble_eq_true rfl⟩ ⟨Nat.le_refl _, Nat.le_refl _⟩ 2 rfl rfl hP (hD _) hS hA2 rfl hl.1 (Nat.le_of_ble_eq_true rfl) dX2_findReached_58 rfl (fun H locs hP hS => ?_)
          refine lv_iinc (v := nI (r + 1)) (lv' := [(2, .int (nI (r + 1))), (1, .int (nI (gcre τ))), (3, .int (nI ((gcre τ) &&& (rd ^^^ 4294967295)))), (0, .ref (ad 2))]) E.1.1 E.1.2.1 dX2_findReached_61 hl (k := 3) rfl (nI_add r 1) (by decide) rfl (fun ls hl => ?_)
          refine lv_goto (tgt := 24) E.1.1 E.1.2.1 dX2_findReached_64 (by decide) ?_
          exact ih24 (r + 1) (gcre τ) (rtF (rsF ((gcre τ) &&& (rd ^^^ 4294967295)) τ)) _ _ _ (Kp_rtF (Kp_rsF hT)) (by omega) hT.2.2.1.2.1 (by rw [hv, frL, if_neg h35]) hP hS (lv_sub hl [3, 1, 0] rfl)
  exact LP24 24 0 0 (fr0 σ) _ _ _ (Kp_fr0 hI hW) (by omega) (by omega) rfl hP hS (lv_sub hl [2, 1, 0] rfl)
set_option maxRecDepth 100000 in
set_option maxHeartbeats 4000000 in
theorem c_X2_verdictOfCalls (l : Launch) (D : va_G) (cI cJ cZ : ClassId) (ad : Nat → Nat) (σ : CS) (q : Nat)  (hq : q < 4) (hK : Kp σ σ) : CM l D (t3 cI cJ cZ) yX2_verdictOfCalls cX2_verdictOfCalls 5 (some .int) 2 [.ref (ad 2), .int (nI q)] (wC ad cI cJ cZ σ) (some (.int (nI (vcF σ q)))) (wC ad cI cJ cZ σ) := by
  refine CM.of (by decide) (Nat.le_of_ble_eq_true rfl) ?_
  intro p e s m below meth c A ls E hr hlk hP hD0 hA hA2 hS hl
  have hD := wC_D hD0
  have hl : lv_has ls 5 [(0, .ref (ad 2)), (1, .int (nI q))] := hl
  refine lv_iconst (v := -1) E.1.1 E.1.2.1 dX2_verdictOfCalls_0 rfl ?_
  refine lv_istore_n (lv' := [(2, .int (-1)), (0, .ref (ad 2)), (1, .int (nI q))]) E.1.1 E.1.2.1 dX2_verdictOfCalls_1 rfl hl (by decide) rfl (fun ls hl => ?_)
  refine lv_iconst (v := nI 0) E.1.1 E.1.2.1 dX2_verdictOfCalls_2 rfl ?_
  refine lv_istore_n (lv' := [(3, .int (nI 0)), (2, .int (-1)), (0, .ref (ad 2)), (1, .int (nI q))]) E.1.1 E.1.2.1 dX2_verdictOfCalls_3 rfl hl (by decide) rfl (fun ls hl => ?_)
  have LP4 : ∀ (n : Nat) (k : Nat) (o : Option Nat) (H : Heap) (locs : List Loc) (ls : Array Slot), (k + n = 6) → (∀ j, o = some j → j < 24) → (vcF σ q = vcL σ q n k o) → va_P D vwCl (wC ad cI cJ cZ σ) H → va_S A s.heap H locs → lv_has ls 5 [(0, .ref (ad 2)), (1, .int (nI q)), (2, .int (oI o)), (3, .int (nI k))] → W p l e { frames := 2, cells := 0, slots := 0, locals := 40 * 2 } s m [.ref (ad 2), .int (nI q)].toArray below meth c H locs 0 0 (MQ below (Qcm D (wC ad cI cJ cZ σ) s.heap.size (some (.int (nI (vcF σ q)))) (wC ad cI cJ cZ σ)) [.ref (ad 2), .int (nI q)].toArray s 0 0 A) (F0 m 4 ls []) := by
    intro n
    induction n with
    | zero =>
      intro k o H locs ls hk ho hv hP hS hl
      refine lv_iload_n E.1.1 E.1.2.1 dX2_verdictOfCalls_4 rfl (lv_at hl 3 rfl) ?_
      refine lv_bipush (v := nI 6) E.1.1 E.1.2.1 dX2_verdictOfCalls_5 rfl ?_
      refine nv_icmp_ge (by omega) (by omega) E dX2_verdictOfCalls_7 (tgt := 64) (by decide) (fun h7 => ?_) (fun h7 => ?_)
      · refine lv_iload_n E.1.1 E.1.2.1 dX2_verdictOfCalls_64 rfl (lv_at hl 2 rfl) ?_
        refine lv_iconst (v := -1) E.1.1 E.1.2.1 dX2_verdictOfCalls_65 rfl ?_
        refine ov_m1_ne (o := o) (fun j hj => by have := ho j hj; omega) E dX2_verdictOfCalls_66 (tgt := 71) (by decide) (fun k66 h66 => ?_) (fun h66 => ?_)
        · have hk66 := ho _ h66
          have hl : lv_has ls 5 [(0, .ref (ad 2)), (1, .int (nI q)), (2, .int (nI k66)), (3, .int (nI k))] := by have q9 := hl; rw [h66] at q9; exact q9
          refine lv_aload_n E.1.1 E.1.2.1 dX2_verdictOfCalls_71 rfl (lv_at hl 0 rfl) ?_
          refine gt_X2_program E fl_X2_18 hP dX2_verdictOfCalls_72 ?_
          refine lv_iload_n E.1.1 E.1.2.1 dX2_verdictOfCalls_75 rfl (lv_at hl 2 rfl) ?_
          refine CM.callVi (n := 1) E (c_X1_fitsInPlace l D cI cJ cZ ad σ k66 hk66 hK.1) ml_X2_94 im_X1_fitsInPlace se_X1_fitsInPlace ini_X1 co_X1_fitsInPlace hd_X1_fitsInPlace ⟨Nat.le_of_ble_eq_true rfl, Nat.le_of_ble_eq_true rfl⟩ ⟨Nat.le_refl _, Nat.le_refl _⟩ 1 rfl rfl hP (hD _) hS hA2 rfl hl.1 (Nat.le_of_ble_eq_true rfl) dX2_verdictOfCalls_76 rfl (fun H locs hP hS => ?_)
          refine bv_if_eq (x := fitF (gcL σ) (gcK σ) k66) E dX2_verdictOfCalls_79 (tgt := 86) (by decide) (fun h79 => ?_) (fun h79 => ?_)
          · refine lv_iconst (v := nI 2) E.1.1 E.1.2.1 dX2_verdictOfCalls_86 rfl ?_
            exact CM.reti E hr hlk hA hP hS (by rw [hv, h66, vcL]; first | (rw [if_pos h79]; done) | rw [if_neg (by rw [h79]; decide)]) dX2_verdictOfCalls_87
          · refine lv_iconst (v := nI 3) E.1.1 E.1.2.1 dX2_verdictOfCalls_82 rfl ?_
            refine lv_goto (tgt := 87) E.1.1 E.1.2.1 dX2_verdictOfCalls_83 (by decide) ?_
            exact CM.reti E hr hlk hA hP hS (by rw [hv, h66, vcL]; first | (rw [if_pos h79]; done) | rw [if_neg (by rw [h79]; decide)]) dX2_verdictOfCalls_87
        · refine lv_iconst (v := nI 4) E.1.1 E.1.2.1 dX2_verdictOfCalls_69 rfl ?_
          exact CM.reti E hr hlk hA hP hS (by rw [hv, h66]; rfl) dX2_verdictOfCalls_70
      · exact absurd h7 (by omega)
    | succ n ih4 =>
      intro k o H locs ls hk ho hv hP hS hl
      refine lv_iload_n E.1.1 E.1.2.1 dX2_verdictOfCalls_4 rfl (lv_at hl 3 rfl) ?_
      refine lv_bipush (v := nI 6) E.1.1 E.1.2.1 dX2_verdictOfCalls_5 rfl ?_
      refine nv_icmp_ge (by omega) (by omega) E dX2_verdictOfCalls_7 (tgt := 64) (by decide) (fun h7 => ?_) (fun h7 => ?_)
      · exact absurd h7 (by omega)
      · refine lv_aload_n E.1.1 E.1.2.1 dX2_verdictOfCalls_10 rfl (lv_at hl 0 rfl) ?_
        refine gt_X2_made E fl_X2_22 hP dX2_verdictOfCalls_11 ?_
        refine lv_iload_n E.1.1 E.1.2.1 dX2_verdictOfCalls_14 rfl (lv_at hl 3 rfl) ?_
        refine CM.callSi (n := 2) E (c_X2_isIn l D cI cJ cZ ad σ (gcma σ) k (by have := hK.2.2.1.1; omega) (by omega)) ml_X2_51 st_X2_isIn ini_X2 co_X2_isIn hd_X2_isIn ⟨Nat.le_of_ble_eq_true rfl, Nat.le_of_ble_eq_true rfl⟩ ⟨Nat.le_refl _, Nat.le_refl _⟩ hP (hD _) hS hA2 rfl hl.1 (Nat.le_of_ble_eq_true rfl) dX2_verdictOfCalls_15 rfl (fun H locs hP hS => ?_)
        refine bv_if_eq (x := (gcma σ).testBit k) E dX2_verdictOfCalls_18 (tgt := 33) (by decide) (fun h18 => ?_) (fun h18 => ?_)
        · refine lv_iconst (v := oI none) E.1.1 E.1.2.1 dX2_verdictOfCalls_33 rfl ?_
          refine lv_istore (lv' := [(4, .int (oI none)), (0, .ref (ad 2)), (1, .int (nI q)), (2, .int (oI o)), (3, .int (nI k))]) E.1.1 E.1.2.1 dX2_verdictOfCalls_34 hl (by decide) rfl (fun ls hl => ?_)
          refine lv_iload E.1.1 E.1.2.1 dX2_verdictOfCalls_36 (lv_at hl 0 rfl) ?_
          refine lv_iconst (v := -1) E.1.1 E.1.2.1 dX2_verdictOfCalls_38 rfl ?_
          refine ov_m1_eq (o := none) (fun j hj => by first | (cases hj; done) | (have := tgC_lt hK.1 (by omega) hq hj; omega)) E dX2_verdictOfCalls_39 (tgt := 58) (by decide) (fun h39 => ?_) (fun k39 h39 => ?_)
          · refine lv_iinc (v := nI (k + 1)) (lv' := [(3, .int (nI (k + 1))), (4, .int (oI none)), (0, .ref (ad 2)), (1, .int (nI q)), (2, .int (oI o))]) E.1.1 E.1.2.1 dX2_verdictOfCalls_58 hl (k := 4) rfl (nI_add k 1) (by decide) rfl (fun ls hl => ?_)
            refine lv_goto (tgt := 4) E.1.1 E.1.2.1 dX2_verdictOfCalls_61 (by decide) ?_
            exact ih4 (k + 1) o _ _ _ (by omega) (by first | exact ho | (intro j hj; cases hj; exact hk39)) (by first | (rw [hv]; simp [vcL, h18]; done) | (rw [hv]; simp [vcL, h18, h39]; done) | (rw [hv]; simp [vcL, h18, h39, h44]; done) | (rw [hv]; simp [vcL, h18, h39, h44, h50]; done)) hP hS (lv_sub hl [2, 3, 4, 0] rfl)
          · cases h39
        · refine lv_aload_n E.1.1 E.1.2.1 dX2_verdictOfCalls_21 rfl (lv_at hl 0 rfl) ?_
          refine gt_X2_program E fl_X2_18 hP dX2_verdictOfCalls_22 ?_
          refine lv_iload_n E.1.1 E.1.2.1 dX2_verdictOfCalls_25 rfl (lv_at hl 3 rfl) ?_
          refine lv_iload_n E.1.1 E.1.2.1 dX2_verdictOfCalls_26 rfl (lv_at hl 1 rfl) ?_
          refine CM.callVi (n := 2) E (c_X1_target l D cI cJ cZ ad σ k q (by omega) hq hK.1) ml_X2_76 im_X1_target se_X1_target ini_X1 co_X1_target hd_X1_target ⟨Nat.le_of_ble_eq_true rfl, Nat.le_of_ble_eq_true rfl⟩ ⟨Nat.le_refl _, Nat.le_refl _⟩ 1 rfl rfl hP (hD _) hS hA2 rfl hl.1 (Nat.le_of_ble_eq_true rfl) dX2_verdictOfCalls_27 rfl (fun H locs hP hS => ?_)
          refine W.eq (g2 := F0 m 30 ls [.int (oI (tgC σ k q))]) rfl ?_
          refine lv_goto (tgt := 34) E.1.1 E.1.2.1 dX2_verdictOfCalls_30 (by decide) ?_
          refine lv_istore (lv' := [(4, .int (oI (tgC σ k q))), (0, .ref (ad 2)), (1, .int (nI q)), (2, .int (oI o)), (3, .int (nI k))]) E.1.1 E.1.2.1 dX2_verdictOfCalls_34 hl (by decide) rfl (fun ls hl => ?_)
          refine lv_iload E.1.1 E.1.2.1 dX2_verdictOfCalls_36 (lv_at hl 0 rfl) ?_
          refine lv_iconst (v := -1) E.1.1 E.1.2.1 dX2_verdictOfCalls_38 rfl ?_
          refine ov_m1_eq (o := (tgC σ k q)) (fun j hj => by first | (cases hj; done) | (have := tgC_lt hK.1 (by omega) hq hj; omega)) E dX2_verdictOfCalls_39 (tgt := 58) (by decide) (fun h39 => ?_) (fun k39 h39 => ?_)
          · refine lv_iinc (v := nI (k + 1)) (lv' := [(3, .int (nI (k + 1))), (4, .int (oI (tgC σ k q))), (0, .ref (ad 2)), (1, .int (nI q)), (2, .int (oI o))]) E.1.1 E.1.2.1 dX2_verdictOfCalls_58 hl (k := 4) rfl (nI_add k 1) (by decide) rfl (fun ls hl => ?_)
            refine lv_goto (tgt := 4) E.1.1 E.1.2.1 dX2_verdictOfCalls_61 (by decide) ?_
            exact ih4 (k + 1) o _ _ _ (by omega) (by first | exact ho | (intro j hj; cases hj; exact hk39)) (by first | (rw [hv]; simp [vcL, h18]; done) | (rw [hv]; simp [vcL, h18, h39]; done) | (rw [hv]; simp [vcL, h18, h39, h44]; done) | (rw [hv]; simp [vcL, h18, h39, h44, h50]; done)) hP hS (lv_sub hl [2, 3, 4, 0] rfl)
          · have hk39 := tgC_lt hK.1 (by omega) hq h39
            have hl : lv_has ls 5 [(4, .int (nI k39)), (0, .ref (ad 2)), (1, .int (nI q)), (2, .int (oI o)), (3, .int (nI k))] := by have q9 := hl; rw [h39] at q9; exact q9
            refine lv_iload_n E.1.1 E.1.2.1 dX2_verdictOfCalls_42 rfl (lv_at hl 3 rfl) ?_
            refine lv_iconst (v := -1) E.1.1 E.1.2.1 dX2_verdictOfCalls_43 rfl ?_
            refine ov_m1_eq (o := o) (fun j hj => by have := ho j hj; omega) E dX2_verdictOfCalls_44 (tgt := 55) (by decide) (fun h44 => ?_) (fun k44 h44 => ?_)
            · refine lv_iload E.1.1 E.1.2.1 dX2_verdictOfCalls_55 (lv_at hl 0 rfl) ?_
              refine lv_istore_n (lv' := [(2, .int (nI k39)), (4, .int (nI k39)), (0, .ref (ad 2)), (1, .int (nI q)), (3, .int (nI k))]) E.1.1 E.1.2.1 dX2_verdictOfCalls_57 rfl hl (by decide) rfl (fun ls hl => ?_)
              refine lv_iinc (v := nI (k + 1)) (lv' := [(3, .int (nI (k + 1))), (2, .int (nI k39)), (4, .int (nI k39)), (0, .ref (ad 2)), (1, .int (nI q))]) E.1.1 E.1.2.1 dX2_verdictOfCalls_58 hl (k := 4) rfl (nI_add k 1) (by decide) rfl (fun ls hl => ?_)
              refine lv_goto (tgt := 4) E.1.1 E.1.2.1 dX2_verdictOfCalls_61 (by decide) ?_
              exact ih4 (k + 1) (some k39) _ _ _ (by omega) (by first | exact ho | (intro j hj; cases hj; exact hk39)) (by first | (rw [hv]; simp [vcL, h18]; done) | (rw [hv]; simp [vcL, h18, h39]; done) | (rw [hv]; simp [vcL, h18, h39, h44]; done) | (rw [hv]; simp [vcL, h18, h39, h44, h50]; done)) hP hS (lv_sub hl [3, 4, 1, 0] rfl)
            · have hk44 := ho _ h44
              have hl : lv_has ls 5 [(4, .int (nI k39)), (0, .ref (ad 2)), (1, .int (nI q)), (2, .int (nI k44)), (3, .int (nI k))] := by have q9 := hl; rw [h44] at q9; exact q9
              refine lv_iload_n E.1.1 E.1.2.1 dX2_verdictOfCalls_47 rfl (lv_at hl 3 rfl) ?_
              refine lv_iload E.1.1 E.1.2.1 dX2_verdictOfCalls_48 (lv_at hl 0 rfl) ?_
              refine nv_icmp_eq (by omega) (by omega) E dX2_verdictOfCalls_50 (tgt := 55) (by decide) (fun h50 => ?_) (fun h50 => ?_)
              · refine lv_iload E.1.1 E.1.2.1 dX2_verdictOfCalls_55 (lv_at hl 0 rfl) ?_
                refine lv_istore_n (lv' := [(2, .int (nI k39)), (4, .int (nI k39)), (0, .ref (ad 2)), (1, .int (nI q)), (3, .int (nI k))]) E.1.1 E.1.2.1 dX2_verdictOfCalls_57 rfl hl (by decide) rfl (fun ls hl => ?_)
                refine lv_iinc (v := nI (k + 1)) (lv' := [(3, .int (nI (k + 1))), (2, .int (nI k39)), (4, .int (nI k39)), (0, .ref (ad 2)), (1, .int (nI q))]) E.1.1 E.1.2.1 dX2_verdictOfCalls_58 hl (k := 4) rfl (nI_add k 1) (by decide) rfl (fun ls hl => ?_)
                refine lv_goto (tgt := 4) E.1.1 E.1.2.1 dX2_verdictOfCalls_61 (by decide) ?_
                exact ih4 (k + 1) (some k39) _ _ _ (by omega) (by first | exact ho | (intro j hj; cases hj; exact hk39)) (by first | (rw [hv]; simp [vcL, h18]; done) | (rw [hv]; simp [vcL, h18, h39]; done) | (rw [hv]; simp [vcL, h18, h39, h44]; done) | (rw [hv]; simp [vcL, h18, h39, h44, h50]; done)) hP hS (lv_sub hl [3, 4, 1, 0] rfl)
              · refine lv_iconst (v := nI 1) E.1.1 E.1.2.1 dX2_verdictOfCalls_53 rfl ?_
                exact CM.reti E hr hlk hA hP hS (by rw [hv]; simp [vcL, h18, h39, h44, h50]) dX2_verdictOfCalls_54
  exact LP4 6 0 none _ _ _ (by omega) (fun j hj => by cases hj) rfl hP hS (lv_sub hl [2, 3, 1, 0] rfl)
set_option maxRecDepth 100000 in
set_option maxHeartbeats 4000000 in
theorem c_X2_waysOut (l : Launch) (D : va_G) (cI cJ cZ : ClassId) (ad : Nat → Nat) (σ : CS) (b : Nat)  (hb : b < 24) (hI : PI σ) (hW : WI σ) : CM l D (t3 cI cJ cZ) yX2_waysOut cX2_waysOut 6 (some .int) 1 [.ref (ad 2), .int (nI b)] (wC ad cI cJ cZ σ) (some (.int (nI (woF σ b)))) (wC ad cI cJ cZ σ) := by
  refine CM.of (by decide) (Nat.le_of_ble_eq_true rfl) ?_
  intro p e s m below meth c A ls E hr hlk hP hD0 hA hA2 hS hl
  have hD := wC_D hD0
  have hl : lv_has ls 6 [(0, .ref (ad 2)), (1, .int (nI b))] := hl
  have hL := hI.2.1 b
  refine lv_iconst (v := nI 0) E.1.1 E.1.2.1 dX2_waysOut_0 rfl ?_
  refine lv_istore_n (lv' := [(2, .int (nI 0)), (0, .ref (ad 2)), (1, .int (nI b))]) E.1.1 E.1.2.1 dX2_waysOut_1 rfl hl (by decide) rfl (fun ls hl => ?_)
  refine lv_iconst (v := nI 0) E.1.1 E.1.2.1 dX2_waysOut_2 rfl ?_
  refine lv_istore_n (lv' := [(3, .int (nI 0)), (2, .int (nI 0)), (0, .ref (ad 2)), (1, .int (nI b))]) E.1.1 E.1.2.1 dX2_waysOut_3 rfl hl (by decide) rfl (fun ls hl => ?_)
  have LP4 : ∀ (n : Nat) (k : Nat) (w : Nat) (H : Heap) (locs : List Loc) (ls : Array Slot), (k + n = gcL σ b) → (woF σ b = itN (woS σ b) n k w) → va_P D vwCl (wC ad cI cJ cZ σ) H → va_S A s.heap H locs → lv_has ls 6 [(0, .ref (ad 2)), (1, .int (nI b)), (2, .int (nI w)), (3, .int (nI k))] → W p l e { frames := 1, cells := 0, slots := 0, locals := 40 * 1 } s m [.ref (ad 2), .int (nI b)].toArray below meth c H locs 0 0 (MQ below (Qcm D (wC ad cI cJ cZ σ) s.heap.size (some (.int (nI (woF σ b)))) (wC ad cI cJ cZ σ)) [.ref (ad 2), .int (nI b)].toArray s 0 0 A) (F0 m 4 ls []) := by
    intro n
    induction n with
    | zero =>
      intro k w H locs ls hk hv hP hS hl
      refine lv_iload_n E.1.1 E.1.2.1 dX2_waysOut_4 rfl (lv_at hl 3 rfl) ?_
      refine lv_aload_n E.1.1 E.1.2.1 dX2_waysOut_5 rfl (lv_at hl 0 rfl) ?_
      refine gt_X2_program E fl_X2_18 hP dX2_waysOut_6 ?_
      refine lv_iload_n E.1.1 E.1.2.1 dX2_waysOut_9 rfl (lv_at hl 1 rfl) ?_
      refine CM.callVi (n := 1) E (c_X1_length l D cI cJ cZ ad σ b (by omega)) ml_X2_82 im_X1_length se_X1_length ini_X1 co_X1_length hd_X1_length ⟨Nat.le_of_ble_eq_true rfl, Nat.le_of_ble_eq_true rfl⟩ ⟨Nat.le_refl _, Nat.le_refl _⟩ 1 rfl rfl hP (hD _) hS hA2 rfl hl.1 (Nat.le_of_ble_eq_true rfl) dX2_waysOut_10 rfl (fun H locs hP hS => ?_)
      refine nv_icmp_ge (by omega) (by omega) E dX2_waysOut_13 (tgt := 112) (by decide) (fun h13 => ?_) (fun h13 => ?_)
      · refine lv_iload_n E.1.1 E.1.2.1 dX2_waysOut_112 rfl (lv_at hl 2 rfl) ?_
        exact CM.reti E hr hlk hA hP hS (by rw [hv]; rfl) dX2_waysOut_113
      · exact absurd h13 (by omega)
    | succ n ih4 =>
      intro k w H locs ls hk hv hP hS hl
      refine lv_iload_n E.1.1 E.1.2.1 dX2_waysOut_4 rfl (lv_at hl 3 rfl) ?_
      refine lv_aload_n E.1.1 E.1.2.1 dX2_waysOut_5 rfl (lv_at hl 0 rfl) ?_
      refine gt_X2_program E fl_X2_18 hP dX2_waysOut_6 ?_
      refine lv_iload_n E.1.1 E.1.2.1 dX2_waysOut_9 rfl (lv_at hl 1 rfl) ?_
      refine CM.callVi (n := 1) E (c_X1_length l D cI cJ cZ ad σ b (by omega)) ml_X2_82 im_X1_length se_X1_length ini_X1 co_X1_length hd_X1_length ⟨Nat.le_of_ble_eq_true rfl, Nat.le_of_ble_eq_true rfl⟩ ⟨Nat.le_refl _, Nat.le_refl _⟩ 1 rfl rfl hP (hD _) hS hA2 rfl hl.1 (Nat.le_of_ble_eq_true rfl) dX2_waysOut_10 rfl (fun H locs hP hS => ?_)
      refine nv_icmp_ge (by omega) (by omega) E dX2_waysOut_13 (tgt := 112) (by decide) (fun h13 => ?_) (fun h13 => ?_)
      · exact absurd h13 (by omega)
      · refine lv_iload_n E.1.1 E.1.2.1 dX2_waysOut_16 rfl (lv_at hl 1 rfl) ?_
        refine lv_iload_n E.1.1 E.1.2.1 dX2_waysOut_17 rfl (lv_at hl 3 rfl) ?_
        refine CM.callSi (n := 2) E (c_X1_placeOf l D cI cJ cZ ad σ b k) ml_X2_29 st_X1_placeOf ini_X1 co_X1_placeOf hd_X1_placeOf ⟨Nat.le_of_ble_eq_true rfl, Nat.le_of_ble_eq_true rfl⟩ ⟨Nat.le_refl _, Nat.le_refl _⟩ hP (hD _) hS hA2 rfl hl.1 (Nat.le_of_ble_eq_true rfl) dX2_waysOut_18 rfl (fun H locs hP hS => ?_)
        refine lv_istore (lv' := [(4, .int (nI (b * 10 + k))), (0, .ref (ad 2)), (1, .int (nI b)), (2, .int (nI w)), (3, .int (nI k))]) E.1.1 E.1.2.1 dX2_waysOut_21 hl (by decide) rfl (fun ls hl => ?_)
        have hKk := hI.2.2.1 (b * 10 + k)
        refine lv_aload_n E.1.1 E.1.2.1 dX2_waysOut_23 rfl (lv_at hl 1 rfl) ?_
        refine gt_X2_program E fl_X2_18 hP dX2_waysOut_24 ?_
        refine lv_iload E.1.1 E.1.2.1 dX2_waysOut_27 (lv_at hl 0 rfl) ?_
        refine CM.callVi (n := 1) E (c_X1_kind l D cI cJ cZ ad σ (b * 10 + k) (by omega)) ml_X2_85 im_X1_kind se_X1_kind ini_X1 co_X1_kind hd_X1_kind ⟨Nat.le_of_ble_eq_true rfl, Nat.le_of_ble_eq_true rfl⟩ ⟨Nat.le_refl _, Nat.le_refl _⟩ 1 rfl rfl hP (hD _) hS hA2 rfl hl.1 (Nat.le_of_ble_eq_true rfl) dX2_waysOut_29 rfl (fun H locs hP hS => ?_)
        refine lv_istore (lv' := [(5, .int (nI (gcK σ (b * 10 + k)))), (4, .int (nI (b * 10 + k))), (0, .ref (ad 2)), (1, .int (nI b)), (2, .int (nI w)), (3, .int (nI k))]) E.1.1 E.1.2.1 dX2_waysOut_32 hl (by decide) rfl (fun ls hl => ?_)
        refine lv_iload E.1.1 E.1.2.1 dX2_waysOut_34 (lv_at hl 0 rfl) ?_
        refine lv_bipush (v := nI 6) E.1.1 E.1.2.1 dX2_waysOut_36 rfl ?_
        refine nv_icmp_ne (by omega) (by omega) E dX2_waysOut_38 (tgt := 58) (by decide) (fun h38 => ?_) (fun h38 => ?_)
        · refine lv_iload E.1.1 E.1.2.1 dX2_waysOut_58 (lv_at hl 0 rfl) ?_
          refine lv_bipush (v := nI 7) E.1.1 E.1.2.1 dX2_waysOut_60 rfl ?_
          refine nv_icmp_ne (by omega) (by omega) E dX2_waysOut_62 (tgt := 85) (by decide) (fun h62 => ?_) (fun h62 => ?_)
          · refine lv_iload E.1.1 E.1.2.1 dX2_waysOut_85 (lv_at hl 0 rfl) ?_
            refine lv_bipush (v := nI 11) E.1.1 E.1.2.1 dX2_waysOut_87 rfl ?_
            refine nv_icmp_ne (by omega) (by omega) E dX2_waysOut_89 (tgt := 106) (by decide) (fun h89 => ?_) (fun h89 => ?_)
            · refine lv_iinc (v := nI (k + 1)) (lv' := [(3, .int (nI (k + 1))), (5, .int (nI (gcK σ (b * 10 + k)))), (4, .int (nI (b * 10 + k))), (0, .ref (ad 2)), (1, .int (nI b)), (2, .int (nI w))]) E.1.1 E.1.2.1 dX2_waysOut_106 hl (k := 5) rfl (nI_add k 1) (by decide) rfl (fun ls hl => ?_)
              refine lv_goto (tgt := 4) E.1.1 E.1.2.1 dX2_waysOut_109 (by decide) ?_
              exact ih4 (k + 1) w _ _ _ (by omega) (by rw [hv, itN, woS]; first | (rw [if_pos h38]; done) | (rw [if_neg h38, if_pos h62]; done) | (rw [if_neg h38, if_neg h62, if_pos h89]; done) | rw [if_neg h38, if_neg h62, if_neg h89]) hP hS (lv_sub hl [3, 4, 5, 0] rfl)
            · refine lv_iload_n E.1.1 E.1.2.1 dX2_waysOut_92 rfl (lv_at hl 4 rfl) ?_
              refine lv_iconst (v := nI 1) E.1.1 E.1.2.1 dX2_waysOut_93 rfl ?_
              refine lv_aload_n E.1.1 E.1.2.1 dX2_waysOut_94 rfl (lv_at hl 2 rfl) ?_
              refine gt_X2_program E fl_X2_18 hP dX2_waysOut_95 ?_
              refine lv_iload E.1.1 E.1.2.1 dX2_waysOut_98 (lv_at hl 1 rfl) ?_
              refine CM.callVi (n := 1) E (c_X1_x l D cI cJ cZ ad σ (b * 10 + k) (by omega)) ml_X2_101 im_X1_x se_X1_x ini_X1 co_X1_x hd_X1_x ⟨Nat.le_of_ble_eq_true rfl, Nat.le_of_ble_eq_true rfl⟩ ⟨Nat.le_refl _, Nat.le_refl _⟩ 1 rfl rfl hP (hD _) hS hA2 rfl hl.1 (Nat.le_of_ble_eq_true rfl) dX2_waysOut_100 rfl (fun H locs hP hS => ?_)
              refine nv_ishl (by have := hI.2.2.2.1 (b * 10 + k); omega) E dX2_waysOut_103 ?_
              refine nv_ior E dX2_waysOut_104 ?_
              refine lv_istore_n (lv' := [(2, .int (nI (w ||| (1 <<< (gcX σ (b * 10 + k)))))), (5, .int (nI (gcK σ (b * 10 + k)))), (4, .int (nI (b * 10 + k))), (0, .ref (ad 2)), (1, .int (nI b)), (3, .int (nI k))]) E.1.1 E.1.2.1 dX2_waysOut_105 rfl hl (by decide) rfl (fun ls hl => ?_)
              refine lv_iinc (v := nI (k + 1)) (lv' := [(3, .int (nI (k + 1))), (2, .int (nI (w ||| (1 <<< (gcX σ (b * 10 + k)))))), (5, .int (nI (gcK σ (b * 10 + k)))), (4, .int (nI (b * 10 + k))), (0, .ref (ad 2)), (1, .int (nI b))]) E.1.1 E.1.2.1 dX2_waysOut_106 hl (k := 5) rfl (nI_add k 1) (by decide) rfl (fun ls hl => ?_)
              refine lv_goto (tgt := 4) E.1.1 E.1.2.1 dX2_waysOut_109 (by decide) ?_
              exact ih4 (k + 1) (w ||| (1 <<< (gcX σ (b * 10 + k)))) _ _ _ (by omega) (by rw [hv, itN, woS]; first | (rw [if_pos h38]; done) | (rw [if_neg h38, if_pos h62]; done) | (rw [if_neg h38, if_neg h62, if_pos h89]; done) | rw [if_neg h38, if_neg h62, if_neg h89]) hP hS (lv_sub hl [4, 5, 1, 0] rfl)
          · refine lv_iload_n E.1.1 E.1.2.1 dX2_waysOut_65 rfl (lv_at hl 4 rfl) ?_
            refine lv_iconst (v := nI 1) E.1.1 E.1.2.1 dX2_waysOut_66 rfl ?_
            refine lv_aload_n E.1.1 E.1.2.1 dX2_waysOut_67 rfl (lv_at hl 2 rfl) ?_
            refine gt_X2_program E fl_X2_18 hP dX2_waysOut_68 ?_
            refine lv_iload E.1.1 E.1.2.1 dX2_waysOut_71 (lv_at hl 1 rfl) ?_
            refine CM.callVi (n := 1) E (c_X1_y l D cI cJ cZ ad σ (b * 10 + k) (by omega)) ml_X2_88 im_X1_y se_X1_y ini_X1 co_X1_y hd_X1_y ⟨Nat.le_of_ble_eq_true rfl, Nat.le_of_ble_eq_true rfl⟩ ⟨Nat.le_refl _, Nat.le_refl _⟩ 1 rfl rfl hP (hD _) hS hA2 rfl hl.1 (Nat.le_of_ble_eq_true rfl) dX2_waysOut_73 rfl (fun H locs hP hS => ?_)
            refine tpi (y := nI (yN σ (b * 10 + k))) ((WI_y hW (by omega)).1) ?_
            refine nv_ishl (by have := (WI_y hW (p := b * 10 + k) (by omega)).2; omega) E dX2_waysOut_76 ?_
            refine lv_bipush (v := nI 32) E.1.1 E.1.2.1 dX2_waysOut_77 rfl ?_
            refine nv_ior E dX2_waysOut_79 ?_
            refine nv_ior E dX2_waysOut_80 ?_
            refine lv_istore_n (lv' := [(2, .int (nI (w ||| ((1 <<< (yN σ (b * 10 + k))) ||| 32)))), (5, .int (nI (gcK σ (b * 10 + k)))), (4, .int (nI (b * 10 + k))), (0, .ref (ad 2)), (1, .int (nI b)), (3, .int (nI k))]) E.1.1 E.1.2.1 dX2_waysOut_81 rfl hl (by decide) rfl (fun ls hl => ?_)
            refine lv_goto (tgt := 106) E.1.1 E.1.2.1 dX2_waysOut_82 (by decide) ?_
            refine lv_iinc (v := nI (k + 1)) (lv' := [(3, .int (nI (k + 1))), (2, .int (nI (w ||| ((1 <<< (yN σ (b * 10 + k))) ||| 32)))), (5, .int (nI (gcK σ (b * 10 + k)))), (4, .int (nI (b * 10 + k))), (0, .ref (ad 2)), (1, .int (nI b))]) E.1.1 E.1.2.1 dX2_waysOut_106 hl (k := 5) rfl (nI_add k 1) (by decide) rfl (fun ls hl => ?_)
            refine lv_goto (tgt := 4) E.1.1 E.1.2.1 dX2_waysOut_109 (by decide) ?_
            exact ih4 (k + 1) (w ||| ((1 <<< (yN σ (b * 10 + k))) ||| 32)) _ _ _ (by omega) (by rw [hv, itN, woS]; first | (rw [if_pos h38]; done) | (rw [if_neg h38, if_pos h62]; done) | (rw [if_neg h38, if_neg h62, if_pos h89]; done) | rw [if_neg h38, if_neg h62, if_neg h89]) hP hS (lv_sub hl [4, 5, 1, 0] rfl)
        · refine lv_iload_n E.1.1 E.1.2.1 dX2_waysOut_41 rfl (lv_at hl 4 rfl) ?_
          refine lv_iconst (v := nI 1) E.1.1 E.1.2.1 dX2_waysOut_42 rfl ?_
          refine lv_aload_n E.1.1 E.1.2.1 dX2_waysOut_43 rfl (lv_at hl 2 rfl) ?_
          refine gt_X2_program E fl_X2_18 hP dX2_waysOut_44 ?_
          refine lv_iload E.1.1 E.1.2.1 dX2_waysOut_47 (lv_at hl 1 rfl) ?_
          refine CM.callVi (n := 1) E (c_X1_y l D cI cJ cZ ad σ (b * 10 + k) (by omega)) ml_X2_88 im_X1_y se_X1_y ini_X1 co_X1_y hd_X1_y ⟨Nat.le_of_ble_eq_true rfl, Nat.le_of_ble_eq_true rfl⟩ ⟨Nat.le_refl _, Nat.le_refl _⟩ 1 rfl rfl hP (hD _) hS hA2 rfl hl.1 (Nat.le_of_ble_eq_true rfl) dX2_waysOut_49 rfl (fun H locs hP hS => ?_)
          refine tpi (y := nI (yN σ (b * 10 + k))) ((WI_y hW (by omega)).1) ?_
          refine nv_ishl (by have := (WI_y hW (p := b * 10 + k) (by omega)).2; omega) E dX2_waysOut_52 ?_
          refine nv_ior E dX2_waysOut_53 ?_
          refine lv_istore_n (lv' := [(2, .int (nI (w ||| (1 <<< (yN σ (b * 10 + k)))))), (5, .int (nI (gcK σ (b * 10 + k)))), (4, .int (nI (b * 10 + k))), (0, .ref (ad 2)), (1, .int (nI b)), (3, .int (nI k))]) E.1.1 E.1.2.1 dX2_waysOut_54 rfl hl (by decide) rfl (fun ls hl => ?_)
          refine lv_goto (tgt := 106) E.1.1 E.1.2.1 dX2_waysOut_55 (by decide) ?_
          refine lv_iinc (v := nI (k + 1)) (lv' := [(3, .int (nI (k + 1))), (2, .int (nI (w ||| (1 <<< (yN σ (b * 10 + k)))))), (5, .int (nI (gcK σ (b * 10 + k)))), (4, .int (nI (b * 10 + k))), (0, .ref (ad 2)), (1, .int (nI b))]) E.1.1 E.1.2.1 dX2_waysOut_106 hl (k := 5) rfl (nI_add k 1) (by decide) rfl (fun ls hl => ?_)
          refine lv_goto (tgt := 4) E.1.1 E.1.2.1 dX2_waysOut_109 (by decide) ?_
          exact ih4 (k + 1) (w ||| (1 <<< (yN σ (b * 10 + k)))) _ _ _ (by omega) (by rw [hv, itN, woS]; first | (rw [if_pos h38]; done) | (rw [if_neg h38, if_pos h62]; done) | (rw [if_neg h38, if_neg h62, if_pos h89]; done) | rw [if_neg h38, if_neg h62, if_neg h89]) hP hS (lv_sub hl [4, 5, 1, 0] rfl)
  exact LP4 (gcL σ b) 0 0 _ _ _ (by omega) rfl hP hS (lv_sub hl [2, 3, 1, 0] rfl)
set_option maxRecDepth 100000 in
set_option maxHeartbeats 4000000 in
theorem c_X2_holders (l : Launch) (D : va_G) (cI cJ cZ : ClassId) (ad : Nat → Nat) (σ : CS) (b : Nat) (r : Nat)  (hb : b < 24) (hr0 : r < 6) (hI : PI σ) (hW : WI σ) : CM l D (t3 cI cJ cZ) yX2_holders cX2_holders 7 (some .int) 1 [.ref (ad 2), .int (nI b), .int (nI r)] (wC ad cI cJ cZ σ) (some (.int (nI (hoF σ b r)))) (wC ad cI cJ cZ σ) := by
  refine CM.of (by decide) (Nat.le_of_ble_eq_true rfl) ?_
  intro p e s m below meth c A ls E hr hlk hP hD0 hA hA2 hS hl
  have hD := wC_D hD0
  have hl : lv_has ls 7 [(0, .ref (ad 2)), (1, .int (nI b)), (2, .int (nI r))] := hl
  have hL := hI.2.1 b
  refine lv_iconst (v := nI 1) E.1.1 E.1.2.1 dX2_holders_0 rfl ?_
  refine lv_iload_n E.1.1 E.1.2.1 dX2_holders_1 rfl (lv_at hl 2 rfl) ?_
  refine nv_ishl (by omega) E dX2_holders_2 ?_
  refine lv_istore_n (lv' := [(3, .int (nI (1 <<< r))), (0, .ref (ad 2)), (1, .int (nI b)), (2, .int (nI r))]) E.1.1 E.1.2.1 dX2_holders_3 rfl hl (by decide) rfl (fun ls hl => ?_)
  refine lv_iconst (v := nI 1) E.1.1 E.1.2.1 dX2_holders_4 rfl ?_
  refine lv_istore (lv' := [(4, .int (nI 1)), (3, .int (nI (1 <<< r))), (0, .ref (ad 2)), (1, .int (nI b)), (2, .int (nI r))]) E.1.1 E.1.2.1 dX2_holders_5 hl (by decide) rfl (fun ls hl => ?_)
  have LP7 : ∀ (n : Nat) (t : Nat) (w : Nat) (H : Heap) (locs : List Loc) (ls : Array Slot), (t + n = 6) → (w < 64) → (hoF σ b r = itN (hoR σ b) n t w) → va_P D vwCl (wC ad cI cJ cZ σ) H → va_S A s.heap H locs → lv_has ls 7 [(0, .ref (ad 2)), (1, .int (nI b)), (2, .int (nI r)), (3, .int (nI w)), (4, .int (nI t))] → W p l e { frames := 1, cells := 0, slots := 0, locals := 40 * 1 } s m [.ref (ad 2), .int (nI b), .int (nI r)].toArray below meth c H locs 0 0 (MQ below (Qcm D (wC ad cI cJ cZ σ) s.heap.size (some (.int (nI (hoF σ b r)))) (wC ad cI cJ cZ σ)) [.ref (ad 2), .int (nI b), .int (nI r)].toArray s 0 0 A) (F0 m 7 ls []) := by
    intro n
    induction n with
    | zero =>
      intro t w H locs ls hk hw hv hP hS hl
      refine lv_iload E.1.1 E.1.2.1 dX2_holders_7 (lv_at hl 4 rfl) ?_
      refine lv_bipush (v := nI 6) E.1.1 E.1.2.1 dX2_holders_9 rfl ?_
      refine nv_icmp_ge (by omega) (by omega) E dX2_holders_11 (tgt := 93) (by decide) (fun h11 => ?_) (fun h11 => ?_)
      · refine lv_iload_n E.1.1 E.1.2.1 dX2_holders_93 rfl (lv_at hl 3 rfl) ?_
        exact CM.reti E hr hlk hA hP hS (by rw [hv]; rfl) dX2_holders_94
      · exact absurd h11 (by omega)
    | succ n ih7 =>
      intro t w H locs ls hk hw hv hP hS hl
      refine lv_iload E.1.1 E.1.2.1 dX2_holders_7 (lv_at hl 4 rfl) ?_
      refine lv_bipush (v := nI 6) E.1.1 E.1.2.1 dX2_holders_9 rfl ?_
      refine nv_icmp_ge (by omega) (by omega) E dX2_holders_11 (tgt := 93) (by decide) (fun h11 => ?_) (fun h11 => ?_)
      · exact absurd h11 (by omega)
      · refine lv_iconst (v := nI 0) E.1.1 E.1.2.1 dX2_holders_14 rfl ?_
        refine lv_istore (lv' := [(5, .int (nI 0)), (0, .ref (ad 2)), (1, .int (nI b)), (2, .int (nI r)), (3, .int (nI w)), (4, .int (nI t))]) E.1.1 E.1.2.1 dX2_holders_15 hl (by decide) rfl (fun ls hl => ?_)
        have LP17 : ∀ (n2 : Nat) (k : Nat) (w2 : Nat) (H : Heap) (locs : List Loc) (ls : Array Slot), (k + n2 = gcL σ b) → (w2 < 64) → (itN (hoS σ b) (gcL σ b) 0 w = itN (hoS σ b) n2 k w2) → va_P D vwCl (wC ad cI cJ cZ σ) H → va_S A s.heap H locs → lv_has ls 7 [(0, .ref (ad 2)), (1, .int (nI b)), (2, .int (nI r)), (3, .int (nI w2)), (4, .int (nI t)), (5, .int (nI k))] → W p l e { frames := 1, cells := 0, slots := 0, locals := 40 * 1 } s m [.ref (ad 2), .int (nI b), .int (nI r)].toArray below meth c H locs 0 0 (MQ below (Qcm D (wC ad cI cJ cZ σ) s.heap.size (some (.int (nI (hoF σ b r)))) (wC ad cI cJ cZ σ)) [.ref (ad 2), .int (nI b), .int (nI r)].toArray s 0 0 A) (F0 m 17 ls []) := by
          intro n2
          induction n2 with
          | zero =>
            intro k w2 H locs ls hk2 hw2 hv2 hP hS hl
            refine lv_iload E.1.1 E.1.2.1 dX2_holders_17 (lv_at hl 5 rfl) ?_
            refine lv_aload_n E.1.1 E.1.2.1 dX2_holders_19 rfl (lv_at hl 0 rfl) ?_
            refine gt_X2_program E fl_X2_18 hP dX2_holders_20 ?_
            refine lv_iload_n E.1.1 E.1.2.1 dX2_holders_23 rfl (lv_at hl 1 rfl) ?_
            refine CM.callVi (n := 1) E (c_X1_length l D cI cJ cZ ad σ b (by omega)) ml_X2_82 im_X1_length se_X1_length ini_X1 co_X1_length hd_X1_length ⟨Nat.le_of_ble_eq_true rfl, Nat.le_of_ble_eq_true rfl⟩ ⟨Nat.le_refl _, Nat.le_refl _⟩ 1 rfl rfl hP (hD _) hS hA2 rfl hl.1 (Nat.le_of_ble_eq_true rfl) dX2_holders_24 rfl (fun H locs hP hS => ?_)
            refine nv_icmp_ge (by omega) (by omega) E dX2_holders_27 (tgt := 87) (by decide) (fun h27 => ?_) (fun h27 => ?_)
            · refine lv_iinc (v := nI (t + 1)) (lv' := [(4, .int (nI (t + 1))), (0, .ref (ad 2)), (1, .int (nI b)), (2, .int (nI r)), (3, .int (nI w2)), (5, .int (nI k))]) E.1.1 E.1.2.1 dX2_holders_87 hl (k := 4) rfl (nI_add t 1) (by decide) rfl (fun ls hl => ?_)
              refine lv_goto (tgt := 7) E.1.1 E.1.2.1 dX2_holders_90 (by decide) ?_
              exact ih7 (t + 1) w2 _ _ _ (by omega) hw2 (by rw [hv, itN, hoR, hv2]; rfl) hP hS (lv_sub hl [1, 2, 3, 4, 0] rfl)
            · exact absurd h27 (by omega)
          | succ n2 ih17 =>
            intro k w2 H locs ls hk2 hw2 hv2 hP hS hl
            refine lv_iload E.1.1 E.1.2.1 dX2_holders_17 (lv_at hl 5 rfl) ?_
            refine lv_aload_n E.1.1 E.1.2.1 dX2_holders_19 rfl (lv_at hl 0 rfl) ?_
            refine gt_X2_program E fl_X2_18 hP dX2_holders_20 ?_
            refine lv_iload_n E.1.1 E.1.2.1 dX2_holders_23 rfl (lv_at hl 1 rfl) ?_
            refine CM.callVi (n := 1) E (c_X1_length l D cI cJ cZ ad σ b (by omega)) ml_X2_82 im_X1_length se_X1_length ini_X1 co_X1_length hd_X1_length ⟨Nat.le_of_ble_eq_true rfl, Nat.le_of_ble_eq_true rfl⟩ ⟨Nat.le_refl _, Nat.le_refl _⟩ 1 rfl rfl hP (hD _) hS hA2 rfl hl.1 (Nat.le_of_ble_eq_true rfl) dX2_holders_24 rfl (fun H locs hP hS => ?_)
            refine nv_icmp_ge (by omega) (by omega) E dX2_holders_27 (tgt := 87) (by decide) (fun h27 => ?_) (fun h27 => ?_)
            · exact absurd h27 (by omega)
            · refine lv_iload_n E.1.1 E.1.2.1 dX2_holders_30 rfl (lv_at hl 1 rfl) ?_
              refine lv_iload E.1.1 E.1.2.1 dX2_holders_31 (lv_at hl 5 rfl) ?_
              refine CM.callSi (n := 2) E (c_X1_placeOf l D cI cJ cZ ad σ b k) ml_X2_29 st_X1_placeOf ini_X1 co_X1_placeOf hd_X1_placeOf ⟨Nat.le_of_ble_eq_true rfl, Nat.le_of_ble_eq_true rfl⟩ ⟨Nat.le_refl _, Nat.le_refl _⟩ hP (hD _) hS hA2 rfl hl.1 (Nat.le_of_ble_eq_true rfl) dX2_holders_33 rfl (fun H locs hP hS => ?_)
              refine lv_istore (lv' := [(6, .int (nI (b * 10 + k))), (0, .ref (ad 2)), (1, .int (nI b)), (2, .int (nI r)), (3, .int (nI w2)), (4, .int (nI t)), (5, .int (nI k))]) E.1.1 E.1.2.1 dX2_holders_36 hl (by decide) rfl (fun ls hl => ?_)
              have hKk := hI.2.2.1 (b * 10 + k)
              refine lv_aload_n E.1.1 E.1.2.1 dX2_holders_38 rfl (lv_at hl 1 rfl) ?_
              refine gt_X2_program E fl_X2_18 hP dX2_holders_39 ?_
              refine lv_iload E.1.1 E.1.2.1 dX2_holders_42 (lv_at hl 0 rfl) ?_
              refine CM.callVi (n := 1) E (c_X1_kind l D cI cJ cZ ad σ (b * 10 + k) (by omega)) ml_X2_85 im_X1_kind se_X1_kind ini_X1 co_X1_kind hd_X1_kind ⟨Nat.le_of_ble_eq_true rfl, Nat.le_of_ble_eq_true rfl⟩ ⟨Nat.le_refl _, Nat.le_refl _⟩ 1 rfl rfl hP (hD _) hS hA2 rfl hl.1 (Nat.le_of_ble_eq_true rfl) dX2_holders_44 rfl (fun H locs hP hS => ?_)
              refine lv_iconst (v := nI 1) E.1.1 E.1.2.1 dX2_holders_47 rfl ?_
              refine nv_icmp_ne (by omega) (by omega) E dX2_holders_48 (tgt := 81) (by decide) (fun h48 => ?_) (fun h48 => ?_)
              · refine lv_iinc (v := nI (k + 1)) (lv' := [(5, .int (nI (k + 1))), (6, .int (nI (b * 10 + k))), (0, .ref (ad 2)), (1, .int (nI b)), (2, .int (nI r)), (3, .int (nI w2)), (4, .int (nI t))]) E.1.1 E.1.2.1 dX2_holders_81 hl (k := 6) rfl (nI_add k 1) (by decide) rfl (fun ls hl => ?_)
                refine lv_goto (tgt := 17) E.1.1 E.1.2.1 dX2_holders_84 (by decide) ?_
                exact ih17 (k + 1) w2 _ _ _ (by omega) (hw2) (by rw [hv2, itN, hoS]; first | (rw [if_pos h48, if_pos h64]; done) | (rw [if_pos h48, if_neg (by rw [h64]; decide)]; done) | rw [if_neg h48]) hP hS (lv_sub hl [2, 3, 4, 5, 6, 0] rfl)
              · refine lv_iload_n E.1.1 E.1.2.1 dX2_holders_51 rfl (lv_at hl 4 rfl) ?_
                refine lv_aload_n E.1.1 E.1.2.1 dX2_holders_52 rfl (lv_at hl 1 rfl) ?_
                refine gt_X2_program E fl_X2_18 hP dX2_holders_53 ?_
                refine lv_iload E.1.1 E.1.2.1 dX2_holders_56 (lv_at hl 0 rfl) ?_
                refine CM.callVi (n := 1) E (c_X1_y l D cI cJ cZ ad σ (b * 10 + k) (by omega)) ml_X2_88 im_X1_y se_X1_y ini_X1 co_X1_y hd_X1_y ⟨Nat.le_of_ble_eq_true rfl, Nat.le_of_ble_eq_true rfl⟩ ⟨Nat.le_refl _, Nat.le_refl _⟩ 1 rfl rfl hP (hD _) hS hA2 rfl hl.1 (Nat.le_of_ble_eq_true rfl) dX2_holders_58 rfl (fun H locs hP hS => ?_)
                refine tpi (y := nI (yN σ (b * 10 + k))) ((WI_y hW (by omega)).1) ?_
                refine CM.callSi (n := 2) E (c_X2_isIn l D cI cJ cZ ad σ w2 (yN σ (b * 10 + k)) (by omega) (by have := (WI_y hW (p := b * 10 + k) (by omega)).2; omega)) ml_X2_51 st_X2_isIn ini_X2 co_X2_isIn hd_X2_isIn ⟨Nat.le_of_ble_eq_true rfl, Nat.le_of_ble_eq_true rfl⟩ ⟨Nat.le_refl _, Nat.le_refl _⟩ hP (hD _) hS hA2 rfl hl.1 (Nat.le_of_ble_eq_true rfl) dX2_holders_61 rfl (fun H locs hP hS => ?_)
                refine bv_if_eq (x := w2.testBit (yN σ (b * 10 + k))) E dX2_holders_64 (tgt := 81) (by decide) (fun h64 => ?_) (fun h64 => ?_)
                · refine lv_iinc (v := nI (k + 1)) (lv' := [(5, .int (nI (k + 1))), (6, .int (nI (b * 10 + k))), (0, .ref (ad 2)), (1, .int (nI b)), (2, .int (nI r)), (3, .int (nI w2)), (4, .int (nI t))]) E.1.1 E.1.2.1 dX2_holders_81 hl (k := 6) rfl (nI_add k 1) (by decide) rfl (fun ls hl => ?_)
                  refine lv_goto (tgt := 17) E.1.1 E.1.2.1 dX2_holders_84 (by decide) ?_
                  exact ih17 (k + 1) w2 _ _ _ (by omega) (hw2) (by rw [hv2, itN, hoS]; first | (rw [if_pos h48, if_pos h64]; done) | (rw [if_pos h48, if_neg (by rw [h64]; decide)]; done) | rw [if_neg h48]) hP hS (lv_sub hl [2, 3, 4, 5, 6, 0] rfl)
                · refine lv_iload_n E.1.1 E.1.2.1 dX2_holders_67 rfl (lv_at hl 4 rfl) ?_
                  refine lv_iconst (v := nI 1) E.1.1 E.1.2.1 dX2_holders_68 rfl ?_
                  refine lv_aload_n E.1.1 E.1.2.1 dX2_holders_69 rfl (lv_at hl 1 rfl) ?_
                  refine gt_X2_program E fl_X2_18 hP dX2_holders_70 ?_
                  refine lv_iload E.1.1 E.1.2.1 dX2_holders_73 (lv_at hl 0 rfl) ?_
                  refine CM.callVi (n := 1) E (c_X1_x l D cI cJ cZ ad σ (b * 10 + k) (by omega)) ml_X2_101 im_X1_x se_X1_x ini_X1 co_X1_x hd_X1_x ⟨Nat.le_of_ble_eq_true rfl, Nat.le_of_ble_eq_true rfl⟩ ⟨Nat.le_refl _, Nat.le_refl _⟩ 1 rfl rfl hP (hD _) hS hA2 rfl hl.1 (Nat.le_of_ble_eq_true rfl) dX2_holders_75 rfl (fun H locs hP hS => ?_)
                  refine nv_ishl (by have := hI.2.2.2.1 (b * 10 + k); omega) E dX2_holders_78 ?_
                  refine nv_ior E dX2_holders_79 ?_
                  refine lv_istore_n (lv' := [(3, .int (nI (w2 ||| (1 <<< (gcX σ (b * 10 + k)))))), (6, .int (nI (b * 10 + k))), (0, .ref (ad 2)), (1, .int (nI b)), (2, .int (nI r)), (4, .int (nI t)), (5, .int (nI k))]) E.1.1 E.1.2.1 dX2_holders_80 rfl hl (by decide) rfl (fun ls hl => ?_)
                  refine lv_iinc (v := nI (k + 1)) (lv' := [(5, .int (nI (k + 1))), (3, .int (nI (w2 ||| (1 <<< (gcX σ (b * 10 + k)))))), (6, .int (nI (b * 10 + k))), (0, .ref (ad 2)), (1, .int (nI b)), (2, .int (nI r)), (4, .int (nI t))]) E.1.1 E.1.2.1 dX2_holders_81 hl (k := 6) rfl (nI_add k 1) (by decide) rfl (fun ls hl => ?_)
                  refine lv_goto (tgt := 17) E.1.1 E.1.2.1 dX2_holders_84 (by decide) ?_
                  exact ih17 (k + 1) (w2 ||| (1 <<< (gcX σ (b * 10 + k)))) _ _ _ (by omega) (or_lt6 hw2 (hI.2.2.2.1 _)) (by rw [hv2, itN, hoS]; first | (rw [if_pos h48, if_pos h64]; done) | (rw [if_pos h48, if_neg (by rw [h64]; decide)]; done) | rw [if_neg h48]) hP hS (lv_sub hl [3, 4, 5, 1, 6, 0] rfl)
        exact LP17 (gcL σ b) 0 w _ _ _ (by omega) hw rfl hP hS (lv_sub hl [1, 2, 3, 4, 5, 0] rfl)
  exact LP7 5 1 (1 <<< r) _ _ _ (by omega) (shl_lt hr0) rfl hP hS (lv_sub hl [2, 3, 4, 1, 0] rfl)
set_option maxRecDepth 100000 in
set_option maxHeartbeats 4000000 in
theorem c_X2_judge (l : Launch) (D : va_G) (cI cJ cZ : ClassId) (ad : Nat → Nat) (σ : CS) (b : Nat)  (hb : b < 24) (hK : Kp σ σ) : CM l D (t3 cI cJ cZ) yX2_judge cX2_judge 6 none 2 [.ref (ad 2), .int (nI b)] (wC ad cI cJ cZ σ) (none) (wC ad cI cJ cZ (jdF b σ)) := by
  refine CM.of (by decide) (Nat.le_of_ble_eq_true rfl) ?_
  intro p e s m below meth c A ls E hr hlk hP hD0 hA hA2 hS hl
  have hD := wC_D hD0
  have hl : lv_has ls 6 [(0, .ref (ad 2)), (1, .int (nI b))] := hl
  refine lv_aload_n E.1.1 E.1.2.1 dX2_judge_0 rfl (lv_at hl 0 rfl) ?_
  refine lv_iload_n E.1.1 E.1.2.1 dX2_judge_1 rfl (lv_at hl 1 rfl) ?_
  refine CM.callVi (n := 1) E (c_X2_waysOut l D cI cJ cZ ad σ b hb hK.1 hK.2.1) ml_X2_98 im_X2_waysOut se_X2_waysOut ini_X2 co_X2_waysOut hd_X2_waysOut ⟨Nat.le_of_ble_eq_true rfl, Nat.le_of_ble_eq_true rfl⟩ ⟨Nat.le_refl _, Nat.le_refl _⟩ 2 rfl rfl hP (hD _) hS hA2 rfl hl.1 (Nat.le_of_ble_eq_true rfl) dX2_judge_2 rfl (fun H locs hP hS => ?_)
  refine lv_istore_n (lv' := [(2, .int (nI (woF σ b))), (0, .ref (ad 2)), (1, .int (nI b))]) E.1.1 E.1.2.1 dX2_judge_5 rfl hl (by decide) rfl (fun ls hl => ?_)
  refine lv_iconst (v := nI 0) E.1.1 E.1.2.1 dX2_judge_6 rfl ?_
  refine lv_istore_n (lv' := [(3, .int (nI 0)), (2, .int (nI (woF σ b))), (0, .ref (ad 2)), (1, .int (nI b))]) E.1.1 E.1.2.1 dX2_judge_7 rfl hl (by decide) rfl (fun ls hl => ?_)
  have LP8 : ∀ (n : Nat) (k : Nat) (τ : CS) (H : Heap) (locs : List Loc) (ls : Array Slot), (Kp σ τ) → (k + n = gcL τ b) → (jdF b σ = itN (jdS b (woF σ b)) n k τ) → va_P D vwCl (wC ad cI cJ cZ τ) H → va_S A s.heap H locs → lv_has ls 6 [(0, .ref (ad 2)), (1, .int (nI b)), (2, .int (nI (woF σ b))), (3, .int (nI k))] → W p l e { frames := 2, cells := 0, slots := 0, locals := 40 * 2 } s m [.ref (ad 2), .int (nI b)].toArray below meth c H locs 0 0 (MQ below (Qcm D (wC ad cI cJ cZ σ) s.heap.size (none) (wC ad cI cJ cZ (jdF b σ))) [.ref (ad 2), .int (nI b)].toArray s 0 0 A) (F0 m 8 ls []) := by
    intro n
    induction n with
    | zero =>
      intro k τ H locs ls hT hk hv hP hS hl
      have hL := hT.1.2.1 b
      refine lv_iload_n E.1.1 E.1.2.1 dX2_judge_8 rfl (lv_at hl 3 rfl) ?_
      refine lv_aload_n E.1.1 E.1.2.1 dX2_judge_9 rfl (lv_at hl 0 rfl) ?_
      refine gt_X2_program E fl_X2_18 hP dX2_judge_10 ?_
      refine lv_iload_n E.1.1 E.1.2.1 dX2_judge_13 rfl (lv_at hl 1 rfl) ?_
      refine CM.callVi (n := 1) E (c_X1_length l D cI cJ cZ ad τ b (by omega)) ml_X2_82 im_X1_length se_X1_length ini_X1 co_X1_length hd_X1_length ⟨Nat.le_of_ble_eq_true rfl, Nat.le_of_ble_eq_true rfl⟩ ⟨Nat.le_refl _, Nat.le_refl _⟩ 1 rfl rfl hP (hD _) hS hA2 rfl hl.1 (Nat.le_of_ble_eq_true rfl) dX2_judge_14 rfl (fun H locs hP hS => ?_)
      refine nv_icmp_ge (by omega) (by omega) E dX2_judge_17 (tgt := 128) (by decide) (fun h17 => ?_) (fun h17 => ?_)
      · exact CM.retv E hr hlk hA (by rw [hv]; exact hP) hS rfl dX2_judge_128
      · exact absurd h17 (by omega)
    | succ n ih8 =>
      intro k τ H locs ls hT hk hv hP hS hl
      have hL := hT.1.2.1 b
      refine lv_iload_n E.1.1 E.1.2.1 dX2_judge_8 rfl (lv_at hl 3 rfl) ?_
      refine lv_aload_n E.1.1 E.1.2.1 dX2_judge_9 rfl (lv_at hl 0 rfl) ?_
      refine gt_X2_program E fl_X2_18 hP dX2_judge_10 ?_
      refine lv_iload_n E.1.1 E.1.2.1 dX2_judge_13 rfl (lv_at hl 1 rfl) ?_
      refine CM.callVi (n := 1) E (c_X1_length l D cI cJ cZ ad τ b (by omega)) ml_X2_82 im_X1_length se_X1_length ini_X1 co_X1_length hd_X1_length ⟨Nat.le_of_ble_eq_true rfl, Nat.le_of_ble_eq_true rfl⟩ ⟨Nat.le_refl _, Nat.le_refl _⟩ 1 rfl rfl hP (hD _) hS hA2 rfl hl.1 (Nat.le_of_ble_eq_true rfl) dX2_judge_14 rfl (fun H locs hP hS => ?_)
      refine nv_icmp_ge (by omega) (by omega) E dX2_judge_17 (tgt := 128) (by decide) (fun h17 => ?_) (fun h17 => ?_)
      · exact absurd h17 (by omega)
      · refine lv_iload_n E.1.1 E.1.2.1 dX2_judge_20 rfl (lv_at hl 1 rfl) ?_
        refine lv_iload_n E.1.1 E.1.2.1 dX2_judge_21 rfl (lv_at hl 3 rfl) ?_
        refine CM.callSi (n := 2) E (c_X1_placeOf l D cI cJ cZ ad τ b k) ml_X2_29 st_X1_placeOf ini_X1 co_X1_placeOf hd_X1_placeOf ⟨Nat.le_of_ble_eq_true rfl, Nat.le_of_ble_eq_true rfl⟩ ⟨Nat.le_refl _, Nat.le_refl _⟩ hP (hD _) hS hA2 rfl hl.1 (Nat.le_of_ble_eq_true rfl) dX2_judge_22 rfl (fun H locs hP hS => ?_)
        refine lv_istore (lv' := [(4, .int (nI (b * 10 + k))), (0, .ref (ad 2)), (1, .int (nI b)), (2, .int (nI (woF σ b))), (3, .int (nI k))]) E.1.1 E.1.2.1 dX2_judge_25 hl (by decide) rfl (fun ls hl => ?_)
        have hKk := hT.1.2.2.1 (b * 10 + k)
        refine lv_aload_n E.1.1 E.1.2.1 dX2_judge_27 rfl (lv_at hl 1 rfl) ?_
        refine gt_X2_program E fl_X2_18 hP dX2_judge_28 ?_
        refine lv_iload E.1.1 E.1.2.1 dX2_judge_31 (lv_at hl 0 rfl) ?_
        refine CM.callVi (n := 1) E (c_X1_kind l D cI cJ cZ ad τ (b * 10 + k) (by omega)) ml_X2_85 im_X1_kind se_X1_kind ini_X1 co_X1_kind hd_X1_kind ⟨Nat.le_of_ble_eq_true rfl, Nat.le_of_ble_eq_true rfl⟩ ⟨Nat.le_refl _, Nat.le_refl _⟩ 1 rfl rfl hP (hD _) hS hA2 rfl hl.1 (Nat.le_of_ble_eq_true rfl) dX2_judge_33 rfl (fun H locs hP hS => ?_)
        refine lv_bipush (v := nI 7) E.1.1 E.1.2.1 dX2_judge_36 rfl ?_
        refine nv_icmp_ne (by omega) (by omega) E dX2_judge_38 (tgt := 65) (by decide) (fun h38 => ?_) (fun h38 => ?_)
        · refine lv_aload_n E.1.1 E.1.2.1 dX2_judge_65 rfl (lv_at hl 1 rfl) ?_
          refine gt_X2_program E fl_X2_18 hP dX2_judge_66 ?_
          refine lv_iload E.1.1 E.1.2.1 dX2_judge_69 (lv_at hl 0 rfl) ?_
          refine CM.callVi (n := 1) E (c_X1_kind l D cI cJ cZ ad τ (b * 10 + k) (by omega)) ml_X2_85 im_X1_kind se_X1_kind ini_X1 co_X1_kind hd_X1_kind ⟨Nat.le_of_ble_eq_true rfl, Nat.le_of_ble_eq_true rfl⟩ ⟨Nat.le_refl _, Nat.le_refl _⟩ 1 rfl rfl hP (hD _) hS hA2 rfl hl.1 (Nat.le_of_ble_eq_true rfl) dX2_judge_71 rfl (fun H locs hP hS => ?_)
          refine lv_iconst (v := nI 4) E.1.1 E.1.2.1 dX2_judge_74 rfl ?_
          refine nv_icmp_ne (by omega) (by omega) E dX2_judge_75 (tgt := 122) (by decide) (fun h75 => ?_) (fun h75 => ?_)
          · refine lv_iinc (v := nI (k + 1)) (lv' := [(3, .int (nI (k + 1))), (4, .int (nI (b * 10 + k))), (0, .ref (ad 2)), (1, .int (nI b)), (2, .int (nI (woF σ b)))]) E.1.1 E.1.2.1 dX2_judge_122 hl (k := 4) rfl (nI_add k 1) (by decide) rfl (fun ls hl => ?_)
            refine lv_goto (tgt := 8) E.1.1 E.1.2.1 dX2_judge_125 (by decide) ?_
            exact ih8 (k + 1) τ _ _ _ hT (by show _ = gcL τ b; omega) (by rw [hv, itN, jdS]; first | (rw [if_pos h38]; done) | (rw [if_neg h38, if_pos h75]; first | (rw [if_pos h94]; done) | rw [if_neg (by omega)]) | rw [if_neg h38, if_neg h75]) hP hS (lv_sub hl [2, 3, 4, 0] rfl)
          · refine lv_aload_n E.1.1 E.1.2.1 dX2_judge_78 rfl (lv_at hl 1 rfl) ?_
            refine lv_iload_n E.1.1 E.1.2.1 dX2_judge_79 rfl (lv_at hl 2 rfl) ?_
            refine lv_aload_n E.1.1 E.1.2.1 dX2_judge_80 rfl (lv_at hl 1 rfl) ?_
            refine gt_X2_program E fl_X2_18 hP dX2_judge_81 ?_
            refine lv_iload E.1.1 E.1.2.1 dX2_judge_84 (lv_at hl 0 rfl) ?_
            refine CM.callVi (n := 1) E (c_X1_x l D cI cJ cZ ad τ (b * 10 + k) (by omega)) ml_X2_101 im_X1_x se_X1_x ini_X1 co_X1_x hd_X1_x ⟨Nat.le_of_ble_eq_true rfl, Nat.le_of_ble_eq_true rfl⟩ ⟨Nat.le_refl _, Nat.le_refl _⟩ 1 rfl rfl hP (hD _) hS hA2 rfl hl.1 (Nat.le_of_ble_eq_true rfl) dX2_judge_86 rfl (fun H locs hP hS => ?_)
            refine CM.callVi (n := 2) E (c_X2_holders l D cI cJ cZ ad τ b (gcX τ (b * 10 + k)) hb (hT.1.2.2.2.1 _) hT.1 hT.2.1) ml_X2_104 im_X2_holders se_X2_holders ini_X2 co_X2_holders hd_X2_holders ⟨Nat.le_of_ble_eq_true rfl, Nat.le_of_ble_eq_true rfl⟩ ⟨Nat.le_refl _, Nat.le_refl _⟩ 2 rfl rfl hP (hD _) hS hA2 rfl hl.1 (Nat.le_of_ble_eq_true rfl) dX2_judge_89 rfl (fun H locs hP hS => ?_)
            refine lv_iload_n E.1.1 E.1.2.1 dX2_judge_92 rfl (lv_at hl 3 rfl) ?_
            refine nv_iand E dX2_judge_93 ?_
            refine nv_if_eq (Nat.lt_of_le_of_lt Nat.and_le_left (by have := hoF_lt hT.1 (b := b) (hT.1.2.2.2.1 (b * 10 + k)); omega)) E dX2_judge_94 (tgt := 101) (by decide) (fun h94 => ?_) (fun h94 => ?_)
            · refine lv_iconst (v := nI 0) E.1.1 E.1.2.1 dX2_judge_101 rfl ?_
              refine lv_istore (lv' := [(5, .int (nI 0)), (4, .int (nI (b * 10 + k))), (0, .ref (ad 2)), (1, .int (nI b)), (2, .int (nI (woF σ b))), (3, .int (nI k))]) E.1.1 E.1.2.1 dX2_judge_102 hl (by decide) rfl (fun ls hl => ?_)
              refine lv_aload_n E.1.1 E.1.2.1 dX2_judge_104 rfl (lv_at hl 2 rfl) ?_
              refine gt_X2_verdicts E fl_X2_9 hP dX2_judge_105 ?_
              refine lv_iload E.1.1 E.1.2.1 dX2_judge_108 (lv_at hl 1 rfl) ?_
              refine lv_iload E.1.1 E.1.2.1 dX2_judge_110 (lv_at hl 0 rfl) ?_
              refine nv_if_eq (by omega) E dX2_judge_112 (tgt := 120) (by decide) (fun h112 => ?_) (fun h112 => ?_)
              · refine lv_iconst (v := nI 5) E.1.1 E.1.2.1 dX2_judge_120 rfl ?_
                refine as_CS_V (i := b * 10 + k) (v := 5) E hP hD hS (by omega) dX2_judge_121 (fun H locs hP hS => ?_)
                refine lv_iinc (v := nI (k + 1)) (lv' := [(3, .int (nI (k + 1))), (5, .int (nI 0)), (4, .int (nI (b * 10 + k))), (0, .ref (ad 2)), (1, .int (nI b)), (2, .int (nI (woF σ b)))]) E.1.1 E.1.2.1 dX2_judge_122 hl (k := 5) rfl (nI_add k 1) (by decide) rfl (fun ls hl => ?_)
                refine lv_goto (tgt := 8) E.1.1 E.1.2.1 dX2_judge_125 (by decide) ?_
                exact ih8 (k + 1) (scV τ (va_up (gcV τ) (b * 10 + k) 5)) _ _ _ hT (by show _ = gcL τ b; omega) (by rw [hv, itN, jdS]; first | (rw [if_pos h38]; done) | (rw [if_neg h38, if_pos h75]; first | (rw [if_pos h94]; done) | rw [if_neg (by omega)]) | rw [if_neg h38, if_neg h75]) hP hS (lv_sub hl [3, 4, 5, 0] rfl)
              · exact absurd h112 (by omega)
            · refine lv_iconst (v := nI 1) E.1.1 E.1.2.1 dX2_judge_97 rfl ?_
              refine lv_goto (tgt := 102) E.1.1 E.1.2.1 dX2_judge_98 (by decide) ?_
              refine lv_istore (lv' := [(5, .int (nI 1)), (4, .int (nI (b * 10 + k))), (0, .ref (ad 2)), (1, .int (nI b)), (2, .int (nI (woF σ b))), (3, .int (nI k))]) E.1.1 E.1.2.1 dX2_judge_102 hl (by decide) rfl (fun ls hl => ?_)
              refine lv_aload_n E.1.1 E.1.2.1 dX2_judge_104 rfl (lv_at hl 2 rfl) ?_
              refine gt_X2_verdicts E fl_X2_9 hP dX2_judge_105 ?_
              refine lv_iload E.1.1 E.1.2.1 dX2_judge_108 (lv_at hl 1 rfl) ?_
              refine lv_iload E.1.1 E.1.2.1 dX2_judge_110 (lv_at hl 0 rfl) ?_
              refine nv_if_eq (by omega) E dX2_judge_112 (tgt := 120) (by decide) (fun h112 => ?_) (fun h112 => ?_)
              · exact absurd h112 (by omega)
              · refine lv_bipush (v := nI 6) E.1.1 E.1.2.1 dX2_judge_115 rfl ?_
                refine lv_goto (tgt := 121) E.1.1 E.1.2.1 dX2_judge_117 (by decide) ?_
                refine as_CS_V (i := b * 10 + k) (v := 6) E hP hD hS (by omega) dX2_judge_121 (fun H locs hP hS => ?_)
                refine lv_iinc (v := nI (k + 1)) (lv' := [(3, .int (nI (k + 1))), (5, .int (nI 1)), (4, .int (nI (b * 10 + k))), (0, .ref (ad 2)), (1, .int (nI b)), (2, .int (nI (woF σ b)))]) E.1.1 E.1.2.1 dX2_judge_122 hl (k := 5) rfl (nI_add k 1) (by decide) rfl (fun ls hl => ?_)
                refine lv_goto (tgt := 8) E.1.1 E.1.2.1 dX2_judge_125 (by decide) ?_
                exact ih8 (k + 1) (scV τ (va_up (gcV τ) (b * 10 + k) 6)) _ _ _ hT (by show _ = gcL τ b; omega) (by rw [hv, itN, jdS]; first | (rw [if_pos h38]; done) | (rw [if_neg h38, if_pos h75]; first | (rw [if_pos h94]; done) | rw [if_neg (by omega)]) | rw [if_neg h38, if_neg h75]) hP hS (lv_sub hl [3, 4, 5, 0] rfl)
        · refine lv_aload_n E.1.1 E.1.2.1 dX2_judge_41 rfl (lv_at hl 1 rfl) ?_
          refine gt_X2_verdicts E fl_X2_9 hP dX2_judge_42 ?_
          refine lv_iload E.1.1 E.1.2.1 dX2_judge_45 (lv_at hl 0 rfl) ?_
          refine lv_aload_n E.1.1 E.1.2.1 dX2_judge_47 rfl (lv_at hl 1 rfl) ?_
          refine gt_X2_callVerdicts E fl_X2_15 hP dX2_judge_48 ?_
          refine lv_aload_n E.1.1 E.1.2.1 dX2_judge_51 rfl (lv_at hl 1 rfl) ?_
          refine gt_X2_program E fl_X2_18 hP dX2_judge_52 ?_
          refine lv_iload E.1.1 E.1.2.1 dX2_judge_55 (lv_at hl 0 rfl) ?_
          refine CM.callVi (n := 1) E (c_X1_z l D cI cJ cZ ad τ (b * 10 + k) (by omega)) ml_X2_91 im_X1_z se_X1_z ini_X1 co_X1_z hd_X1_z ⟨Nat.le_of_ble_eq_true rfl, Nat.le_of_ble_eq_true rfl⟩ ⟨Nat.le_refl _, Nat.le_refl _⟩ 1 rfl rfl hP (hD _) hS hA2 rfl hl.1 (Nat.le_of_ble_eq_true rfl) dX2_judge_57 rfl (fun H locs hP hS => ?_)
          refine tpi (y := nI (zN τ (b * 10 + k))) ((WI_z4 hT.2.1 h38).1) ?_
          refine ld_CS_CV (i := zN τ (b * 10 + k)) E hP (by have := (WI_z4 hT.2.1 h38).2; omega) dX2_judge_60 ?_
          refine as_CS_V (i := b * 10 + k) (v := gcCV τ (zN τ (b * 10 + k))) E hP hD hS (by omega) dX2_judge_61 (fun H locs hP hS => ?_)
          refine lv_goto (tgt := 122) E.1.1 E.1.2.1 dX2_judge_62 (by decide) ?_
          refine lv_iinc (v := nI (k + 1)) (lv' := [(3, .int (nI (k + 1))), (4, .int (nI (b * 10 + k))), (0, .ref (ad 2)), (1, .int (nI b)), (2, .int (nI (woF σ b)))]) E.1.1 E.1.2.1 dX2_judge_122 hl (k := 4) rfl (nI_add k 1) (by decide) rfl (fun ls hl => ?_)
          refine lv_goto (tgt := 8) E.1.1 E.1.2.1 dX2_judge_125 (by decide) ?_
          exact ih8 (k + 1) (scV τ (va_up (gcV τ) (b * 10 + k) (gcCV τ (zN τ (b * 10 + k))))) _ _ _ hT (by show _ = gcL τ b; omega) (by rw [hv, itN, jdS]; first | (rw [if_pos h38]; done) | (rw [if_neg h38, if_pos h75]; first | (rw [if_pos h94]; done) | rw [if_neg (by omega)]) | rw [if_neg h38, if_neg h75]) hP hS (lv_sub hl [2, 3, 4, 0] rfl)
  exact LP8 (gcL σ b) 0 σ _ _ _ hK (by omega) rfl hP hS (lv_sub hl [2, 3, 1, 0] rfl)
set_option maxRecDepth 100000 in
set_option maxHeartbeats 4000000 in
theorem c_X2_renew (l : Launch) (D : va_G) (cI cJ cZ : ClassId) (ad : Nat → Nat) (σ : CS)   (hI : PI σ) (hW : WI σ) : CM l D (t3 cI cJ cZ) yX2_renew cX2_renew 2 (some .int) 5 [.ref (ad 2)] (wC ad cI cJ cZ σ) (some (.int (bcF (nI (gcre (rnF σ)))))) (wC ad cI cJ cZ (rnF σ)) := by
  refine CM.of (by decide) (Nat.le_of_ble_eq_true rfl) ?_
  intro p e s m below meth c A ls E hr hlk hP hD0 hA hA2 hS hl
  have hD := wC_D hD0
  have hl : lv_has ls 2 [(0, .ref (ad 2))] := hl
  refine lv_aload_n E.1.1 E.1.2.1 dX2_renew_0 rfl (lv_at hl 0 rfl) ?_
  refine gt_X2_verdicts E fl_X2_9 hP dX2_renew_1 ?_
  refine lv_iconst (v := nI 0) E.1.1 E.1.2.1 dX2_renew_4 rfl ?_
  refine CM.callSv (n := 2) E (c_J7_fill_53178_V l D cI cJ cZ ad σ 0) ml_X2_41 st_J7_fill_53178 ini_J7 co_J7_fill_53178 hd_J7_fill_53178 ⟨Nat.le_of_ble_eq_true rfl, Nat.le_of_ble_eq_true rfl⟩ ⟨Nat.le_refl _, Nat.le_refl _⟩ hP (hD _) hS hA2 rfl hl.1 (Nat.le_of_ble_eq_true rfl) dX2_renew_5 rfl (fun H locs hP hS => ?_)
  refine lv_aload_n E.1.1 E.1.2.1 dX2_renew_8 rfl (lv_at hl 0 rfl) ?_
  refine CM.callVv (n := 0) E (c_X2_findReached l D cI cJ cZ ad (scV σ (fillF (gcV σ) 0 240 0)) hI hW) ml_X2_44 im_X2_findReached se_X2_findReached ini_X2 co_X2_findReached hd_X2_findReached ⟨Nat.le_of_ble_eq_true rfl, Nat.le_of_ble_eq_true rfl⟩ ⟨Nat.le_refl _, Nat.le_refl _⟩ 2 rfl rfl hP (hD _) hS hA2 rfl hl.1 (Nat.le_of_ble_eq_true rfl) dX2_renew_9 rfl (fun H locs hP hS => ?_)
  refine lv_iconst (v := nI 0) E.1.1 E.1.2.1 dX2_renew_12 rfl ?_
  refine lv_istore_n (lv' := [(1, .int (nI 0)), (0, .ref (ad 2))]) E.1.1 E.1.2.1 dX2_renew_13 rfl hl (by decide) rfl (fun ls hl => ?_)
  have LP14 : ∀ (n : Nat) (k : Nat) (τ : CS) (H : Heap) (locs : List Loc) (ls : Array Slot), (Kp σ τ) → (k + n = 4) → (itN cvS 4 0 (frF (scV σ (fillF (gcV σ) 0 240 0))) = itN cvS n k τ) → va_P D vwCl (wC ad cI cJ cZ τ) H → va_S A s.heap H locs → lv_has ls 2 [(0, .ref (ad 2)), (1, .int (nI k))] → W p l e { frames := 5, cells := 0, slots := 0, locals := 40 * 5 } s m [.ref (ad 2)].toArray below meth c H locs 0 0 (MQ below (Qcm D (wC ad cI cJ cZ σ) s.heap.size (some (.int (bcF (nI (gcre (rnF σ)))))) (wC ad cI cJ cZ (rnF σ))) [.ref (ad 2)].toArray s 0 0 A) (F0 m 14 ls []) := by
    intro n
    induction n with
    | zero =>
      intro k τ H locs ls hT hk hv hP hS hl
      refine lv_iload_n E.1.1 E.1.2.1 dX2_renew_14 rfl (lv_at hl 1 rfl) ?_
      refine lv_iconst (v := nI 4) E.1.1 E.1.2.1 dX2_renew_15 rfl ?_
      refine nv_icmp_ge (by omega) (by omega) E dX2_renew_16 (tgt := 36) (by decide) (fun h16 => ?_) (fun h16 => ?_)
      · refine lv_iconst (v := nI 0) E.1.1 E.1.2.1 dX2_renew_36 rfl ?_
        refine lv_istore_n (lv' := [(1, .int (nI 0)), (0, .ref (ad 2))]) E.1.1 E.1.2.1 dX2_renew_37 rfl hl (by decide) rfl (fun ls hl => ?_)
        have LP38 : ∀ (n : Nat) (k : Nat) (τ : CS) (H : Heap) (locs : List Loc) (ls : Array Slot), (Kp σ τ) → (k + n = 24) → (rnF σ = itN jaS n k τ) → va_P D vwCl (wC ad cI cJ cZ τ) H → va_S A s.heap H locs → lv_has ls 2 [(0, .ref (ad 2)), (1, .int (nI k))] → W p l e { frames := 5, cells := 0, slots := 0, locals := 40 * 5 } s m [.ref (ad 2)].toArray below meth c H locs 0 0 (MQ below (Qcm D (wC ad cI cJ cZ σ) s.heap.size (some (.int (bcF (nI (gcre (rnF σ)))))) (wC ad cI cJ cZ (rnF σ))) [.ref (ad 2)].toArray s 0 0 A) (F0 m 38 ls []) := by
          intro n
          induction n with
          | zero =>
            intro k τ H locs ls hT hk hv hP hS hl
            refine lv_iload_n E.1.1 E.1.2.1 dX2_renew_38 rfl (lv_at hl 1 rfl) ?_
            refine lv_bipush (v := nI 24) E.1.1 E.1.2.1 dX2_renew_39 rfl ?_
            refine nv_icmp_ge (by omega) (by omega) E dX2_renew_41 (tgt := 66) (by decide) (fun h41 => ?_) (fun h41 => ?_)
            · refine lv_aload_n E.1.1 E.1.2.1 dX2_renew_66 rfl (lv_at hl 0 rfl) ?_
              refine gt_X2_reached E fl_X2_26 hP dX2_renew_67 ?_
              refine CM.callSi (n := 1) E (c_J6_bitCount_0f7a4 l D cI cJ cZ ad τ (nI (gcre τ))) ml_X2_59 st_J6_bitCount_0f7a4 ini_J6 co_J6_bitCount_0f7a4 hd_J6_bitCount_0f7a4 ⟨Nat.le_of_ble_eq_true rfl, Nat.le_of_ble_eq_true rfl⟩ ⟨Nat.le_refl _, Nat.le_refl _⟩ hP (hD _) hS hA2 rfl hl.1 (Nat.le_of_ble_eq_true rfl) dX2_renew_70 rfl (fun H locs hP hS => ?_)
              exact CM.reti E hr hlk hA (by rw [hv]; exact hP) hS (by rw [hv]; rfl) dX2_renew_73
            · exact absurd h41 (by omega)
          | succ n ih38 =>
            intro k τ H locs ls hT hk hv hP hS hl
            refine lv_iload_n E.1.1 E.1.2.1 dX2_renew_38 rfl (lv_at hl 1 rfl) ?_
            refine lv_bipush (v := nI 24) E.1.1 E.1.2.1 dX2_renew_39 rfl ?_
            refine nv_icmp_ge (by omega) (by omega) E dX2_renew_41 (tgt := 66) (by decide) (fun h41 => ?_) (fun h41 => ?_)
            · exact absurd h41 (by omega)
            · refine lv_aload_n E.1.1 E.1.2.1 dX2_renew_44 rfl (lv_at hl 0 rfl) ?_
              refine gt_X2_reached E fl_X2_26 hP dX2_renew_45 ?_
              refine lv_iload_n E.1.1 E.1.2.1 dX2_renew_48 rfl (lv_at hl 1 rfl) ?_
              refine CM.callSi (n := 2) E (c_X2_isIn l D cI cJ cZ ad τ (gcre τ) k (by have := hT.2.2.1.2.1; omega) (by omega)) ml_X2_51 st_X2_isIn ini_X2 co_X2_isIn hd_X2_isIn ⟨Nat.le_of_ble_eq_true rfl, Nat.le_of_ble_eq_true rfl⟩ ⟨Nat.le_refl _, Nat.le_refl _⟩ hP (hD _) hS hA2 rfl hl.1 (Nat.le_of_ble_eq_true rfl) dX2_renew_49 rfl (fun H locs hP hS => ?_)
              refine bv_if_eq (x := (gcre τ).testBit k) E dX2_renew_52 (tgt := 60) (by decide) (fun h52 => ?_) (fun h52 => ?_)
              · refine lv_iinc (v := nI (k + 1)) (lv' := [(1, .int (nI (k + 1))), (0, .ref (ad 2))]) E.1.1 E.1.2.1 dX2_renew_60 hl (k := 1) rfl (nI_add k 1) (by decide) rfl (fun ls hl => ?_)
                refine lv_goto (tgt := 38) E.1.1 E.1.2.1 dX2_renew_63 (by decide) ?_
                exact ih38 (k + 1) τ _ _ _ (hT) (by omega) (by rw [hv, itN, jaS, if_neg (by rw [h52]; decide)]) hP hS (lv_sub hl [1, 0] rfl)
              · refine lv_aload_n E.1.1 E.1.2.1 dX2_renew_55 rfl (lv_at hl 0 rfl) ?_
                refine lv_iload_n E.1.1 E.1.2.1 dX2_renew_56 rfl (lv_at hl 1 rfl) ?_
                refine CM.callVv (n := 1) E (c_X2_judge l D cI cJ cZ ad τ k (by omega) (Kp_rf hT.1 hT.2.1 hT.2.2.1)) ml_X2_55 im_X2_judge se_X2_judge ini_X2 co_X2_judge hd_X2_judge ⟨Nat.le_of_ble_eq_true rfl, Nat.le_of_ble_eq_true rfl⟩ ⟨Nat.le_refl _, Nat.le_refl _⟩ 2 rfl rfl hP (hD _) hS hA2 rfl hl.1 (Nat.le_of_ble_eq_true rfl) dX2_renew_57 rfl (fun H locs hP hS => ?_)
                refine lv_iinc (v := nI (k + 1)) (lv' := [(1, .int (nI (k + 1))), (0, .ref (ad 2))]) E.1.1 E.1.2.1 dX2_renew_60 hl (k := 1) rfl (nI_add k 1) (by decide) rfl (fun ls hl => ?_)
                refine lv_goto (tgt := 38) E.1.1 E.1.2.1 dX2_renew_63 (by decide) ?_
                exact ih38 (k + 1) (jdF k τ) _ _ _ (Kp_jdF hT) (by omega) (by rw [hv, itN, jaS, if_pos h52]) hP hS (lv_sub hl [1, 0] rfl)
        exact LP38 24 0 τ _ _ _ hT (by omega) (by rw [rnF, hv]; rfl) hP hS (lv_sub hl [1, 0] rfl)
      · exact absurd h16 (by omega)
    | succ n ih14 =>
      intro k τ H locs ls hT hk hv hP hS hl
      refine lv_iload_n E.1.1 E.1.2.1 dX2_renew_14 rfl (lv_at hl 1 rfl) ?_
      refine lv_iconst (v := nI 4) E.1.1 E.1.2.1 dX2_renew_15 rfl ?_
      refine nv_icmp_ge (by omega) (by omega) E dX2_renew_16 (tgt := 36) (by decide) (fun h16 => ?_) (fun h16 => ?_)
      · exact absurd h16 (by omega)
      · refine lv_aload_n E.1.1 E.1.2.1 dX2_renew_19 rfl (lv_at hl 0 rfl) ?_
        refine gt_X2_callVerdicts E fl_X2_15 hP dX2_renew_20 ?_
        refine lv_iload_n E.1.1 E.1.2.1 dX2_renew_23 rfl (lv_at hl 1 rfl) ?_
        refine lv_aload_n E.1.1 E.1.2.1 dX2_renew_24 rfl (lv_at hl 0 rfl) ?_
        refine lv_iload_n E.1.1 E.1.2.1 dX2_renew_25 rfl (lv_at hl 1 rfl) ?_
        refine CM.callVi (n := 1) E (c_X2_verdictOfCalls l D cI cJ cZ ad τ k (by omega) (Kp_rf hT.1 hT.2.1 hT.2.2.1)) ml_X2_47 im_X2_verdictOfCalls se_X2_verdictOfCalls ini_X2 co_X2_verdictOfCalls hd_X2_verdictOfCalls ⟨Nat.le_of_ble_eq_true rfl, Nat.le_of_ble_eq_true rfl⟩ ⟨Nat.le_refl _, Nat.le_refl _⟩ 2 rfl rfl hP (hD _) hS hA2 rfl hl.1 (Nat.le_of_ble_eq_true rfl) dX2_renew_26 rfl (fun H locs hP hS => ?_)
        refine as_CS_CV (i := k) (v := vcF τ k) E hP hD hS (by omega) dX2_renew_29 (fun H locs hP hS => ?_)
        refine lv_iinc (v := nI (k + 1)) (lv' := [(1, .int (nI (k + 1))), (0, .ref (ad 2))]) E.1.1 E.1.2.1 dX2_renew_30 hl (k := 1) rfl (nI_add k 1) (by decide) rfl (fun ls hl => ?_)
        refine lv_goto (tgt := 14) E.1.1 E.1.2.1 dX2_renew_33 (by decide) ?_
        exact ih14 (k + 1) (scCV τ (va_up (gcCV τ) k (vcF τ k))) _ _ _ hT (by omega) (by rw [hv]; rfl) hP hS (lv_sub hl [1, 0] rfl)
  exact LP14 4 0 (frF (scV σ (fillF (gcV σ) 0 240 0))) _ _ _ (Kp_frF (σ := scV σ (fillF (gcV σ) 0 240 0)) hI hW) (by omega) rfl hP hS (lv_sub hl [1, 0] rfl)
