set_option maxRecDepth 100000 in
set_option maxHeartbeats 400000 in
theorem c_X4_reachAll (l : Launch) (D : va_G) (cI cJ cZ : ClassId) (ad : Nat → Nat) (σ : MS) (q : Nat)  (hq : q < 4) (hK : Kr σ σ) : CM l D (t3 cI cJ cZ) yX4_reachAll cX4_reachAll 5 (some .boolean) 1 [.ref (ad 0), .int (nI q)] (wR ad cI cJ cZ σ) (some (.int (bI ((raF q σ).1)))) (wR ad cI cJ cZ ((raF q σ).2)) := by
  refine CM.of (by decide) (Nat.le_of_ble_eq_true rfl) ?_
  intro p e s m below meth c A ls E hr hlk hP hD0 hA hA2 hS hl
  have hD := wR_D hD0
  have hl : lv_has ls 5 [(0, .ref (ad 0)), (1, .int (nI q))] := hl
  refine lv_iconst (v := nI 0) E.1.1 E.1.2.1 dX4_reachAll_0 rfl ?_
  refine lv_istore_n (lv' := [(2, .int (nI 0)), (0, .ref (ad 0)), (1, .int (nI q))]) E.1.1 E.1.2.1 dX4_reachAll_1 rfl hl (by decide) rfl (fun ls hl => ?_)
  refine lv_iconst (v := nI 0) E.1.1 E.1.2.1 dX4_reachAll_2 rfl ?_
  refine lv_istore_n (lv' := [(3, .int (nI 0)), (2, .int (nI 0)), (0, .ref (ad 0)), (1, .int (nI q))]) E.1.1 E.1.2.1 dX4_reachAll_3 rfl hl (by decide) rfl (fun ls hl => ?_)
  have LP4 : ∀ (n : Nat) (k : Nat) (x : Bool) (τ : MS) (H : Heap) (locs : List Loc) (ls : Array Slot), (Kr σ τ) → (k + n = 6) → (raF q σ = itN (raS q) n k (x, τ)) → va_P D vwCl (wR ad cI cJ cZ τ) H → va_S A s.heap H locs → lv_has ls 5 [(0, .ref (ad 0)), (1, .int (nI q)), (2, .int (bI x)), (3, .int (nI k))] → W p l e { frames := 1, cells := 0, slots := 0, locals := 40 * 1 } s m [.ref (ad 0), .int (nI q)].toArray below meth c H locs 0 0 (MQ below (Qcm D (wR ad cI cJ cZ σ) s.heap.size (some (.int (bI ((raF q σ).1)))) (wR ad cI cJ cZ ((raF q σ).2))) [.ref (ad 0), .int (nI q)].toArray s 0 0 A) (F0 m 4 ls []) := by
    intro n
    induction n with
    | zero =>
      intro k x τ H locs ls hT hk hv hP hS hl
      refine lv_iload_n E.1.1 E.1.2.1 dX4_reachAll_4 rfl (lv_at hl 3 rfl) ?_
      refine lv_bipush (v := nI 6) E.1.1 E.1.2.1 dX4_reachAll_5 rfl ?_
      refine nv_icmp_ge (by omega) (by omega) E dX4_reachAll_7 (tgt := 62) (by decide) (fun h7 => ?_) (fun h7 => ?_)
      · refine lv_iload_n E.1.1 E.1.2.1 dX4_reachAll_62 rfl (lv_at hl 2 rfl) ?_
        exact CM.retz E hr hlk hA (by rw [hv]; exact hP) hS (by rw [hv]; rfl) (bI_n _) dX4_reachAll_63
      · exact absurd h7 (by omega)
    | succ n ih4 =>
      intro k x τ H locs ls hT hk hv hP hS hl
      refine lv_iload_n E.1.1 E.1.2.1 dX4_reachAll_4 rfl (lv_at hl 3 rfl) ?_
      refine lv_bipush (v := nI 6) E.1.1 E.1.2.1 dX4_reachAll_5 rfl ?_
      refine nv_icmp_ge (by omega) (by omega) E dX4_reachAll_7 (tgt := 62) (by decide) (fun h7 => ?_) (fun h7 => ?_)
      · exact absurd h7 (by omega)
      · refine lv_aload_n E.1.1 E.1.2.1 dX4_reachAll_10 rfl (lv_at hl 0 rfl) ?_
        refine gt_X4_made E fl_X4_23 hP dX4_reachAll_11 ?_
        refine lv_iload_n E.1.1 E.1.2.1 dX4_reachAll_14 rfl (lv_at hl 3 rfl) ?_
        refine ld_MS_md (i := k) E hP (by omega) dX4_reachAll_15 ?_
        refine bv_if_eq (x := gmmd τ k) E dX4_reachAll_16 (tgt := 28) (by decide) (fun h16 => ?_) (fun h16 => ?_)
        · refine lv_iconst (v := oI none) E.1.1 E.1.2.1 dX4_reachAll_28 rfl ?_
          refine lv_istore (lv' := [(4, .int (oI none)), (0, .ref (ad 0)), (1, .int (nI q)), (2, .int (bI x)), (3, .int (nI k))]) E.1.1 E.1.2.1 dX4_reachAll_29 hl (by decide) rfl (fun ls hl => ?_)
          refine lv_iload E.1.1 E.1.2.1 dX4_reachAll_31 (lv_at hl 0 rfl) ?_
          refine ov_lt0 (o := none) (by intro j hj; first | (cases hj; done) | (have := tgM_lt hT.1.1 (by omega) hq hj; omega)) E dX4_reachAll_33 (tgt := 56) (by decide) (fun h33 => ?_) (fun k33 h33 => ?_)
          · refine lv_iinc (v := nI (k + 1)) (lv' := [(3, .int (nI (k + 1))), (4, .int (oI none)), (0, .ref (ad 0)), (1, .int (nI q)), (2, .int (bI x))]) E.1.1 E.1.2.1 dX4_reachAll_56 hl (k := 4) rfl (nI_add k 1) (by decide) rfl (fun ls hl => ?_)
            refine lv_goto (tgt := 4) E.1.1 E.1.2.1 dX4_reachAll_59 (by decide) ?_
            exact ih4 (k + 1) x τ _ _ _ (hT) (by omega) (by first | (rw [hv, itN]; simp [raS, h16]; done) | (rw [hv, itN]; simp [raS, h16, h33]; done) | (rw [hv, itN]; simp [raS, h16, h33, h43]; done)) hP hS (lv_sub hl [2, 3, 4, 0] rfl)
          · cases h33
        · refine lv_aload_n E.1.1 E.1.2.1 dX4_reachAll_19 rfl (lv_at hl 0 rfl) ?_
          refine lv_iload_n E.1.1 E.1.2.1 dX4_reachAll_20 rfl (lv_at hl 3 rfl) ?_
          refine lv_iload_n E.1.1 E.1.2.1 dX4_reachAll_21 rfl (lv_at hl 1 rfl) ?_
          refine CM.callVi (n := 2) E (c_X4_target l D cI cJ cZ ad τ k q (by omega) hq hT.1.1) ml_X4_95 im_X4_target se_X4_target ini_X4 co_X4_target hd_X4_target ⟨Nat.le_of_ble_eq_true rfl, Nat.le_of_ble_eq_true rfl⟩ ⟨Nat.le_refl _, Nat.le_refl _⟩ 0 rfl rfl hP (hD _) hS hA2 rfl hl.1 (Nat.le_of_ble_eq_true rfl) dX4_reachAll_22 rfl (fun H locs hP hS => ?_)
          refine lv_goto (tgt := 29) E.1.1 E.1.2.1 dX4_reachAll_25 (by decide) ?_
          refine lv_istore (lv' := [(4, .int (oI (tgM τ k q))), (0, .ref (ad 0)), (1, .int (nI q)), (2, .int (bI x)), (3, .int (nI k))]) E.1.1 E.1.2.1 dX4_reachAll_29 hl (by decide) rfl (fun ls hl => ?_)
          refine lv_iload E.1.1 E.1.2.1 dX4_reachAll_31 (lv_at hl 0 rfl) ?_
          refine ov_lt0 (o := tgM τ k q) (by intro j hj; first | (cases hj; done) | (have := tgM_lt hT.1.1 (by omega) hq hj; omega)) E dX4_reachAll_33 (tgt := 56) (by decide) (fun h33 => ?_) (fun k33 h33 => ?_)
          · refine lv_iinc (v := nI (k + 1)) (lv' := [(3, .int (nI (k + 1))), (4, .int (oI (tgM τ k q))), (0, .ref (ad 0)), (1, .int (nI q)), (2, .int (bI x))]) E.1.1 E.1.2.1 dX4_reachAll_56 hl (k := 4) rfl (nI_add k 1) (by decide) rfl (fun ls hl => ?_)
            refine lv_goto (tgt := 4) E.1.1 E.1.2.1 dX4_reachAll_59 (by decide) ?_
            exact ih4 (k + 1) x τ _ _ _ (hT) (by omega) (by first | (rw [hv, itN]; simp [raS, h16]; done) | (rw [hv, itN]; simp [raS, h16, h33]; done) | (rw [hv, itN]; simp [raS, h16, h33, h43]; done)) hP hS (lv_sub hl [2, 3, 4, 0] rfl)
          · have hk33 := tgM_lt hT.1.1 (by omega) hq h33
            have hl : lv_has ls 5 [(4, .int (nI k33)), (0, .ref (ad 0)), (1, .int (nI q)), (2, .int (bI x)), (3, .int (nI k))] := by have q9 := hl; rw [h33] at q9; exact q9
            refine lv_aload_n E.1.1 E.1.2.1 dX4_reachAll_36 rfl (lv_at hl 1 rfl) ?_
            refine gt_X4_reached E fl_X4_27 hP dX4_reachAll_37 ?_
            refine lv_iload E.1.1 E.1.2.1 dX4_reachAll_40 (lv_at hl 0 rfl) ?_
            refine ld_MS_rd (i := k33) E hP (by omega) dX4_reachAll_42 ?_
            refine bv_if_ne (x := gmrd τ k33) E dX4_reachAll_43 (tgt := 56) (by decide) (fun h43 => ?_) (fun h43 => ?_)
            · refine lv_iinc (v := nI (k + 1)) (lv' := [(3, .int (nI (k + 1))), (4, .int (nI k33)), (0, .ref (ad 0)), (1, .int (nI q)), (2, .int (bI x))]) E.1.1 E.1.2.1 dX4_reachAll_56 hl (k := 4) rfl (nI_add k 1) (by decide) rfl (fun ls hl => ?_)
              refine lv_goto (tgt := 4) E.1.1 E.1.2.1 dX4_reachAll_59 (by decide) ?_
              exact ih4 (k + 1) x τ _ _ _ (hT) (by omega) (by first | (rw [hv, itN]; simp [raS, h16]; done) | (rw [hv, itN]; simp [raS, h16, h33]; done) | (rw [hv, itN]; simp [raS, h16, h33, h43]; done)) hP hS (lv_sub hl [2, 3, 4, 0] rfl)
            · refine lv_aload_n E.1.1 E.1.2.1 dX4_reachAll_46 rfl (lv_at hl 1 rfl) ?_
              refine gt_X4_reached E fl_X4_27 hP dX4_reachAll_47 ?_
              refine lv_iload E.1.1 E.1.2.1 dX4_reachAll_50 (lv_at hl 0 rfl) ?_
              refine lv_iconst (v := nI 1) E.1.1 E.1.2.1 dX4_reachAll_52 rfl ?_
              refine as_MS_rd (i := k33) (v := true) E hP hD hS (by omega) dX4_reachAll_53 (fun H locs hP hS => ?_)
              refine lv_iconst (v := nI 1) E.1.1 E.1.2.1 dX4_reachAll_54 rfl ?_
              refine lv_istore_n (lv' := [(2, .int (nI 1)), (4, .int (nI k33)), (0, .ref (ad 0)), (1, .int (nI q)), (3, .int (nI k))]) E.1.1 E.1.2.1 dX4_reachAll_55 rfl hl (by decide) rfl (fun ls hl => ?_)
              refine lv_iinc (v := nI (k + 1)) (lv' := [(3, .int (nI (k + 1))), (2, .int (nI 1)), (4, .int (nI k33)), (0, .ref (ad 0)), (1, .int (nI q))]) E.1.1 E.1.2.1 dX4_reachAll_56 hl (k := 4) rfl (nI_add k 1) (by decide) rfl (fun ls hl => ?_)
              refine lv_goto (tgt := 4) E.1.1 E.1.2.1 dX4_reachAll_59 (by decide) ?_
              exact ih4 (k + 1) true (smrd τ (va_up (gmrd τ) k33 true)) _ _ _ (Kr_rd hT) (by omega) (by first | (rw [hv, itN]; simp [raS, h16]; done) | (rw [hv, itN]; simp [raS, h16, h33]; done) | (rw [hv, itN]; simp [raS, h16, h33, h43]; done)) hP hS (lv_sub hl [3, 4, 1, 0] rfl)
  exact LP4 6 0 false σ _ _ _ hK (by omega) rfl hP hS (lv_sub hl [2, 3, 1, 0] rfl)
set_option maxRecDepth 100000 in
set_option maxHeartbeats 400000 in
theorem c_X4_grows (l : Launch) (D : va_G) (cI cJ cZ : ClassId) (ad : Nat → Nat) (σ : MS) (b : Nat)  (hb : b < 24) (hK : Kr σ σ) : CM l D (t3 cI cJ cZ) yX4_grows cX4_grows 4 (some .boolean) 2 [.ref (ad 0), .int (nI b)] (wR ad cI cJ cZ σ) (some (.int (bI ((grF b σ).1)))) (wR ad cI cJ cZ ((grF b σ).2)) := by
  refine CM.of (by decide) (Nat.le_of_ble_eq_true rfl) ?_
  intro p e s m below meth c A ls E hr hlk hP hD0 hA hA2 hS hl
  have hD := wR_D hD0
  have hl : lv_has ls 4 [(0, .ref (ad 0)), (1, .int (nI b))] := hl
  refine lv_iconst (v := nI 0) E.1.1 E.1.2.1 dX4_grows_0 rfl ?_
  refine lv_istore_n (lv' := [(2, .int (nI 0)), (0, .ref (ad 0)), (1, .int (nI b))]) E.1.1 E.1.2.1 dX4_grows_1 rfl hl (by decide) rfl (fun ls hl => ?_)
  refine lv_iconst (v := nI 0) E.1.1 E.1.2.1 dX4_grows_2 rfl ?_
  refine lv_istore_n (lv' := [(3, .int (nI 0)), (2, .int (nI 0)), (0, .ref (ad 0)), (1, .int (nI b))]) E.1.1 E.1.2.1 dX4_grows_3 rfl hl (by decide) rfl (fun ls hl => ?_)
  have LP4 : ∀ (n : Nat) (k : Nat) (x : Bool) (τ : MS) (H : Heap) (locs : List Loc) (ls : Array Slot), (Kr σ τ) → (k + n = gmmy τ b) → (grF b σ = itN (grS b) n k (x, τ)) → va_P D vwCl (wR ad cI cJ cZ τ) H → va_S A s.heap H locs → lv_has ls 4 [(0, .ref (ad 0)), (1, .int (nI b)), (2, .int (bI x)), (3, .int (nI k))] → W p l e { frames := 2, cells := 0, slots := 0, locals := 40 * 2 } s m [.ref (ad 0), .int (nI b)].toArray below meth c H locs 0 0 (MQ below (Qcm D (wR ad cI cJ cZ σ) s.heap.size (some (.int (bI ((grF b σ).1)))) (wR ad cI cJ cZ ((grF b σ).2))) [.ref (ad 0), .int (nI b)].toArray s 0 0 A) (F0 m 4 ls []) := by
    intro n
    induction n with
    | zero =>
      intro k x τ H locs ls hT hk hv hP hS hl
      have hL := hT.1.1.2.1 b
      refine lv_iload_n E.1.1 E.1.2.1 dX4_grows_4 rfl (lv_at hl 3 rfl) ?_
      refine lv_aload_n E.1.1 E.1.2.1 dX4_grows_5 rfl (lv_at hl 0 rfl) ?_
      refine gt_X4_many E fl_X4_17 hP dX4_grows_6 ?_
      refine lv_iload_n E.1.1 E.1.2.1 dX4_grows_9 rfl (lv_at hl 1 rfl) ?_
      refine ld_MS_my (i := b) E hP (by omega) dX4_grows_10 ?_
      refine nv_icmp_ge (by omega) (by omega) E dX4_grows_11 (tgt := 97) (by decide) (fun h11 => ?_) (fun h11 => ?_)
      · refine lv_iload_n E.1.1 E.1.2.1 dX4_grows_97 rfl (lv_at hl 2 rfl) ?_
        exact CM.retz E hr hlk hA (by rw [hv]; exact hP) hS (by rw [hv]; rfl) (bI_n _) dX4_grows_98
      · exact absurd h11 (by omega)
    | succ n ih4 =>
      intro k x τ H locs ls hT hk hv hP hS hl
      have hL := hT.1.1.2.1 b
      refine lv_iload_n E.1.1 E.1.2.1 dX4_grows_4 rfl (lv_at hl 3 rfl) ?_
      refine lv_aload_n E.1.1 E.1.2.1 dX4_grows_5 rfl (lv_at hl 0 rfl) ?_
      refine gt_X4_many E fl_X4_17 hP dX4_grows_6 ?_
      refine lv_iload_n E.1.1 E.1.2.1 dX4_grows_9 rfl (lv_at hl 1 rfl) ?_
      refine ld_MS_my (i := b) E hP (by omega) dX4_grows_10 ?_
      refine nv_icmp_ge (by omega) (by omega) E dX4_grows_11 (tgt := 97) (by decide) (fun h11 => ?_) (fun h11 => ?_)
      · exact absurd h11 (by omega)
      · refine lv_aload_n E.1.1 E.1.2.1 dX4_grows_14 rfl (lv_at hl 0 rfl) ?_
        refine lv_iload_n E.1.1 E.1.2.1 dX4_grows_15 rfl (lv_at hl 1 rfl) ?_
        refine lv_iload_n E.1.1 E.1.2.1 dX4_grows_16 rfl (lv_at hl 3 rfl) ?_
        refine lv_iconst (v := nI 0) E.1.1 E.1.2.1 dX4_grows_17 rfl ?_
        refine CM.callVi (n := 3) E (c_X4_at l D cI cJ cZ ad τ b k 0 (by omega)) ml_X4_99 im_X4_at se_X4_at ini_X4 co_X4_at hd_X4_at ⟨Nat.le_of_ble_eq_true rfl, Nat.le_of_ble_eq_true rfl⟩ ⟨Nat.le_refl _, Nat.le_refl _⟩ 0 rfl rfl hP (hD _) hS hA2 rfl hl.1 (Nat.le_of_ble_eq_true rfl) dX4_grows_18 rfl (fun H locs hP hS => ?_)
        refine tpi (y := nI (kM τ (10 * b + k))) (at0 hT.1.2 b k) ?_
        refine lv_iconst (v := nI 4) E.1.1 E.1.2.1 dX4_grows_21 rfl ?_
        refine nv_icmp_ne (by have := (hT.1.2 (10 * b + k)).1.2; omega) (by omega) E dX4_grows_22 (tgt := 55) (by decide) (fun h22 => ?_) (fun h22 => ?_)
        · refine lv_aload_n E.1.1 E.1.2.1 dX4_grows_55 rfl (lv_at hl 0 rfl) ?_
          refine lv_iload_n E.1.1 E.1.2.1 dX4_grows_56 rfl (lv_at hl 1 rfl) ?_
          refine lv_iload_n E.1.1 E.1.2.1 dX4_grows_57 rfl (lv_at hl 3 rfl) ?_
          refine lv_iconst (v := nI 0) E.1.1 E.1.2.1 dX4_grows_58 rfl ?_
          refine CM.callVi (n := 3) E (c_X4_at l D cI cJ cZ ad τ b k 0 (by omega)) ml_X4_99 im_X4_at se_X4_at ini_X4 co_X4_at hd_X4_at ⟨Nat.le_of_ble_eq_true rfl, Nat.le_of_ble_eq_true rfl⟩ ⟨Nat.le_refl _, Nat.le_refl _⟩ 0 rfl rfl hP (hD _) hS hA2 rfl hl.1 (Nat.le_of_ble_eq_true rfl) dX4_grows_59 rfl (fun H locs hP hS => ?_)
          refine tpi (y := nI (kM τ (10 * b + k))) (by first | exact at0 hT.1.2 b k | (rw [hs_cd_md]; exact at0 hT.1.2 b k)) ?_
          refine lv_bipush (v := nI 7) E.1.1 E.1.2.1 dX4_grows_62 rfl ?_
          refine nv_icmp_ne (by have := (hT.1.2 (10 * b + k)).1.2; omega) (by omega) E dX4_grows_64 (tgt := 91) (by decide) (fun h64 => ?_) (fun h64 => ?_)
          · refine lv_iinc (v := nI (k + 1)) (lv' := [(3, .int (nI (k + 1))), (0, .ref (ad 0)), (1, .int (nI b)), (2, .int (bI x))]) E.1.1 E.1.2.1 dX4_grows_91 hl (k := 3) rfl (nI_add k 1) (by decide) rfl (fun ls hl => ?_)
            refine lv_goto (tgt := 4) E.1.1 E.1.2.1 dX4_grows_94 (by decide) ?_
            exact ih4 (k + 1) x τ _ _ _ (hT) (by show _ = gmmy τ b; omega) (by first | (exfalso; omega) | (rw [hv, itN]; simp [grS, h22, h37]; done) | (rw [hv, itN]; simp [grS, h22, h64]; done) | (rw [hv, itN]; simp [grS, h22, h64, h78]; done) | (rw [hv, itN]; simp [grS, h22, h64, h78, h82]; done)) hP hS (lv_sub hl [1, 2, 3, 0] rfl)
          · refine lv_aload_n E.1.1 E.1.2.1 dX4_grows_67 rfl (lv_at hl 0 rfl) ?_
            refine lv_aload_n E.1.1 E.1.2.1 dX4_grows_68 rfl (lv_at hl 0 rfl) ?_
            refine lv_iload_n E.1.1 E.1.2.1 dX4_grows_69 rfl (lv_at hl 1 rfl) ?_
            refine lv_iload_n E.1.1 E.1.2.1 dX4_grows_70 rfl (lv_at hl 3 rfl) ?_
            refine lv_iconst (v := nI 3) E.1.1 E.1.2.1 dX4_grows_71 rfl ?_
            refine CM.callVi (n := 3) E (c_X4_at l D cI cJ cZ ad τ b k 3 (by omega)) ml_X4_99 im_X4_at se_X4_at ini_X4 co_X4_at hd_X4_at ⟨Nat.le_of_ble_eq_true rfl, Nat.le_of_ble_eq_true rfl⟩ ⟨Nat.le_refl _, Nat.le_refl _⟩ 0 rfl rfl hP (hD _) hS hA2 rfl hl.1 (Nat.le_of_ble_eq_true rfl) dX4_grows_72 rfl (fun H locs hP hS => ?_)
            refine tpi (y := nI (zM τ (10 * b + k))) (by rw [at3]; exact (CI_z4 hT.1.2 h64).1) ?_
            refine CM.callVi (n := 1) E (c_X4_reachAll l D cI cJ cZ ad τ (zM τ (10 * b + k)) (CI_z4 hT.1.2 h64).2 (Kr_rf hT.1)) ml_X4_103 im_X4_reachAll se_X4_reachAll ini_X4 co_X4_reachAll hd_X4_reachAll ⟨Nat.le_of_ble_eq_true rfl, Nat.le_of_ble_eq_true rfl⟩ ⟨Nat.le_refl _, Nat.le_refl _⟩ 0 rfl rfl hP (hD _) hS hA2 rfl hl.1 (Nat.le_of_ble_eq_true rfl) dX4_grows_75 rfl (fun H locs hP hS => ?_)
            refine bv_if_ne (x := (raF (zM τ (10 * b + k)) τ).1) E dX4_grows_78 (tgt := 85) (by decide) (fun h78 => ?_) (fun h78 => ?_)
            · refine lv_iconst (v := nI 1) E.1.1 E.1.2.1 dX4_grows_85 rfl ?_
              refine lv_goto (tgt := 90) E.1.1 E.1.2.1 dX4_grows_86 (by decide) ?_
              refine lv_istore_n (lv' := [(2, .int (nI 1)), (0, .ref (ad 0)), (1, .int (nI b)), (3, .int (nI k))]) E.1.1 E.1.2.1 dX4_grows_90 rfl hl (by decide) rfl (fun ls hl => ?_)
              refine lv_iinc (v := nI (k + 1)) (lv' := [(3, .int (nI (k + 1))), (2, .int (nI 1)), (0, .ref (ad 0)), (1, .int (nI b))]) E.1.1 E.1.2.1 dX4_grows_91 hl (k := 3) rfl (nI_add k 1) (by decide) rfl (fun ls hl => ?_)
              refine lv_goto (tgt := 4) E.1.1 E.1.2.1 dX4_grows_94 (by decide) ?_
              exact ih4 (k + 1) true ((raF (zM τ (10 * b + k)) τ).2) _ _ _ (Kr_raF hT) (by rw [(Kr_raF hT).2.1, ← hT.2.1]; omega) (by first | (exfalso; omega) | (rw [hv, itN]; simp [grS, h22, h37]; done) | (rw [hv, itN]; simp [grS, h22, h64]; done) | (rw [hv, itN]; simp [grS, h22, h64, h78]; done) | (rw [hv, itN]; simp [grS, h22, h64, h78, h82]; done)) hP hS (lv_sub hl [2, 3, 1, 0] rfl)
            · refine lv_iload_n E.1.1 E.1.2.1 dX4_grows_81 rfl (lv_at hl 2 rfl) ?_
              refine bv_if_eq (x := x) E dX4_grows_82 (tgt := 89) (by decide) (fun h82 => ?_) (fun h82 => ?_)
              · refine lv_iconst (v := nI 0) E.1.1 E.1.2.1 dX4_grows_89 rfl ?_
                refine lv_istore_n (lv' := [(2, .int (nI 0)), (0, .ref (ad 0)), (1, .int (nI b)), (3, .int (nI k))]) E.1.1 E.1.2.1 dX4_grows_90 rfl hl (by decide) rfl (fun ls hl => ?_)
                refine lv_iinc (v := nI (k + 1)) (lv' := [(3, .int (nI (k + 1))), (2, .int (nI 0)), (0, .ref (ad 0)), (1, .int (nI b))]) E.1.1 E.1.2.1 dX4_grows_91 hl (k := 3) rfl (nI_add k 1) (by decide) rfl (fun ls hl => ?_)
                refine lv_goto (tgt := 4) E.1.1 E.1.2.1 dX4_grows_94 (by decide) ?_
                exact ih4 (k + 1) false ((raF (zM τ (10 * b + k)) τ).2) _ _ _ (Kr_raF hT) (by rw [(Kr_raF hT).2.1, ← hT.2.1]; omega) (by first | (exfalso; omega) | (rw [hv, itN]; simp [grS, h22, h37]; done) | (rw [hv, itN]; simp [grS, h22, h64]; done) | (rw [hv, itN]; simp [grS, h22, h64, h78]; done) | (rw [hv, itN]; simp [grS, h22, h64, h78, h82]; done)) hP hS (lv_sub hl [2, 3, 1, 0] rfl)
              · refine lv_iconst (v := nI 1) E.1.1 E.1.2.1 dX4_grows_85 rfl ?_
                refine lv_goto (tgt := 90) E.1.1 E.1.2.1 dX4_grows_86 (by decide) ?_
                refine lv_istore_n (lv' := [(2, .int (nI 1)), (0, .ref (ad 0)), (1, .int (nI b)), (3, .int (nI k))]) E.1.1 E.1.2.1 dX4_grows_90 rfl hl (by decide) rfl (fun ls hl => ?_)
                refine lv_iinc (v := nI (k + 1)) (lv' := [(3, .int (nI (k + 1))), (2, .int (nI 1)), (0, .ref (ad 0)), (1, .int (nI b))]) E.1.1 E.1.2.1 dX4_grows_91 hl (k := 3) rfl (nI_add k 1) (by decide) rfl (fun ls hl => ?_)
                refine lv_goto (tgt := 4) E.1.1 E.1.2.1 dX4_grows_94 (by decide) ?_
                exact ih4 (k + 1) true ((raF (zM τ (10 * b + k)) τ).2) _ _ _ (Kr_raF hT) (by rw [(Kr_raF hT).2.1, ← hT.2.1]; omega) (by first | (exfalso; omega) | (rw [hv, itN]; simp [grS, h22, h37]; done) | (rw [hv, itN]; simp [grS, h22, h64]; done) | (rw [hv, itN]; simp [grS, h22, h64, h78]; done) | (rw [hv, itN]; simp [grS, h22, h64, h78, h82]; done)) hP hS (lv_sub hl [2, 3, 1, 0] rfl)
        · refine lv_aload_n E.1.1 E.1.2.1 dX4_grows_25 rfl (lv_at hl 0 rfl) ?_
          refine gt_X4_made E fl_X4_23 hP dX4_grows_26 ?_
          refine lv_aload_n E.1.1 E.1.2.1 dX4_grows_29 rfl (lv_at hl 0 rfl) ?_
          refine lv_iload_n E.1.1 E.1.2.1 dX4_grows_30 rfl (lv_at hl 1 rfl) ?_
          refine lv_iload_n E.1.1 E.1.2.1 dX4_grows_31 rfl (lv_at hl 3 rfl) ?_
          refine lv_iconst (v := nI 2) E.1.1 E.1.2.1 dX4_grows_32 rfl ?_
          refine CM.callVi (n := 3) E (c_X4_at l D cI cJ cZ ad τ b k 2 (by omega)) ml_X4_99 im_X4_at se_X4_at ini_X4 co_X4_at hd_X4_at ⟨Nat.le_of_ble_eq_true rfl, Nat.le_of_ble_eq_true rfl⟩ ⟨Nat.le_refl _, Nat.le_refl _⟩ 0 rfl rfl hP (hD _) hS hA2 rfl hl.1 (Nat.le_of_ble_eq_true rfl) dX4_grows_33 rfl (fun H locs hP hS => ?_)
          refine tpi (y := nI (yM τ (10 * b + k))) (by rw [at2]; exact (CI_y hT.1.2 (by omega)).1) ?_
          refine ld_MS_md (i := yM τ (10 * b + k)) E hP (by have := (CI_y hT.1.2 (p := 10 * b + k) (by omega)).2; omega) dX4_grows_36 ?_
          refine bv_if_ne (x := gmmd τ (yM τ (10 * b + k))) E dX4_grows_37 (tgt := 55) (by decide) (fun h37 => ?_) (fun h37 => ?_)
          · refine lv_aload_n E.1.1 E.1.2.1 dX4_grows_55 rfl (lv_at hl 0 rfl) ?_
            refine lv_iload_n E.1.1 E.1.2.1 dX4_grows_56 rfl (lv_at hl 1 rfl) ?_
            refine lv_iload_n E.1.1 E.1.2.1 dX4_grows_57 rfl (lv_at hl 3 rfl) ?_
            refine lv_iconst (v := nI 0) E.1.1 E.1.2.1 dX4_grows_58 rfl ?_
            refine CM.callVi (n := 3) E (c_X4_at l D cI cJ cZ ad τ b k 0 (by omega)) ml_X4_99 im_X4_at se_X4_at ini_X4 co_X4_at hd_X4_at ⟨Nat.le_of_ble_eq_true rfl, Nat.le_of_ble_eq_true rfl⟩ ⟨Nat.le_refl _, Nat.le_refl _⟩ 0 rfl rfl hP (hD _) hS hA2 rfl hl.1 (Nat.le_of_ble_eq_true rfl) dX4_grows_59 rfl (fun H locs hP hS => ?_)
            refine tpi (y := nI (kM τ (10 * b + k))) (by first | exact at0 hT.1.2 b k | (rw [hs_cd_md]; exact at0 hT.1.2 b k)) ?_
            refine lv_bipush (v := nI 7) E.1.1 E.1.2.1 dX4_grows_62 rfl ?_
            refine nv_icmp_ne (by have := (hT.1.2 (10 * b + k)).1.2; omega) (by omega) E dX4_grows_64 (tgt := 91) (by decide) (fun h64 => ?_) (fun h64 => ?_)
            · refine lv_iinc (v := nI (k + 1)) (lv' := [(3, .int (nI (k + 1))), (0, .ref (ad 0)), (1, .int (nI b)), (2, .int (bI x))]) E.1.1 E.1.2.1 dX4_grows_91 hl (k := 3) rfl (nI_add k 1) (by decide) rfl (fun ls hl => ?_)
              refine lv_goto (tgt := 4) E.1.1 E.1.2.1 dX4_grows_94 (by decide) ?_
              exact ih4 (k + 1) x τ _ _ _ (hT) (by show _ = gmmy τ b; omega) (by first | (exfalso; omega) | (rw [hv, itN]; simp [grS, h22, h37]; done) | (rw [hv, itN]; simp [grS, h22, h64]; done) | (rw [hv, itN]; simp [grS, h22, h64, h78]; done) | (rw [hv, itN]; simp [grS, h22, h64, h78, h82]; done)) hP hS (lv_sub hl [1, 2, 3, 0] rfl)
            · refine lv_aload_n E.1.1 E.1.2.1 dX4_grows_67 rfl (lv_at hl 0 rfl) ?_
              refine lv_aload_n E.1.1 E.1.2.1 dX4_grows_68 rfl (lv_at hl 0 rfl) ?_
              refine lv_iload_n E.1.1 E.1.2.1 dX4_grows_69 rfl (lv_at hl 1 rfl) ?_
              refine lv_iload_n E.1.1 E.1.2.1 dX4_grows_70 rfl (lv_at hl 3 rfl) ?_
              refine lv_iconst (v := nI 3) E.1.1 E.1.2.1 dX4_grows_71 rfl ?_
              refine CM.callVi (n := 3) E (c_X4_at l D cI cJ cZ ad τ b k 3 (by omega)) ml_X4_99 im_X4_at se_X4_at ini_X4 co_X4_at hd_X4_at ⟨Nat.le_of_ble_eq_true rfl, Nat.le_of_ble_eq_true rfl⟩ ⟨Nat.le_refl _, Nat.le_refl _⟩ 0 rfl rfl hP (hD _) hS hA2 rfl hl.1 (Nat.le_of_ble_eq_true rfl) dX4_grows_72 rfl (fun H locs hP hS => ?_)
              refine tpi (y := nI (zM τ (10 * b + k))) (by rw [at3]; exact (CI_z4 hT.1.2 h64).1) ?_
              refine CM.callVi (n := 1) E (c_X4_reachAll l D cI cJ cZ ad τ (zM τ (10 * b + k)) (CI_z4 hT.1.2 h64).2 (Kr_rf hT.1)) ml_X4_103 im_X4_reachAll se_X4_reachAll ini_X4 co_X4_reachAll hd_X4_reachAll ⟨Nat.le_of_ble_eq_true rfl, Nat.le_of_ble_eq_true rfl⟩ ⟨Nat.le_refl _, Nat.le_refl _⟩ 0 rfl rfl hP (hD _) hS hA2 rfl hl.1 (Nat.le_of_ble_eq_true rfl) dX4_grows_75 rfl (fun H locs hP hS => ?_)
              refine bv_if_ne (x := (raF (zM τ (10 * b + k)) τ).1) E dX4_grows_78 (tgt := 85) (by decide) (fun h78 => ?_) (fun h78 => ?_)
              · refine lv_iconst (v := nI 1) E.1.1 E.1.2.1 dX4_grows_85 rfl ?_
                refine lv_goto (tgt := 90) E.1.1 E.1.2.1 dX4_grows_86 (by decide) ?_
                refine lv_istore_n (lv' := [(2, .int (nI 1)), (0, .ref (ad 0)), (1, .int (nI b)), (3, .int (nI k))]) E.1.1 E.1.2.1 dX4_grows_90 rfl hl (by decide) rfl (fun ls hl => ?_)
                refine lv_iinc (v := nI (k + 1)) (lv' := [(3, .int (nI (k + 1))), (2, .int (nI 1)), (0, .ref (ad 0)), (1, .int (nI b))]) E.1.1 E.1.2.1 dX4_grows_91 hl (k := 3) rfl (nI_add k 1) (by decide) rfl (fun ls hl => ?_)
                refine lv_goto (tgt := 4) E.1.1 E.1.2.1 dX4_grows_94 (by decide) ?_
                exact ih4 (k + 1) true ((raF (zM τ (10 * b + k)) τ).2) _ _ _ (Kr_raF hT) (by rw [(Kr_raF hT).2.1, ← hT.2.1]; omega) (by first | (exfalso; omega) | (rw [hv, itN]; simp [grS, h22, h37]; done) | (rw [hv, itN]; simp [grS, h22, h64]; done) | (rw [hv, itN]; simp [grS, h22, h64, h78]; done) | (rw [hv, itN]; simp [grS, h22, h64, h78, h82]; done)) hP hS (lv_sub hl [2, 3, 1, 0] rfl)
              · refine lv_iload_n E.1.1 E.1.2.1 dX4_grows_81 rfl (lv_at hl 2 rfl) ?_
                refine bv_if_eq (x := x) E dX4_grows_82 (tgt := 89) (by decide) (fun h82 => ?_) (fun h82 => ?_)
                · refine lv_iconst (v := nI 0) E.1.1 E.1.2.1 dX4_grows_89 rfl ?_
                  refine lv_istore_n (lv' := [(2, .int (nI 0)), (0, .ref (ad 0)), (1, .int (nI b)), (3, .int (nI k))]) E.1.1 E.1.2.1 dX4_grows_90 rfl hl (by decide) rfl (fun ls hl => ?_)
                  refine lv_iinc (v := nI (k + 1)) (lv' := [(3, .int (nI (k + 1))), (2, .int (nI 0)), (0, .ref (ad 0)), (1, .int (nI b))]) E.1.1 E.1.2.1 dX4_grows_91 hl (k := 3) rfl (nI_add k 1) (by decide) rfl (fun ls hl => ?_)
                  refine lv_goto (tgt := 4) E.1.1 E.1.2.1 dX4_grows_94 (by decide) ?_
                  exact ih4 (k + 1) false ((raF (zM τ (10 * b + k)) τ).2) _ _ _ (Kr_raF hT) (by rw [(Kr_raF hT).2.1, ← hT.2.1]; omega) (by first | (exfalso; omega) | (rw [hv, itN]; simp [grS, h22, h37]; done) | (rw [hv, itN]; simp [grS, h22, h64]; done) | (rw [hv, itN]; simp [grS, h22, h64, h78]; done) | (rw [hv, itN]; simp [grS, h22, h64, h78, h82]; done)) hP hS (lv_sub hl [2, 3, 1, 0] rfl)
                · refine lv_iconst (v := nI 1) E.1.1 E.1.2.1 dX4_grows_85 rfl ?_
                  refine lv_goto (tgt := 90) E.1.1 E.1.2.1 dX4_grows_86 (by decide) ?_
                  refine lv_istore_n (lv' := [(2, .int (nI 1)), (0, .ref (ad 0)), (1, .int (nI b)), (3, .int (nI k))]) E.1.1 E.1.2.1 dX4_grows_90 rfl hl (by decide) rfl (fun ls hl => ?_)
                  refine lv_iinc (v := nI (k + 1)) (lv' := [(3, .int (nI (k + 1))), (2, .int (nI 1)), (0, .ref (ad 0)), (1, .int (nI b))]) E.1.1 E.1.2.1 dX4_grows_91 hl (k := 3) rfl (nI_add k 1) (by decide) rfl (fun ls hl => ?_)
                  refine lv_goto (tgt := 4) E.1.1 E.1.2.1 dX4_grows_94 (by decide) ?_
                  exact ih4 (k + 1) true ((raF (zM τ (10 * b + k)) τ).2) _ _ _ (Kr_raF hT) (by rw [(Kr_raF hT).2.1, ← hT.2.1]; omega) (by first | (exfalso; omega) | (rw [hv, itN]; simp [grS, h22, h37]; done) | (rw [hv, itN]; simp [grS, h22, h64]; done) | (rw [hv, itN]; simp [grS, h22, h64, h78]; done) | (rw [hv, itN]; simp [grS, h22, h64, h78, h82]; done)) hP hS (lv_sub hl [2, 3, 1, 0] rfl)
          · refine lv_aload_n E.1.1 E.1.2.1 dX4_grows_40 rfl (lv_at hl 0 rfl) ?_
            refine gt_X4_made E fl_X4_23 hP dX4_grows_41 ?_
            refine lv_aload_n E.1.1 E.1.2.1 dX4_grows_44 rfl (lv_at hl 0 rfl) ?_
            refine lv_iload_n E.1.1 E.1.2.1 dX4_grows_45 rfl (lv_at hl 1 rfl) ?_
            refine lv_iload_n E.1.1 E.1.2.1 dX4_grows_46 rfl (lv_at hl 3 rfl) ?_
            refine lv_iconst (v := nI 2) E.1.1 E.1.2.1 dX4_grows_47 rfl ?_
            refine CM.callVi (n := 3) E (c_X4_at l D cI cJ cZ ad τ b k 2 (by omega)) ml_X4_99 im_X4_at se_X4_at ini_X4 co_X4_at hd_X4_at ⟨Nat.le_of_ble_eq_true rfl, Nat.le_of_ble_eq_true rfl⟩ ⟨Nat.le_refl _, Nat.le_refl _⟩ 0 rfl rfl hP (hD _) hS hA2 rfl hl.1 (Nat.le_of_ble_eq_true rfl) dX4_grows_48 rfl (fun H locs hP hS => ?_)
            refine tpi (y := nI (yM τ (10 * b + k))) (by rw [at2]; exact (CI_y hT.1.2 (by omega)).1) ?_
            refine lv_iconst (v := nI 1) E.1.1 E.1.2.1 dX4_grows_51 rfl ?_
            refine as_MS_md (i := yM τ (10 * b + k)) (v := true) E hP hD hS (by have := (CI_y hT.1.2 (p := 10 * b + k) (by omega)).2; omega) dX4_grows_52 (fun H locs hP hS => ?_)
            refine lv_iconst (v := nI 1) E.1.1 E.1.2.1 dX4_grows_53 rfl ?_
            refine lv_istore_n (lv' := [(2, .int (nI 1)), (0, .ref (ad 0)), (1, .int (nI b)), (3, .int (nI k))]) E.1.1 E.1.2.1 dX4_grows_54 rfl hl (by decide) rfl (fun ls hl => ?_)
            refine lv_aload_n E.1.1 E.1.2.1 dX4_grows_55 rfl (lv_at hl 1 rfl) ?_
            refine lv_iload_n E.1.1 E.1.2.1 dX4_grows_56 rfl (lv_at hl 2 rfl) ?_
            refine lv_iload_n E.1.1 E.1.2.1 dX4_grows_57 rfl (lv_at hl 3 rfl) ?_
            refine lv_iconst (v := nI 0) E.1.1 E.1.2.1 dX4_grows_58 rfl ?_
            refine CM.callVi (n := 3) E (c_X4_at l D cI cJ cZ ad (smmd τ (va_up (gmmd τ) (yM τ (10 * b + k)) true)) b k 0 (by omega)) ml_X4_99 im_X4_at se_X4_at ini_X4 co_X4_at hd_X4_at ⟨Nat.le_of_ble_eq_true rfl, Nat.le_of_ble_eq_true rfl⟩ ⟨Nat.le_refl _, Nat.le_refl _⟩ 0 rfl rfl hP (hD _) hS hA2 rfl hl.1 (Nat.le_of_ble_eq_true rfl) dX4_grows_59 rfl (fun H locs hP hS => ?_)
            refine tpi (y := nI (kM τ (10 * b + k))) (by first | exact at0 hT.1.2 b k | (rw [hs_cd_md]; exact at0 hT.1.2 b k)) ?_
            refine lv_bipush (v := nI 7) E.1.1 E.1.2.1 dX4_grows_62 rfl ?_
            refine nv_icmp_ne (by have := (hT.1.2 (10 * b + k)).1.2; omega) (by omega) E dX4_grows_64 (tgt := 91) (by decide) (fun h64 => ?_) (fun h64 => ?_)
            · refine lv_iinc (v := nI (k + 1)) (lv' := [(3, .int (nI (k + 1))), (2, .int (nI 1)), (0, .ref (ad 0)), (1, .int (nI b))]) E.1.1 E.1.2.1 dX4_grows_91 hl (k := 3) rfl (nI_add k 1) (by decide) rfl (fun ls hl => ?_)
              refine lv_goto (tgt := 4) E.1.1 E.1.2.1 dX4_grows_94 (by decide) ?_
              exact ih4 (k + 1) true (smmd τ (va_up (gmmd τ) (yM τ (10 * b + k)) true)) _ _ _ (Kr_md hT) (by show _ = gmmy τ b; omega) (by first | (exfalso; omega) | (rw [hv, itN]; simp [grS, h22, h37]; done) | (rw [hv, itN]; simp [grS, h22, h64]; done) | (rw [hv, itN]; simp [grS, h22, h64, h78]; done) | (rw [hv, itN]; simp [grS, h22, h64, h78, h82]; done)) hP hS (lv_sub hl [2, 3, 1, 0] rfl)
            · exact absurd h64 (by omega)
  exact LP4 (gmmy σ b) 0 false σ _ _ _ hK (by omega) rfl hP hS (lv_sub hl [2, 3, 1, 0] rfl)
