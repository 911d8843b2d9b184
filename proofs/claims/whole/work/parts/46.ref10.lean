theorem doR_lt (sh : Bool) (σ : MS) : doR sh σ < 2147483648 := by
  have h : doR sh σ ≤ 7 := by
    unfold doR dpR nwR clR
    split <;> (try split) <;> (try split) <;> (try split) <;> decide
  omega
set_option maxRecDepth 100000 in
set_option maxHeartbeats 400000 in
theorem c_X4_run_no (l : Launch) (D : va_G) (cI cJ cZ : ClassId) (ad : Nat → Nat) (σ : MS) (sh : Bool) (v : Int32)  (hv : isW v (nI 61) = false) : CM l D (t3 cI cJ cZ) yX4_run cX4_run 5 (some .int) 3 [.ref (ad 0), .int (bI sh), .int v] (wR ad cI cJ cZ σ) (some (.int (nI 0))) (wR ad cI cJ cZ (smth σ (thF true false))) := by
  refine CM.of (by decide) (Nat.le_of_ble_eq_true rfl) ?_
  intro p e s m below meth c A ls E hr hlk hP hD0 hA hA2 hS hl
  have hD := wR_D hD0
  have hl : lv_has ls 5 [(0, .ref (ad 0)), (1, .int (bI sh)), (2, .int v)] := hl
  refine lv_aload_n E.1.1 E.1.2.1 dX4_run_0 rfl (lv_at hl 0 rfl) ?_
  refine lv_iload_n E.1.1 E.1.2.1 dX4_run_1 rfl (lv_at hl 2 rfl) ?_
  refine lv_iconst (v := nI 0) E.1.1 E.1.2.1 dX4_run_2 rfl ?_
  refine lv_bipush (v := nI 60) E.1.1 E.1.2.1 dX4_run_3 rfl ?_
  refine CM.callSi (n := 3) E (c_X4_outside l D cI cJ cZ ad σ v (nI 0) (nI 60)) ml_X4_72 st_X4_outside ini_X4 co_X4_outside hd_X4_outside ⟨Nat.le_of_ble_eq_true rfl, Nat.le_of_ble_eq_true rfl⟩ ⟨Nat.le_refl _, Nat.le_refl _⟩ hP (hD _) hS hA2 rfl hl.1 (Nat.le_of_ble_eq_true rfl) dX4_run_5 rfl (fun H locs hP hS => ?_)
  refine tpi (y := bI true) (by rw [ou_isW (by decide), hv]; rfl) ?_
  refine lv_iconst (v := nI 0) E.1.1 E.1.2.1 dX4_run_8 rfl ?_
  refine CM.callVi (n := 2) E (c_X4_fails l D cI cJ cZ ad σ true false) ml_X4_76 im_X4_fails se_X4_fails ini_X4 co_X4_fails hd_X4_fails ⟨Nat.le_of_ble_eq_true rfl, Nat.le_of_ble_eq_true rfl⟩ ⟨Nat.le_refl _, Nat.le_refl _⟩ 0 rfl rfl hP (hD _) hS hA2 rfl hl.1 (Nat.le_of_ble_eq_true rfl) dX4_run_9 rfl (fun H locs hP hS => ?_)
  refine bv_if_eq (x := true || false) E dX4_run_12 (tgt := 17) (by decide) (fun h12 => ?_) (fun h12 => ?_)
  · exact absurd h12 (by decide)
  · refine lv_iconst (v := nI 0) E.1.1 E.1.2.1 dX4_run_15 rfl ?_
    exact CM.reti E hr hlk hA hP hS rfl dX4_run_16
set_option maxRecDepth 100000 in
set_option maxHeartbeats 400000 in
theorem c_X4_run_ok (l : Launch) (D : va_G) (cI cJ cZ : ClassId) (ad : Nat → Nat) (σ : MS) (sh : Bool) (h : Nat) (c0 : CS) (hX : XZ c0 σ) (hR : RI c0) (hh : h ≤ 60) : CM l D (t3 cI cJ cZ) yX4_run cX4_run 5 (some .int) 3 [.ref (ad 0), .int (bI sh), .int (nI h)] (wR ad cI cJ cZ σ) (some (.int (nI ((mrF sh h σ).1)))) (wR ad cI cJ cZ ((mrF sh h σ).2)) := by
  refine CM.of (by decide) (Nat.le_of_ble_eq_true rfl) ?_
  intro p e s m below meth c A ls E hr hlk hP hD0 hA hA2 hS hl
  have hD := wR_D hD0
  have hl : lv_has ls 5 [(0, .ref (ad 0)), (1, .int (bI sh)), (2, .int (nI h))] := hl
  refine lv_aload_n E.1.1 E.1.2.1 dX4_run_0 rfl (lv_at hl 0 rfl) ?_
  refine lv_iload_n E.1.1 E.1.2.1 dX4_run_1 rfl (lv_at hl 2 rfl) ?_
  refine lv_iconst (v := nI 0) E.1.1 E.1.2.1 dX4_run_2 rfl ?_
  refine lv_bipush (v := nI 60) E.1.1 E.1.2.1 dX4_run_3 rfl ?_
  refine CM.callSi (n := 3) E (c_X4_outside l D cI cJ cZ ad σ (nI h) (nI 0) (nI 60)) ml_X4_72 st_X4_outside ini_X4 co_X4_outside hd_X4_outside ⟨Nat.le_of_ble_eq_true rfl, Nat.le_of_ble_eq_true rfl⟩ ⟨Nat.le_refl _, Nat.le_refl _⟩ hP (hD _) hS hA2 rfl hl.1 (Nat.le_of_ble_eq_true rfl) dX4_run_5 rfl (fun H locs hP hS => ?_)
  refine tpi (y := bI false) (by rw [ou_isW (by decide), isW_t (by omega) (by decide)]; rfl) ?_
  refine lv_iconst (v := nI 0) E.1.1 E.1.2.1 dX4_run_8 rfl ?_
  refine CM.callVi (n := 2) E (c_X4_fails l D cI cJ cZ ad σ false false) ml_X4_76 im_X4_fails se_X4_fails ini_X4 co_X4_fails hd_X4_fails ⟨Nat.le_of_ble_eq_true rfl, Nat.le_of_ble_eq_true rfl⟩ ⟨Nat.le_refl _, Nat.le_refl _⟩ 0 rfl rfl hP (hD _) hS hA2 rfl hl.1 (Nat.le_of_ble_eq_true rfl) dX4_run_9 rfl (fun H locs hP hS => ?_)
  refine bv_if_eq (x := false || false) E dX4_run_12 (tgt := 17) (by decide) (fun h12 => ?_) (fun h12 => ?_)
  · refine lv_iconst (v := nI 0) E.1.1 E.1.2.1 dX4_run_17 rfl ?_
    refine lv_istore_n (lv' := [(3, .int (nI 0)), (0, .ref (ad 0)), (1, .int (bI sh)), (2, .int (nI h))]) E.1.1 E.1.2.1 dX4_run_18 rfl hl (by decide) rfl (fun ls hl => ?_)
    have LP19 : ∀ (n : Nat) (k : Nat) (H : Heap) (locs : List Loc) (ls : Array Slot), (k + n = 6) → va_P D vwCl (wR ad cI cJ cZ (smct (smth σ (thF false false)) (gen0 (gmct σ) k (fun _ => 0)))) H → va_S A s.heap H locs → lv_has ls 5 [(0, .ref (ad 0)), (1, .int (bI sh)), (2, .int (nI h)), (3, .int (nI k))] → W p l e { frames := 3, cells := 0, slots := 0, locals := 40 * 3 } s m [.ref (ad 0), .int (bI sh), .int (nI h)].toArray below meth c H locs 0 0 (MQ below (Qcm D (wR ad cI cJ cZ σ) s.heap.size (some (.int (nI ((mrF sh h σ).1)))) (wR ad cI cJ cZ ((mrF sh h σ).2))) [.ref (ad 0), .int (bI sh), .int (nI h)].toArray s 0 0 A) (F0 m 19 ls []) := by
      intro n
      induction n with
      | zero =>
        intro k H locs ls hk hP hS hl
        refine lv_iload_n E.1.1 E.1.2.1 dX4_run_19 rfl (lv_at hl 3 rfl) ?_
        refine lv_bipush (v := nI 6) E.1.1 E.1.2.1 dX4_run_20 rfl ?_
        refine nv_icmp_ge (by omega) (by omega) E dX4_run_22 (tgt := 38) (by decide) (fun h22 => ?_) (fun h22 => ?_)
        · refine lv_aload_n E.1.1 E.1.2.1 dX4_run_38 rfl (lv_at hl 0 rfl) ?_
          refine lv_iconst (v := nI 0) E.1.1 E.1.2.1 dX4_run_39 rfl ?_
          refine pt_X4_objects (v := 0) E fl_X4_122 hP hD hS dX4_run_40 (fun H locs hP hS => ?_)
          refine lv_aload_n E.1.1 E.1.2.1 dX4_run_43 rfl (lv_at hl 0 rfl) ?_
          refine lv_iconst (v := nI 0) E.1.1 E.1.2.1 dX4_run_44 rfl ?_
          refine pt_X4_frames (v := 0) E fl_X4_125 hP hD hS dX4_run_45 (fun H locs hP hS => ?_)
          refine lv_aload_n E.1.1 E.1.2.1 dX4_run_48 rfl (lv_at hl 0 rfl) ?_
          refine lv_iload_n E.1.1 E.1.2.1 dX4_run_49 rfl (lv_at hl 2 rfl) ?_
          refine pt_X4_room (v := h) E fl_X4_119 hP hD hS dX4_run_50 (fun H locs hP hS => ?_)
          obtain ⟨τ, hτ⟩ : ∃ z, z = rn0 h σ := ⟨_, rfl⟩
          have hm9 : (smrm (smfr (smob (smct (smth σ (thF false false)) (gen0 (gmct σ) k (fun _ => 0))) 0) 0) h) = τ := by rw [hτ, rn0, show k = 6 from (by omega)]
          rw [hm9] at hP
          have hP : va_P D vwCl (wR ad cI cJ cZ τ) H := hP
          have X0 := x_ex0 sh h hX
          rw [← hτ] at X0
          have R0 := RI_ex0 (b := sh) hR hh
          have g2 := rn0_get h σ
          rw [← hτ] at g2
          refine lv_aload_n E.1.1 E.1.2.1 dX4_run_53 rfl (lv_at hl 0 rfl) ?_
          refine lv_iconst (v := nI 0) E.1.1 E.1.2.1 dX4_run_54 rfl ?_
          refine lv_iconst (v := nI 0) E.1.1 E.1.2.1 dX4_run_55 rfl ?_
          refine CM.callVi (n := 2) E (c_X4_makes l D cI cJ cZ ad τ 0 false (VI_of X0 R0) (by rw [g2.2.1]; decide)) ml_X4_136 im_X4_makes se_X4_makes ini_X4 co_X4_makes hd_X4_makes ⟨Nat.le_of_ble_eq_true rfl, Nat.le_of_ble_eq_true rfl⟩ ⟨Nat.le_refl _, Nat.le_refl _⟩ 0 rfl rfl hP (hD _) hS hA2 rfl hl.1 (Nat.le_of_ble_eq_true rfl) dX4_run_56 rfl (fun H locs hP hS => ?_)
          refine ov_ge0 (o := maR false τ) (by intro j hj; unfold maR at hj; split at hj <;> cases hj; rw [g2.2.1]; decide) E dX4_run_59 (tgt := 64) (by decide) (fun k59 h59 => ?_) (fun h59 => ?_)
          · have hn1 : ¬ gmct τ 1 = gmrm τ := fun z => by unfold maR at h59; rw [if_pos ⟨rfl, z⟩] at h59; cases h59
            have hct : gmct τ 1 = 0 := by rw [g2.1]; rfl
            have hF : maF 0 false τ = mk1 (mk0 0 false τ) := by unfold maF; rw [if_neg (fun z => hn1 z.2)]
            have X1 := x_ni 0 X0
            rw [← hF] at X1
            have hmr : mrF sh h σ = mrB sh (maF 0 false τ) := by unfold mrF; rw [← hτ, h59]
            have h0 : ¬ h < 1 := fun z => hn1 (by rw [hct, g2.2.2.1]; omega)
            have I1 : PI (inc 1 (noF 0 (ex0 sh h c0))) := (RI_i1 (RI_no R0 (by decide) (by rw [(ex0_get sh h c0).1]; decide)) (by rw [(no_get 0 _).1, (no_get 0 _).2.1, (ex0_get sh h c0).1, (ex0_get sh h c0).2.2.2.2.2]; exact Nat.le_refl _)).1.1
            obtain ⟨τ1, hτ1⟩ : ∃ z, z = maF 0 false τ := ⟨_, rfl⟩
            have hQ1 : QI τ1 := by rw [hτ1]; exact QI_of X1.2.1 I1
            have htg := tg_eq X1.2.1 0 (q := 0) (by decide)
            rw [tg_i1, ← hτ1] at htg
            rw [← hτ1] at hP hmr X1
            have hP : va_P D vwCl (wR ad cI cJ cZ τ1) H := hP
            refine lv_aload_n E.1.1 E.1.2.1 dX4_run_64 rfl (lv_at hl 0 rfl) ?_
            refine lv_iconst (v := nI 0) E.1.1 E.1.2.1 dX4_run_65 rfl ?_
            refine lv_iconst (v := nI 0) E.1.1 E.1.2.1 dX4_run_66 rfl ?_
            refine CM.callVi (n := 2) E (c_X4_target l D cI cJ cZ ad τ1 0 0 (by decide) (by decide) hQ1) ml_X4_95 im_X4_target se_X4_target ini_X4 co_X4_target hd_X4_target ⟨Nat.le_of_ble_eq_true rfl, Nat.le_of_ble_eq_true rfl⟩ ⟨Nat.le_refl _, Nat.le_refl _⟩ 0 rfl rfl hP (hD _) hS hA2 rfl hl.1 (Nat.le_of_ble_eq_true rfl) dX4_run_67 rfl (fun H locs hP hS => ?_)
            refine lv_istore_n (lv' := [(3, .int (oI (tgM τ1 0 0))), (0, .ref (ad 0)), (1, .int (bI sh)), (2, .int (nI h))]) E.1.1 E.1.2.1 dX4_run_70 rfl hl (by decide) rfl (fun ls hl => ?_)
            refine lv_iload_n E.1.1 E.1.2.1 dX4_run_71 rfl (lv_at hl 0 rfl) ?_
            refine ov_ge0 (o := tgM τ1 0 0) (fun j hj => by have := tgM_lt hQ1 (by decide) (by decide) hj; omega) E dX4_run_72 (tgt := 78) (by decide) (fun k72 h72 => ?_) (fun h72 => ?_)
            · have hl : lv_has ls 5 [(3, .int (nI k72)), (0, .ref (ad 0)), (1, .int (bI sh)), (2, .int (nI h))] := by have q9 := hl; rw [h72] at q9; exact q9
              obtain ⟨hH9, h49, hf9⟩ := HC_bg (sh := sh) hX hR hh h0 (b := k72) (by rw [htg]; exact h72)
              rw [← hτ, ← hτ1] at hH9
              have hm0 := ms_0 hH9 h49 hf9
              have hH0 : HR sh (esF k72 (nI 0) false (nI 0) 0 (icM 3 τ1)) := ⟨_, hH9⟩
              have hv0 : mrF sh h σ = rnL 5602 sh (esF k72 (nI 0) false (nI 0) 0 (icM 3 τ1)) := by rw [hmr, mrB, h72]
              have V1 := VI_of X1 (RI_i1 (RI_no R0 (by decide) (by rw [(ex0_get sh h c0).1]; decide)) (by rw [(no_get 0 _).1, (no_get 0 _).2.1, (ex0_get sh h c0).1, (ex0_get sh h c0).2.2.2.2.2]; exact Nat.le_refl _))
              have e10 := X1.1.2.2.2.2.2.2.2.2.2.1
              rw [q_inc_fr, q_noF_fr, (ex0_get sh h c0).2.1] at e10
              refine lv_aload_n E.1.1 E.1.2.1 dX4_run_78 rfl (lv_at hl 1 rfl) ?_
              refine gt_X4_counts E fl_X4_66 hP dX4_run_79 ?_
              refine lv_iconst (v := nI 3) E.1.1 E.1.2.1 dX4_run_82 rfl ?_
              refine lv_dup2_11 E.1.1 E.1.2.1 dX4_run_83 rfl rfl ?_
              refine ld_MS_ct (i := 3) E hP (by omega) dX4_run_84 ?_
              refine lv_iconst (v := nI 1) E.1.1 E.1.2.1 dX4_run_85 rfl ?_
              refine nv_iadd E dX4_run_86 ?_
              refine as_MS_ct (i := 3) (v := (gmct τ1 3) + 1) E hP hD hS (by omega) dX4_run_87 (fun H locs hP hS => ?_)
              have hP : va_P D vwCl (wR ad cI cJ cZ (icM 3 τ1)) H := by unfold icM; exact hP
              have hP : va_P D vwCl (wR ad cI cJ cZ (icM 3 τ1)) H := hP
              refine lv_aload_n E.1.1 E.1.2.1 dX4_run_88 rfl (lv_at hl 1 rfl) ?_
              refine lv_iload_n E.1.1 E.1.2.1 dX4_run_89 rfl (lv_at hl 0 rfl) ?_
              refine lv_iconst (v := nI 0) E.1.1 E.1.2.1 dX4_run_90 rfl ?_
              refine lv_iconst (v := nI 0) E.1.1 E.1.2.1 dX4_run_91 rfl ?_
              refine lv_iconst (v := nI 0) E.1.1 E.1.2.1 dX4_run_92 rfl ?_
              refine lv_iconst (v := nI 0) E.1.1 E.1.2.1 dX4_run_93 rfl ?_
              refine CM.callVv (n := 5) E (c_X4_enters l D cI cJ cZ ad (icM 3 τ1) k72 (nI 0) false (nI 0) 0 (by rw [q_icM_fr, ← e10]; decide) (by rw [q_icM_ct, va_up_ne _ _ (by decide)]; exact V1.2.2.2.1.2.1)) ml_X4_132 im_X4_enters se_X4_enters ini_X4 co_X4_enters hd_X4_enters ⟨Nat.le_of_ble_eq_true rfl, Nat.le_of_ble_eq_true rfl⟩ ⟨Nat.le_refl _, Nat.le_refl _⟩ 0 rfl rfl hP (hD _) hS hA2 rfl hl.1 (Nat.le_of_ble_eq_true rfl) dX4_run_94 rfl (fun H locs hP hS => ?_)
              have LP97 : ∀ (n : Nat) (τ : MS) (H : Heap) (locs : List Loc) (ls : Array Slot), (HR sh τ) → (ms τ < n) → (mrF sh h σ = rnL n sh τ) → va_P D vwCl (wR ad cI cJ cZ τ) H → va_S A s.heap H locs → lv_has ls 5 [(0, .ref (ad 0)), (1, .int (bI sh))] → W p l e { frames := 3, cells := 0, slots := 0, locals := 40 * 3 } s m [.ref (ad 0), .int (bI sh), .int (nI h)].toArray below meth c H locs 0 0 (MQ below (Qcm D (wR ad cI cJ cZ σ) s.heap.size (some (.int (nI ((mrF sh h σ).1)))) (wR ad cI cJ cZ ((mrF sh h σ).2))) [.ref (ad 0), .int (bI sh), .int (nI h)].toArray s 0 0 A) (F0 m 97 ls []) := by
                intro n
                induction n with
                | zero =>
                  intro τ H locs ls hH hm hv hP hS hl
                  have hV := HR_VI hH
                  have hf12 := hV.2.2.2.2.1
                  have hb24 := hV.2.1.2.1 (gmfr τ - 1)
                  have hp19 := hV.2.1.2.2.1 (gmfr τ - 1)
                  have hL10 := hV.1.2.1 (gmmy τ 0)
                  have hL := hV.1.2.1 (gmbo τ (gmfr τ - 1))
                  have hc4 := hV.2.2.2.1.2.2.1
                  refine lv_aload_n E.1.1 E.1.2.1 dX4_run_97 rfl (lv_at hl 0 rfl) ?_
                  refine gt_X4_frames E fl_X4_125 hP dX4_run_98 ?_
                  refine nv_if_le (by omega) E dX4_run_101 (tgt := 185) (by decide) (fun h101 => ?_) (fun h101 => ?_)
                  · refine lv_iconst (v := nI 0) E.1.1 E.1.2.1 dX4_run_185 rfl ?_
                    exact CM.reti E hr hlk hA (by rw [hv]; first | (rw [rnL, if_pos (by omega)]; exact hP) | exact hP) hS (by rw [hv]; first | (rw [rnL, if_pos (by omega)]; done) | rfl) dX4_run_186
                  · exact absurd hm (Nat.not_lt_zero _)
                | succ n ih97 =>
                  intro τ H locs ls hH hm hv hP hS hl
                  have hV := HR_VI hH
                  have hf12 := hV.2.2.2.2.1
                  have hb24 := hV.2.1.2.1 (gmfr τ - 1)
                  have hp19 := hV.2.1.2.2.1 (gmfr τ - 1)
                  have hL10 := hV.1.2.1 (gmmy τ 0)
                  have hL := hV.1.2.1 (gmbo τ (gmfr τ - 1))
                  have hc4 := hV.2.2.2.1.2.2.1
                  refine lv_aload_n E.1.1 E.1.2.1 dX4_run_97 rfl (lv_at hl 0 rfl) ?_
                  refine gt_X4_frames E fl_X4_125 hP dX4_run_98 ?_
                  refine nv_if_le (by omega) E dX4_run_101 (tgt := 185) (by decide) (fun h101 => ?_) (fun h101 => ?_)
                  · refine lv_iconst (v := nI 0) E.1.1 E.1.2.1 dX4_run_185 rfl ?_
                    exact CM.reti E hr hlk hA (by rw [hv]; first | (rw [rnL, if_pos (by omega)]; exact hP) | exact hP) hS (by rw [hv]; first | (rw [rnL, if_pos (by omega)]; done) | rfl) dX4_run_186
                  · refine lv_aload_n E.1.1 E.1.2.1 dX4_run_104 rfl (lv_at hl 0 rfl) ?_
                    refine gt_X4_place E fl_X4_51 hP dX4_run_105 ?_
                    refine lv_aload_n E.1.1 E.1.2.1 dX4_run_108 rfl (lv_at hl 0 rfl) ?_
                    refine gt_X4_frames E fl_X4_125 hP dX4_run_109 ?_
                    refine lv_iconst (v := nI 1) E.1.1 E.1.2.1 dX4_run_112 rfl ?_
                    refine nv_isub (by omega) E dX4_run_113 ?_
                    refine ld_MS_pl (i := (gmfr τ) - 1) E hP (by omega) dX4_run_114 ?_
                    refine lv_aload_n E.1.1 E.1.2.1 dX4_run_115 rfl (lv_at hl 0 rfl) ?_
                    refine gt_X4_many E fl_X4_17 hP dX4_run_116 ?_
                    refine lv_aload_n E.1.1 E.1.2.1 dX4_run_119 rfl (lv_at hl 0 rfl) ?_
                    refine gt_X4_body E fl_X4_48 hP dX4_run_120 ?_
                    refine lv_aload_n E.1.1 E.1.2.1 dX4_run_123 rfl (lv_at hl 0 rfl) ?_
                    refine gt_X4_frames E fl_X4_125 hP dX4_run_124 ?_
                    refine lv_iconst (v := nI 1) E.1.1 E.1.2.1 dX4_run_127 rfl ?_
                    refine nv_isub (by omega) E dX4_run_128 ?_
                    refine ld_MS_bo (i := (gmfr τ) - 1) E hP (by omega) dX4_run_129 ?_
                    refine ld_MS_my (i := gmbo τ ((gmfr τ) - 1)) E hP (by omega) dX4_run_130 ?_
                    refine nv_icmp_lt (by omega) (by omega) E dX4_run_131 (tgt := 143) (by decide) (fun h131 => ?_) (fun h131 => ?_)
                    · refine lv_aload_n E.1.1 E.1.2.1 dX4_run_143 rfl (lv_at hl 0 rfl) ?_
                      refine gt_X4_counts E fl_X4_66 hP dX4_run_144 ?_
                      refine lv_iconst (v := nI 4) E.1.1 E.1.2.1 dX4_run_147 rfl ?_
                      refine ld_MS_ct (i := 4) E hP (by omega) dX4_run_148 ?_
                      refine lv_sipush (v := nI 400) E.1.1 E.1.2.1 dX4_run_149 rfl ?_
                      refine nv_icmp_ne (by omega) (by omega) E dX4_run_152 (tgt := 157) (by decide) (fun h152 => ?_) (fun h152 => ?_)
                      · have hdo := HR_do hH h101 (by omega) h152
                        refine lv_aload_n E.1.1 E.1.2.1 dX4_run_157 rfl (lv_at hl 0 rfl) ?_
                        refine gt_X4_counts E fl_X4_66 hP dX4_run_158 ?_
                        refine lv_iconst (v := nI 4) E.1.1 E.1.2.1 dX4_run_161 rfl ?_
                        refine lv_dup2_11 E.1.1 E.1.2.1 dX4_run_162 rfl rfl ?_
                        refine ld_MS_ct (i := 4) E hP (by omega) dX4_run_163 ?_
                        refine lv_iconst (v := nI 1) E.1.1 E.1.2.1 dX4_run_164 rfl ?_
                        refine nv_iadd E dX4_run_165 ?_
                        refine as_MS_ct (i := 4) (v := (gmct τ 4) + 1) E hP hD hS (by omega) dX4_run_166 (fun H locs hP hS => ?_)
                        have hP : va_P D vwCl (wR ad cI cJ cZ (icM 4 τ)) H := by unfold icM; exact hP
                        have hP : va_P D vwCl (wR ad cI cJ cZ (icM 4 τ)) H := hP
                        refine lv_aload_n E.1.1 E.1.2.1 dX4_run_167 rfl (lv_at hl 0 rfl) ?_
                        refine lv_iload_n E.1.1 E.1.2.1 dX4_run_168 rfl (lv_at hl 1 rfl) ?_
                        refine CM.callVi (n := 1) E (c_X4_does l D cI cJ cZ ad (icM 4 τ) sh hdo.1 hdo.2.1 hdo.2.2.1 (by rw [q_icM_fr]; exact h101) hdo.2.2.2.1 hdo.2.2.2.2.1) ml_X4_161 im_X4_does se_X4_does ini_X4 co_X4_does hd_X4_does ⟨Nat.le_of_ble_eq_true rfl, Nat.le_of_ble_eq_true rfl⟩ ⟨Nat.le_refl _, Nat.le_refl _⟩ 0 rfl rfl hP (hD _) hS hA2 rfl hl.1 (Nat.le_of_ble_eq_true rfl) dX4_run_169 rfl (fun H locs hP hS => ?_)
                        refine lv_istore (lv' := [(4, .int (nI (doR sh (icM 4 τ)))), (0, .ref (ad 0)), (1, .int (bI sh))]) E.1.1 E.1.2.1 dX4_run_172 hl (by decide) rfl (fun ls hl => ?_)
                        refine lv_iload E.1.1 E.1.2.1 dX4_run_174 (lv_at hl 0 rfl) ?_
                        refine nv_if_le (doR_lt sh (icM 4 τ)) E dX4_run_176 (tgt := 182) (by decide) (fun h176 => ?_) (fun h176 => ?_)
                        · refine lv_goto (tgt := 97) E.1.1 E.1.2.1 dX4_run_182 (by decide) ?_
                          exact ih97 (doF sh (icM 4 τ)) _ _ _ (hdo.2.2.2.2.2 h176).1 (Nat.lt_of_lt_of_le (hdo.2.2.2.2.2 h176).2 (Nat.le_of_lt_succ hm)) (by rw [hv, rnL, if_neg (by omega), if_neg (by omega), if_neg h152, if_pos h176]) hP hS (lv_sub hl [1, 2] rfl)
                        · refine lv_iload E.1.1 E.1.2.1 dX4_run_179 (lv_at hl 0 rfl) ?_
                          exact CM.reti E hr hlk hA (by rw [hv, rnL, if_neg (by omega), if_neg (by omega), if_neg h152, if_neg (by omega)]; exact hP) hS (by rw [hv, rnL, if_neg (by omega), if_neg (by omega), if_neg h152, if_neg (by omega)]) dX4_run_181
                      · refine lv_iconst (v := nI 5) E.1.1 E.1.2.1 dX4_run_155 rfl ?_
                        exact CM.reti E hr hlk hA (by rw [hv, rnL, if_neg (by omega), if_neg (by omega), if_pos h152]; exact hP) hS (by rw [hv, rnL, if_neg (by omega), if_neg (by omega), if_pos h152]) dX4_run_156
                    · refine lv_aload_n E.1.1 E.1.2.1 dX4_run_134 rfl (lv_at hl 0 rfl) ?_
                      refine lv_iconst (v := nI 0) E.1.1 E.1.2.1 dX4_run_135 rfl ?_
                      refine lv_iconst (v := nI 0) E.1.1 E.1.2.1 dX4_run_136 rfl ?_
                      refine CM.callVv (n := 2) E (c_X4_answers l D cI cJ cZ ad τ false (nI 0) h101 hf12 hV.2.1.2.2.2.1) ml_X4_157 im_X4_answers se_X4_answers ini_X4 co_X4_answers hd_X4_answers ⟨Nat.le_of_ble_eq_true rfl, Nat.le_of_ble_eq_true rfl⟩ ⟨Nat.le_refl _, Nat.le_refl _⟩ 0 rfl rfl hP (hD _) hS hA2 rfl hl.1 (Nat.le_of_ble_eq_true rfl) dX4_run_137 rfl (fun H locs hP hS => ?_)
                      refine lv_goto (tgt := 97) E.1.1 E.1.2.1 dX4_run_140 (by decide) ?_
                      exact ih97 (awF false (nI 0) τ) _ _ _ (HR_an hH h101).1 (Nat.lt_of_lt_of_le (HR_an hH h101).2 (Nat.le_of_lt_succ hm)) (by rw [hv, rnL, if_neg (by omega), if_pos h131]) hP hS (lv_sub hl [0, 1] rfl)
              exact LP97 5602 (esF k72 (nI 0) false (nI 0) 0 (icM 3 τ1)) _ _ _ hH0 hm0 hv0 hP hS (lv_sub hl [1, 2] rfl)
            · refine lv_bipush (v := nI 6) E.1.1 E.1.2.1 dX4_run_75 rfl ?_
              exact CM.reti E hr hlk hA (by rw [hmr, mrB, h72]; exact hP) hS (by rw [hmr, mrB, h72]) dX4_run_77
          · refine lv_iconst (v := nI 3) E.1.1 E.1.2.1 dX4_run_62 rfl ?_
            exact CM.reti E hr hlk hA (by unfold mrF; rw [← hτ, h59]; exact hP) hS (by unfold mrF; rw [← hτ, h59]) dX4_run_63
        · exact absurd h22 (by omega)
      | succ n ih19 =>
        intro k H locs ls hk hP hS hl
        refine lv_iload_n E.1.1 E.1.2.1 dX4_run_19 rfl (lv_at hl 3 rfl) ?_
        refine lv_bipush (v := nI 6) E.1.1 E.1.2.1 dX4_run_20 rfl ?_
        refine nv_icmp_ge (by omega) (by omega) E dX4_run_22 (tgt := 38) (by decide) (fun h22 => ?_) (fun h22 => ?_)
        · exact absurd h22 (by omega)
        · refine lv_aload_n E.1.1 E.1.2.1 dX4_run_25 rfl (lv_at hl 0 rfl) ?_
          refine gt_X4_counts E fl_X4_66 hP dX4_run_26 ?_
          refine lv_iload_n E.1.1 E.1.2.1 dX4_run_29 rfl (lv_at hl 3 rfl) ?_
          refine lv_iconst (v := nI 0) E.1.1 E.1.2.1 dX4_run_30 rfl ?_
          refine as_MS_ct (i := k) (v := 0) E hP hD hS (by omega) dX4_run_31 (fun H locs hP hS => ?_)
          have hP : va_P D vwCl (wR ad cI cJ cZ (smct (smth σ (thF false false)) (va_up (gen0 (gmct σ) k (fun _ => 0)) k 0))) H := by have q9 := hP; rw [tt_ct, hs_ct_ct] at q9; exact q9
          refine lv_iinc (v := nI (k + 1)) (lv' := [(3, .int (nI (k + 1))), (0, .ref (ad 0)), (1, .int (bI sh)), (2, .int (nI h))]) E.1.1 E.1.2.1 dX4_run_32 hl (k := 3) rfl (nI_add k 1) (by decide) rfl (fun ls hl => ?_)
          refine lv_goto (tgt := 19) E.1.1 E.1.2.1 dX4_run_35 (by decide) ?_
          exact ih19 (k + 1) _ _ _ (by omega) (by rw [← gen0_up (gmct σ) k (fun _ => 0) (v := 0) rfl]; exact hP) hS (lv_sub hl [1, 2, 3, 0] rfl)
    exact LP19 6 0 _ _ _ (by omega) (by rw [gen0_0]; exact hP) hS (lv_sub hl [1, 2, 3, 0] rfl)
  · exact absurd h12 (by decide)
