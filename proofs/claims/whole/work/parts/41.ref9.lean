set_option maxRecDepth 100000 in
set_option maxHeartbeats 400000 in
theorem c_X4_shape (l : Launch) (D : va_G) (cI cJ cZ : ClassId) (ad : Nat → Nat) (σ : MS)   (hK : Kr σ σ) : CM l D (t3 cI cJ cZ) yX4_shape cX4_shape 7 (some .int) 3 [.ref (ad 0)] (wR ad cI cJ cZ σ) (some (.int (nI ((shZ σ).1)))) (wR ad cI cJ cZ ((shZ σ).2)) := by
  refine CM.of (by decide) (Nat.le_of_ble_eq_true rfl) ?_
  intro p e s m below meth c A ls E hr hlk hP hD0 hA hA2 hS hl
  have hD := wR_D hD0
  have hl : lv_has ls 7 [(0, .ref (ad 0))] := hl
  refine lv_aload_n E.1.1 E.1.2.1 dX4_shape_0 rfl (lv_at hl 0 rfl) ?_
  refine lv_iconst (v := nI 0) E.1.1 E.1.2.1 dX4_shape_1 rfl ?_
  refine pt_X4_thrown (v := 0) E fl_X4_69 hP hD hS dX4_shape_2 (fun H locs hP hS => ?_)
  refine lv_iconst (v := nI 0) E.1.1 E.1.2.1 dX4_shape_5 rfl ?_
  refine lv_istore_n (lv' := [(1, .int (nI 0)), (0, .ref (ad 0))]) E.1.1 E.1.2.1 dX4_shape_6 rfl hl (by decide) rfl (fun ls hl => ?_)
  have LP7 : ∀ (n : Nat) (k : Nat) (H : Heap) (locs : List Loc) (ls : Array Slot), (k + n = 6) → va_P D vwCl (wR ad cI cJ cZ (smmd (smth σ 0) (gen0 (gmmd σ) k (fun j => decide (j = 0))))) H → va_S A s.heap H locs → lv_has ls 7 [(0, .ref (ad 0)), (1, .int (nI k))] → W p l e { frames := 3, cells := 0, slots := 0, locals := 40 * 3 } s m [.ref (ad 0)].toArray below meth c H locs 0 0 (MQ below (Qcm D (wR ad cI cJ cZ σ) s.heap.size (some (.int (nI ((shZ σ).1)))) (wR ad cI cJ cZ ((shZ σ).2))) [.ref (ad 0)].toArray s 0 0 A) (F0 m 7 ls []) := by
    intro n
    induction n with
    | zero =>
      intro k H locs ls hk hP hS hl
      refine lv_iload_n E.1.1 E.1.2.1 dX4_shape_7 rfl (lv_at hl 1 rfl) ?_
      refine lv_bipush (v := nI 6) E.1.1 E.1.2.1 dX4_shape_8 rfl ?_
      refine nv_icmp_ge (by omega) (by omega) E dX4_shape_10 (tgt := 34) (by decide) (fun h10 => ?_) (fun h10 => ?_)
      · obtain ⟨τ1, hτ1⟩ : ∃ z, z = sh1 σ := ⟨_, rfl⟩
        have hm9 : (smmd (smth σ 0) (gen0 (gmmd σ) k (fun j => decide (j = 0)))) = τ1 := by rw [hτ1, sh1, show k = 6 from (by omega)]
        rw [hm9] at hP
        have hP : va_P D vwCl (wR ad cI cJ cZ τ1) H := hP
        have hT1 : Kr σ τ1 := by rw [hτ1]; exact Kr_md (Kr_th hK)
        refine lv_iconst (v := nI 0) E.1.1 E.1.2.1 dX4_shape_34 rfl ?_
        refine lv_istore_n (lv' := [(1, .int (nI 0)), (0, .ref (ad 0))]) E.1.1 E.1.2.1 dX4_shape_35 rfl hl (by decide) rfl (fun ls hl => ?_)
        have LP36 : ∀ (n : Nat) (k : Nat) (H : Heap) (locs : List Loc) (ls : Array Slot), (k + n = 24) → va_P D vwCl (wR ad cI cJ cZ (smch (smrd τ1 (gen0 (gmrd τ1) k (fun _ => false))) (gen0 (gmch τ1) k (fun _ => false)))) H → va_S A s.heap H locs → lv_has ls 7 [(0, .ref (ad 0)), (1, .int (nI k))] → W p l e { frames := 3, cells := 0, slots := 0, locals := 40 * 3 } s m [.ref (ad 0)].toArray below meth c H locs 0 0 (MQ below (Qcm D (wR ad cI cJ cZ σ) s.heap.size (some (.int (nI ((shZ σ).1)))) (wR ad cI cJ cZ ((shZ σ).2))) [.ref (ad 0)].toArray s 0 0 A) (F0 m 36 ls []) := by
          intro n
          induction n with
          | zero =>
            intro k H locs ls hk hP hS hl
            refine lv_iload_n E.1.1 E.1.2.1 dX4_shape_36 rfl (lv_at hl 1 rfl) ?_
            refine lv_bipush (v := nI 24) E.1.1 E.1.2.1 dX4_shape_37 rfl ?_
            refine nv_icmp_ge (by omega) (by omega) E dX4_shape_39 (tgt := 62) (by decide) (fun h39 => ?_) (fun h39 => ?_)
            · obtain ⟨τ2, hτ2⟩ : ∃ z, z = sh2 τ1 := ⟨_, rfl⟩
              have hm8 : (smch (smrd τ1 (gen0 (gmrd τ1) k (fun _ => false))) (gen0 (gmch τ1) k (fun _ => false))) = τ2 := by rw [hτ2, sh2, show k = 24 from (by omega)]
              rw [hm8] at hP
              have hP : va_P D vwCl (wR ad cI cJ cZ τ2) H := hP
              have hT2 : Kr σ τ2 := by rw [hτ2]; exact Kr_ch (Kr_rd hT1)
              have LP83 : ∀ (τ3 : MS) (H : Heap) (locs : List Loc) (ls : Array Slot), (Kr σ τ3) → (sh3 (sh2 (sh1 σ)) = τ3) → va_P D vwCl (wR ad cI cJ cZ τ3) H → va_S A s.heap H locs → lv_has ls 7 [(0, .ref (ad 0))] → W p l e { frames := 3, cells := 0, slots := 0, locals := 40 * 3 } s m [.ref (ad 0)].toArray below meth c H locs 0 0 (MQ below (Qcm D (wR ad cI cJ cZ σ) s.heap.size (some (.int (nI ((shZ σ).1)))) (wR ad cI cJ cZ ((shZ σ).2))) [.ref (ad 0)].toArray s 0 0 A) (F0 m 83 ls []) := by
                intro τ3 H locs ls hT3 hv3 hP hS hl
                have LP135 : ∀ (τ : MS) (H : Heap) (locs : List Loc) (ls : Array Slot), (Kr σ τ) → (shW σ = τ) → va_P D vwCl (wR ad cI cJ cZ τ) H → va_S A s.heap H locs → lv_has ls 7 [(0, .ref (ad 0))] → W p l e { frames := 3, cells := 0, slots := 0, locals := 40 * 3 } s m [.ref (ad 0)].toArray below meth c H locs 0 0 (MQ below (Qcm D (wR ad cI cJ cZ σ) s.heap.size (some (.int (nI ((shZ σ).1)))) (wR ad cI cJ cZ ((shZ σ).2))) [.ref (ad 0)].toArray s 0 0 A) (F0 m 135 ls []) := by
                  intro τ H locs ls hT hW hP hS hl
                  refine lv_iconst (v := nI 0) E.1.1 E.1.2.1 dX4_shape_135 rfl ?_
                  refine lv_istore_n (lv' := [(2, .int (nI 0)), (0, .ref (ad 0))]) E.1.1 E.1.2.1 dX4_shape_136 rfl hl (by decide) rfl (fun ls hl => ?_)
                  refine lv_iconst (v := nI 0) E.1.1 E.1.2.1 dX4_shape_137 rfl ?_
                  refine lv_istore_n (lv' := [(3, .int (nI 0)), (2, .int (nI 0)), (0, .ref (ad 0))]) E.1.1 E.1.2.1 dX4_shape_138 rfl hl (by decide) rfl (fun ls hl => ?_)
                  have LP139 : ∀ (n : Nat) (k : Nat) (c9 : Nat) (τ : MS) (H : Heap) (locs : List Loc) (ls : Array Slot), (Kr σ τ) → (k + n = 24) → (c9 ≤ k) → (shZ σ = itN shO n k (c9, τ)) → va_P D vwCl (wR ad cI cJ cZ τ) H → va_S A s.heap H locs → lv_has ls 7 [(0, .ref (ad 0)), (2, .int (nI c9)), (3, .int (nI k))] → W p l e { frames := 3, cells := 0, slots := 0, locals := 40 * 3 } s m [.ref (ad 0)].toArray below meth c H locs 0 0 (MQ below (Qcm D (wR ad cI cJ cZ σ) s.heap.size (some (.int (nI ((shZ σ).1)))) (wR ad cI cJ cZ ((shZ σ).2))) [.ref (ad 0)].toArray s 0 0 A) (F0 m 139 ls []) := by
                    intro n
                    induction n with
                    | zero =>
                      intro k c9 τ H locs ls hT hk hc hv hP hS hl
                      refine lv_iload_n E.1.1 E.1.2.1 dX4_shape_139 rfl (lv_at hl 2 rfl) ?_
                      refine lv_bipush (v := nI 24) E.1.1 E.1.2.1 dX4_shape_140 rfl ?_
                      refine nv_icmp_ge (by omega) (by omega) E dX4_shape_142 (tgt := 275) (by decide) (fun h142 => ?_) (fun h142 => ?_)
                      · refine lv_iload_n E.1.1 E.1.2.1 dX4_shape_275 rfl (lv_at hl 1 rfl) ?_
                        exact CM.reti E hr hlk hA (by rw [hv]; exact hP) hS (by rw [hv]; rfl) dX4_shape_276
                      · exact absurd h142 (by omega)
                    | succ n ih139 =>
                      intro k c9 τ H locs ls hT hk hc hv hP hS hl
                      refine lv_iload_n E.1.1 E.1.2.1 dX4_shape_139 rfl (lv_at hl 2 rfl) ?_
                      refine lv_bipush (v := nI 24) E.1.1 E.1.2.1 dX4_shape_140 rfl ?_
                      refine nv_icmp_ge (by omega) (by omega) E dX4_shape_142 (tgt := 275) (by decide) (fun h142 => ?_) (fun h142 => ?_)
                      · exact absurd h142 (by omega)
                      · have LP165 : ∀ (n2 : Nat) (k2 : Nat) (c2 : Nat) (τ2 : MS) (H : Heap) (locs : List Loc) (ls : Array Slot), (Kr σ τ2) → (k2 + n2 = gmmy τ2 k) → (c2 = c9 + (if gmrd τ k = true then 1 else 0)) → (shB k τ = itN (shS k) n2 k2 τ2) → va_P D vwCl (wR ad cI cJ cZ τ2) H → va_S A s.heap H locs → lv_has ls 7 [(0, .ref (ad 0)), (2, .int (nI c2)), (3, .int (nI k)), (4, .int (nI k2))] → W p l e { frames := 3, cells := 0, slots := 0, locals := 40 * 3 } s m [.ref (ad 0)].toArray below meth c H locs 0 0 (MQ below (Qcm D (wR ad cI cJ cZ σ) s.heap.size (some (.int (nI ((shZ σ).1)))) (wR ad cI cJ cZ ((shZ σ).2))) [.ref (ad 0)].toArray s 0 0 A) (F0 m 165 ls []) := by
                          intro n2
                          induction n2 with
                          | zero =>
                            intro k2 c2 τ2 H locs ls hT2 hk2 hc2 hv2 hP hS hl
                            have hL := hT2.1.1.2.1 k
                            refine lv_iload E.1.1 E.1.2.1 dX4_shape_165 (lv_at hl 3 rfl) ?_
                            refine lv_aload_n E.1.1 E.1.2.1 dX4_shape_167 rfl (lv_at hl 0 rfl) ?_
                            refine gt_X4_many E fl_X4_17 hP dX4_shape_168 ?_
                            refine lv_iload_n E.1.1 E.1.2.1 dX4_shape_171 rfl (lv_at hl 2 rfl) ?_
                            refine ld_MS_my (i := k) E hP (by omega) dX4_shape_172 ?_
                            refine nv_icmp_ge (by omega) (by omega) E dX4_shape_173 (tgt := 269) (by decide) (fun h173 => ?_) (fun h173 => ?_)
                            · refine lv_iinc (v := nI (k + 1)) (lv' := [(3, .int (nI (k + 1))), (0, .ref (ad 0)), (2, .int (nI c2)), (4, .int (nI k2))]) E.1.1 E.1.2.1 dX4_shape_269 hl (k := 2) rfl (nI_add k 1) (by decide) rfl (fun ls hl => ?_)
                              refine lv_goto (tgt := 139) E.1.1 E.1.2.1 dX4_shape_272 (by decide) ?_
                              exact ih139 (k + 1) c2 τ2 _ _ _ hT2 (by omega) (by rw [hc2]; split <;> omega) (by rw [hv, itN, hc2, show shO k (c9, τ) = (c9 + (if gmrd τ k = true then 1 else 0), shB k τ) from rfl, hv2]; rfl) hP hS (lv_sub hl [1, 2, 0] rfl)
                            · exact absurd h173 (by omega)
                          | succ n2 ih165 =>
                            intro k2 c2 τ2 H locs ls hT2 hk2 hc2 hv2 hP hS hl
                            have hL := hT2.1.1.2.1 k
                            refine lv_iload E.1.1 E.1.2.1 dX4_shape_165 (lv_at hl 3 rfl) ?_
                            refine lv_aload_n E.1.1 E.1.2.1 dX4_shape_167 rfl (lv_at hl 0 rfl) ?_
                            refine gt_X4_many E fl_X4_17 hP dX4_shape_168 ?_
                            refine lv_iload_n E.1.1 E.1.2.1 dX4_shape_171 rfl (lv_at hl 2 rfl) ?_
                            refine ld_MS_my (i := k) E hP (by omega) dX4_shape_172 ?_
                            refine nv_icmp_ge (by omega) (by omega) E dX4_shape_173 (tgt := 269) (by decide) (fun h173 => ?_) (fun h173 => ?_)
                            · exact absurd h173 (by omega)
                            · refine lv_aload_n E.1.1 E.1.2.1 dX4_shape_176 rfl (lv_at hl 0 rfl) ?_
                              refine lv_iload_n E.1.1 E.1.2.1 dX4_shape_177 rfl (lv_at hl 2 rfl) ?_
                              refine lv_iload E.1.1 E.1.2.1 dX4_shape_178 (lv_at hl 3 rfl) ?_
                              refine lv_iconst (v := nI 0) E.1.1 E.1.2.1 dX4_shape_180 rfl ?_
                              refine CM.callVi (n := 3) E (c_X4_at l D cI cJ cZ ad τ2 k k2 0 (by omega)) ml_X4_99 im_X4_at se_X4_at ini_X4 co_X4_at hd_X4_at ⟨Nat.le_of_ble_eq_true rfl, Nat.le_of_ble_eq_true rfl⟩ ⟨Nat.le_refl _, Nat.le_refl _⟩ 0 rfl rfl hP (hD _) hS hA2 rfl hl.1 (Nat.le_of_ble_eq_true rfl) dX4_shape_181 rfl (fun H locs hP hS => ?_)
                              refine tpi (y := nI (kM τ2 (10 * k + k2))) (at0 hT2.1.2 k k2) ?_
                              refine lv_istore (lv' := [(5, .int (nI (kM τ2 (10 * k + k2)))), (0, .ref (ad 0)), (2, .int (nI c2)), (3, .int (nI k)), (4, .int (nI k2))]) E.1.1 E.1.2.1 dX4_shape_184 hl (by decide) rfl (fun ls hl => ?_)
                              refine lv_iload E.1.1 E.1.2.1 dX4_shape_186 (lv_at hl 0 rfl) ?_
                              refine lv_bipush (v := nI 7) E.1.1 E.1.2.1 dX4_shape_188 rfl ?_
                              refine nv_icmp_ne (by have := (hT2.1.2 (10 * k + k2)).1.2; omega) (by omega) E dX4_shape_190 (tgt := 208) (by decide) (fun h190 => ?_) (fun h190 => ?_)
                              · refine lv_iload E.1.1 E.1.2.1 dX4_shape_208 (lv_at hl 0 rfl) ?_
                                refine lv_iconst (v := nI 4) E.1.1 E.1.2.1 dX4_shape_210 rfl ?_
                                refine nv_icmp_ne (by have := (hT2.1.2 (10 * k + k2)).1.2; omega) (by omega) E dX4_shape_211 (tgt := 233) (by decide) (fun h211 => ?_) (fun h211 => ?_)
                                · refine lv_iconst (v := nI 0) E.1.1 E.1.2.1 dX4_shape_233 rfl ?_
                                  refine lv_istore (lv' := [(6, .int (nI 0)), (5, .int (nI (kM τ2 (10 * k + k2)))), (0, .ref (ad 0)), (2, .int (nI c2)), (3, .int (nI k)), (4, .int (nI k2))]) E.1.1 E.1.2.1 dX4_shape_234 hl (by decide) rfl (fun ls hl => ?_)
                                  refine lv_aload_n E.1.1 E.1.2.1 dX4_shape_236 rfl (lv_at hl 2 rfl) ?_
                                  refine gt_X4_sites E fl_X4_33 hP dX4_shape_237 ?_
                                  refine lv_bipush (v := nI 10) E.1.1 E.1.2.1 dX4_shape_240 rfl ?_
                                  refine lv_iload_n E.1.1 E.1.2.1 dX4_shape_242 rfl (lv_at hl 4 rfl) ?_
                                  refine nv_imul E dX4_shape_243 ?_
                                  refine lv_iload E.1.1 E.1.2.1 dX4_shape_244 (lv_at hl 5 rfl) ?_
                                  refine nv_iadd E dX4_shape_246 ?_
                                  refine lv_aload_n E.1.1 E.1.2.1 dX4_shape_247 rfl (lv_at hl 2 rfl) ?_
                                  refine gt_X4_reached E fl_X4_27 hP dX4_shape_248 ?_
                                  refine lv_iload_n E.1.1 E.1.2.1 dX4_shape_251 rfl (lv_at hl 4 rfl) ?_
                                  refine ld_MS_rd (i := k) E hP (by omega) dX4_shape_252 ?_
                                  refine bv_if_eq (x := gmrd τ2 k) E dX4_shape_253 (tgt := 261) (by decide) (fun h253 => ?_) (fun h253 => ?_)
                                  · refine lv_iconst (v := nI 0) E.1.1 E.1.2.1 dX4_shape_261 rfl ?_
                                    refine as_MS_si (i := (10 * k) + k2) (v := 0) E hP hD hS (by omega) dX4_shape_262 (fun H locs hP hS => ?_)
                                    refine lv_iinc (v := nI (k2 + 1)) (lv' := [(4, .int (nI (k2 + 1))), (6, .int (nI 0)), (5, .int (nI (kM τ2 (10 * k + k2)))), (0, .ref (ad 0)), (2, .int (nI c2)), (3, .int (nI k))]) E.1.1 E.1.2.1 dX4_shape_263 hl (k := 5) rfl (nI_add k2 1) (by decide) rfl (fun ls hl => ?_)
                                    refine lv_goto (tgt := 165) E.1.1 E.1.2.1 dX4_shape_266 (by decide) ?_
                                    exact ih165 (k2 + 1) c2 (smsi τ2 (va_up (gmsi τ2) ((10 * k) + k2) 0)) _ _ _ (Kr_si hT2) (by rw [hs_my_si]; omega) hc2 (by rw [hv2, itN, shS]; first | (exfalso; omega) | (rw [if_pos h190, shP, if_pos h253]; done) | (rw [if_pos h190, shP, if_neg (by rw [h253]; decide)]; done) | (rw [if_neg h190, if_pos h211, if_pos h221, shP, if_pos h253]; done) | (rw [if_neg h190, if_pos h211, if_pos h221, shP, if_neg (by rw [h253]; decide)]; done) | (rw [if_neg h190, if_pos h211, if_neg (show ¬ saB k k2 τ2 = true from (by rw [h221]; decide)), shP, if_pos h253]; done) | (rw [if_neg h190, if_pos h211, if_neg (show ¬ saB k k2 τ2 = true from (by rw [h221]; decide)), shP, if_neg (by rw [h253]; decide)]; done) | (rw [if_neg h190, if_neg h211, shP, if_pos h253]; done) | (rw [if_neg h190, if_neg h211, shP, if_neg (by rw [h253]; decide)]; done)) hP hS (lv_sub hl [3, 4, 5, 0] rfl)
                                  · refine lv_iload E.1.1 E.1.2.1 dX4_shape_256 (lv_at hl 0 rfl) ?_
                                    refine lv_goto (tgt := 262) E.1.1 E.1.2.1 dX4_shape_258 (by decide) ?_
                                    refine as_MS_si (i := (10 * k) + k2) (v := 0) E hP hD hS (by omega) dX4_shape_262 (fun H locs hP hS => ?_)
                                    refine lv_iinc (v := nI (k2 + 1)) (lv' := [(4, .int (nI (k2 + 1))), (6, .int (nI 0)), (5, .int (nI (kM τ2 (10 * k + k2)))), (0, .ref (ad 0)), (2, .int (nI c2)), (3, .int (nI k))]) E.1.1 E.1.2.1 dX4_shape_263 hl (k := 5) rfl (nI_add k2 1) (by decide) rfl (fun ls hl => ?_)
                                    refine lv_goto (tgt := 165) E.1.1 E.1.2.1 dX4_shape_266 (by decide) ?_
                                    exact ih165 (k2 + 1) c2 (smsi τ2 (va_up (gmsi τ2) ((10 * k) + k2) 0)) _ _ _ (Kr_si hT2) (by rw [hs_my_si]; omega) hc2 (by rw [hv2, itN, shS]; first | (exfalso; omega) | (rw [if_pos h190, shP, if_pos h253]; done) | (rw [if_pos h190, shP, if_neg (by rw [h253]; decide)]; done) | (rw [if_neg h190, if_pos h211, if_pos h221, shP, if_pos h253]; done) | (rw [if_neg h190, if_pos h211, if_pos h221, shP, if_neg (by rw [h253]; decide)]; done) | (rw [if_neg h190, if_pos h211, if_neg (show ¬ saB k k2 τ2 = true from (by rw [h221]; decide)), shP, if_pos h253]; done) | (rw [if_neg h190, if_pos h211, if_neg (show ¬ saB k k2 τ2 = true from (by rw [h221]; decide)), shP, if_neg (by rw [h253]; decide)]; done) | (rw [if_neg h190, if_neg h211, shP, if_pos h253]; done) | (rw [if_neg h190, if_neg h211, shP, if_neg (by rw [h253]; decide)]; done)) hP hS (lv_sub hl [3, 4, 5, 0] rfl)
                                · refine lv_aload_n E.1.1 E.1.2.1 dX4_shape_214 rfl (lv_at hl 1 rfl) ?_
                                  refine lv_iload_n E.1.1 E.1.2.1 dX4_shape_215 rfl (lv_at hl 3 rfl) ?_
                                  refine lv_iload E.1.1 E.1.2.1 dX4_shape_216 (lv_at hl 4 rfl) ?_
                                  refine CM.callVi (n := 2) E (c_X4_stays l D cI cJ cZ ad τ2 k k2 (by omega) (by omega) (Kr_rf hT2.1)) ml_X4_113 im_X4_stays se_X4_stays ini_X4 co_X4_stays hd_X4_stays ⟨Nat.le_of_ble_eq_true rfl, Nat.le_of_ble_eq_true rfl⟩ ⟨Nat.le_refl _, Nat.le_refl _⟩ 0 rfl rfl hP (hD _) hS hA2 rfl hl.1 (Nat.le_of_ble_eq_true rfl) dX4_shape_218 rfl (fun H locs hP hS => ?_)
                                  refine bv_if_eq (x := saB k k2 τ2) E dX4_shape_221 (tgt := 228) (by decide) (fun h221 => ?_) (fun h221 => ?_)
                                  · refine lv_bipush (v := nI 6) E.1.1 E.1.2.1 dX4_shape_228 rfl ?_
                                    refine lv_goto (tgt := 234) E.1.1 E.1.2.1 dX4_shape_230 (by decide) ?_
                                    refine lv_istore (lv' := [(6, .int (nI 6)), (5, .int (nI (kM τ2 (10 * k + k2)))), (0, .ref (ad 0)), (2, .int (nI c2)), (3, .int (nI k)), (4, .int (nI k2))]) E.1.1 E.1.2.1 dX4_shape_234 hl (by decide) rfl (fun ls hl => ?_)
                                    refine lv_aload_n E.1.1 E.1.2.1 dX4_shape_236 rfl (lv_at hl 2 rfl) ?_
                                    refine gt_X4_sites E fl_X4_33 hP dX4_shape_237 ?_
                                    refine lv_bipush (v := nI 10) E.1.1 E.1.2.1 dX4_shape_240 rfl ?_
                                    refine lv_iload_n E.1.1 E.1.2.1 dX4_shape_242 rfl (lv_at hl 4 rfl) ?_
                                    refine nv_imul E dX4_shape_243 ?_
                                    refine lv_iload E.1.1 E.1.2.1 dX4_shape_244 (lv_at hl 5 rfl) ?_
                                    refine nv_iadd E dX4_shape_246 ?_
                                    refine lv_aload_n E.1.1 E.1.2.1 dX4_shape_247 rfl (lv_at hl 2 rfl) ?_
                                    refine gt_X4_reached E fl_X4_27 hP dX4_shape_248 ?_
                                    refine lv_iload_n E.1.1 E.1.2.1 dX4_shape_251 rfl (lv_at hl 4 rfl) ?_
                                    refine ld_MS_rd (i := k) E hP (by omega) dX4_shape_252 ?_
                                    refine bv_if_eq (x := gmrd (saG k k2 τ2) k) E dX4_shape_253 (tgt := 261) (by decide) (fun h253 => ?_) (fun h253 => ?_)
                                    · refine lv_iconst (v := nI 0) E.1.1 E.1.2.1 dX4_shape_261 rfl ?_
                                      refine as_MS_si (i := (10 * k) + k2) (v := 0) E hP hD hS (by omega) dX4_shape_262 (fun H locs hP hS => ?_)
                                      refine lv_iinc (v := nI (k2 + 1)) (lv' := [(4, .int (nI (k2 + 1))), (6, .int (nI 6)), (5, .int (nI (kM τ2 (10 * k + k2)))), (0, .ref (ad 0)), (2, .int (nI c2)), (3, .int (nI k))]) E.1.1 E.1.2.1 dX4_shape_263 hl (k := 5) rfl (nI_add k2 1) (by decide) rfl (fun ls hl => ?_)
                                      refine lv_goto (tgt := 165) E.1.1 E.1.2.1 dX4_shape_266 (by decide) ?_
                                      exact ih165 (k2 + 1) c2 (smsi (saG k k2 τ2) (va_up (gmsi (saG k k2 τ2)) ((10 * k) + k2) 0)) _ _ _ (Kr_si (Kr_saG hT2)) (by rw [hs_my_si, (Kr_saG hT2).2.1, ← hT2.2.1]; omega) hc2 (by rw [hv2, itN, shS]; first | (exfalso; omega) | (rw [if_pos h190, shP, if_pos h253]; done) | (rw [if_pos h190, shP, if_neg (by rw [h253]; decide)]; done) | (rw [if_neg h190, if_pos h211, if_pos h221, shP, if_pos h253]; done) | (rw [if_neg h190, if_pos h211, if_pos h221, shP, if_neg (by rw [h253]; decide)]; done) | (rw [if_neg h190, if_pos h211, if_neg (show ¬ saB k k2 τ2 = true from (by rw [h221]; decide)), shP, if_pos h253]; done) | (rw [if_neg h190, if_pos h211, if_neg (show ¬ saB k k2 τ2 = true from (by rw [h221]; decide)), shP, if_neg (by rw [h253]; decide)]; done) | (rw [if_neg h190, if_neg h211, shP, if_pos h253]; done) | (rw [if_neg h190, if_neg h211, shP, if_neg (by rw [h253]; decide)]; done)) hP hS (lv_sub hl [3, 4, 5, 0] rfl)
                                    · refine lv_iload E.1.1 E.1.2.1 dX4_shape_256 (lv_at hl 0 rfl) ?_
                                      refine lv_goto (tgt := 262) E.1.1 E.1.2.1 dX4_shape_258 (by decide) ?_
                                      refine as_MS_si (i := (10 * k) + k2) (v := 6) E hP hD hS (by omega) dX4_shape_262 (fun H locs hP hS => ?_)
                                      refine lv_iinc (v := nI (k2 + 1)) (lv' := [(4, .int (nI (k2 + 1))), (6, .int (nI 6)), (5, .int (nI (kM τ2 (10 * k + k2)))), (0, .ref (ad 0)), (2, .int (nI c2)), (3, .int (nI k))]) E.1.1 E.1.2.1 dX4_shape_263 hl (k := 5) rfl (nI_add k2 1) (by decide) rfl (fun ls hl => ?_)
                                      refine lv_goto (tgt := 165) E.1.1 E.1.2.1 dX4_shape_266 (by decide) ?_
                                      exact ih165 (k2 + 1) c2 (smsi (saG k k2 τ2) (va_up (gmsi (saG k k2 τ2)) ((10 * k) + k2) 6)) _ _ _ (Kr_si (Kr_saG hT2)) (by rw [hs_my_si, (Kr_saG hT2).2.1, ← hT2.2.1]; omega) hc2 (by rw [hv2, itN, shS]; first | (exfalso; omega) | (rw [if_pos h190, shP, if_pos h253]; done) | (rw [if_pos h190, shP, if_neg (by rw [h253]; decide)]; done) | (rw [if_neg h190, if_pos h211, if_pos h221, shP, if_pos h253]; done) | (rw [if_neg h190, if_pos h211, if_pos h221, shP, if_neg (by rw [h253]; decide)]; done) | (rw [if_neg h190, if_pos h211, if_neg (show ¬ saB k k2 τ2 = true from (by rw [h221]; decide)), shP, if_pos h253]; done) | (rw [if_neg h190, if_pos h211, if_neg (show ¬ saB k k2 τ2 = true from (by rw [h221]; decide)), shP, if_neg (by rw [h253]; decide)]; done) | (rw [if_neg h190, if_neg h211, shP, if_pos h253]; done) | (rw [if_neg h190, if_neg h211, shP, if_neg (by rw [h253]; decide)]; done)) hP hS (lv_sub hl [3, 4, 5, 0] rfl)
                                  · refine lv_iconst (v := nI 5) E.1.1 E.1.2.1 dX4_shape_224 rfl ?_
                                    refine lv_goto (tgt := 234) E.1.1 E.1.2.1 dX4_shape_225 (by decide) ?_
                                    refine lv_istore (lv' := [(6, .int (nI 5)), (5, .int (nI (kM τ2 (10 * k + k2)))), (0, .ref (ad 0)), (2, .int (nI c2)), (3, .int (nI k)), (4, .int (nI k2))]) E.1.1 E.1.2.1 dX4_shape_234 hl (by decide) rfl (fun ls hl => ?_)
                                    refine lv_aload_n E.1.1 E.1.2.1 dX4_shape_236 rfl (lv_at hl 2 rfl) ?_
                                    refine gt_X4_sites E fl_X4_33 hP dX4_shape_237 ?_
                                    refine lv_bipush (v := nI 10) E.1.1 E.1.2.1 dX4_shape_240 rfl ?_
                                    refine lv_iload_n E.1.1 E.1.2.1 dX4_shape_242 rfl (lv_at hl 4 rfl) ?_
                                    refine nv_imul E dX4_shape_243 ?_
                                    refine lv_iload E.1.1 E.1.2.1 dX4_shape_244 (lv_at hl 5 rfl) ?_
                                    refine nv_iadd E dX4_shape_246 ?_
                                    refine lv_aload_n E.1.1 E.1.2.1 dX4_shape_247 rfl (lv_at hl 2 rfl) ?_
                                    refine gt_X4_reached E fl_X4_27 hP dX4_shape_248 ?_
                                    refine lv_iload_n E.1.1 E.1.2.1 dX4_shape_251 rfl (lv_at hl 4 rfl) ?_
                                    refine ld_MS_rd (i := k) E hP (by omega) dX4_shape_252 ?_
                                    refine bv_if_eq (x := gmrd (saG k k2 τ2) k) E dX4_shape_253 (tgt := 261) (by decide) (fun h253 => ?_) (fun h253 => ?_)
                                    · refine lv_iconst (v := nI 0) E.1.1 E.1.2.1 dX4_shape_261 rfl ?_
                                      refine as_MS_si (i := (10 * k) + k2) (v := 0) E hP hD hS (by omega) dX4_shape_262 (fun H locs hP hS => ?_)
                                      refine lv_iinc (v := nI (k2 + 1)) (lv' := [(4, .int (nI (k2 + 1))), (6, .int (nI 5)), (5, .int (nI (kM τ2 (10 * k + k2)))), (0, .ref (ad 0)), (2, .int (nI c2)), (3, .int (nI k))]) E.1.1 E.1.2.1 dX4_shape_263 hl (k := 5) rfl (nI_add k2 1) (by decide) rfl (fun ls hl => ?_)
                                      refine lv_goto (tgt := 165) E.1.1 E.1.2.1 dX4_shape_266 (by decide) ?_
                                      exact ih165 (k2 + 1) c2 (smsi (saG k k2 τ2) (va_up (gmsi (saG k k2 τ2)) ((10 * k) + k2) 0)) _ _ _ (Kr_si (Kr_saG hT2)) (by rw [hs_my_si, (Kr_saG hT2).2.1, ← hT2.2.1]; omega) hc2 (by rw [hv2, itN, shS]; first | (exfalso; omega) | (rw [if_pos h190, shP, if_pos h253]; done) | (rw [if_pos h190, shP, if_neg (by rw [h253]; decide)]; done) | (rw [if_neg h190, if_pos h211, if_pos h221, shP, if_pos h253]; done) | (rw [if_neg h190, if_pos h211, if_pos h221, shP, if_neg (by rw [h253]; decide)]; done) | (rw [if_neg h190, if_pos h211, if_neg (show ¬ saB k k2 τ2 = true from (by rw [h221]; decide)), shP, if_pos h253]; done) | (rw [if_neg h190, if_pos h211, if_neg (show ¬ saB k k2 τ2 = true from (by rw [h221]; decide)), shP, if_neg (by rw [h253]; decide)]; done) | (rw [if_neg h190, if_neg h211, shP, if_pos h253]; done) | (rw [if_neg h190, if_neg h211, shP, if_neg (by rw [h253]; decide)]; done)) hP hS (lv_sub hl [3, 4, 5, 0] rfl)
                                    · refine lv_iload E.1.1 E.1.2.1 dX4_shape_256 (lv_at hl 0 rfl) ?_
                                      refine lv_goto (tgt := 262) E.1.1 E.1.2.1 dX4_shape_258 (by decide) ?_
                                      refine as_MS_si (i := (10 * k) + k2) (v := 5) E hP hD hS (by omega) dX4_shape_262 (fun H locs hP hS => ?_)
                                      refine lv_iinc (v := nI (k2 + 1)) (lv' := [(4, .int (nI (k2 + 1))), (6, .int (nI 5)), (5, .int (nI (kM τ2 (10 * k + k2)))), (0, .ref (ad 0)), (2, .int (nI c2)), (3, .int (nI k))]) E.1.1 E.1.2.1 dX4_shape_263 hl (k := 5) rfl (nI_add k2 1) (by decide) rfl (fun ls hl => ?_)
                                      refine lv_goto (tgt := 165) E.1.1 E.1.2.1 dX4_shape_266 (by decide) ?_
                                      exact ih165 (k2 + 1) c2 (smsi (saG k k2 τ2) (va_up (gmsi (saG k k2 τ2)) ((10 * k) + k2) 5)) _ _ _ (Kr_si (Kr_saG hT2)) (by rw [hs_my_si, (Kr_saG hT2).2.1, ← hT2.2.1]; omega) hc2 (by rw [hv2, itN, shS]; first | (exfalso; omega) | (rw [if_pos h190, shP, if_pos h253]; done) | (rw [if_pos h190, shP, if_neg (by rw [h253]; decide)]; done) | (rw [if_neg h190, if_pos h211, if_pos h221, shP, if_pos h253]; done) | (rw [if_neg h190, if_pos h211, if_pos h221, shP, if_neg (by rw [h253]; decide)]; done) | (rw [if_neg h190, if_pos h211, if_neg (show ¬ saB k k2 τ2 = true from (by rw [h221]; decide)), shP, if_pos h253]; done) | (rw [if_neg h190, if_pos h211, if_neg (show ¬ saB k k2 τ2 = true from (by rw [h221]; decide)), shP, if_neg (by rw [h253]; decide)]; done) | (rw [if_neg h190, if_neg h211, shP, if_pos h253]; done) | (rw [if_neg h190, if_neg h211, shP, if_neg (by rw [h253]; decide)]; done)) hP hS (lv_sub hl [3, 4, 5, 0] rfl)
                              · refine lv_aload_n E.1.1 E.1.2.1 dX4_shape_193 rfl (lv_at hl 1 rfl) ?_
                                refine lv_aload_n E.1.1 E.1.2.1 dX4_shape_194 rfl (lv_at hl 1 rfl) ?_
                                refine lv_iload_n E.1.1 E.1.2.1 dX4_shape_195 rfl (lv_at hl 3 rfl) ?_
                                refine lv_iload E.1.1 E.1.2.1 dX4_shape_196 (lv_at hl 4 rfl) ?_
                                refine lv_iconst (v := nI 3) E.1.1 E.1.2.1 dX4_shape_198 rfl ?_
                                refine CM.callVi (n := 3) E (c_X4_at l D cI cJ cZ ad τ2 k k2 3 (by omega)) ml_X4_99 im_X4_at se_X4_at ini_X4 co_X4_at hd_X4_at ⟨Nat.le_of_ble_eq_true rfl, Nat.le_of_ble_eq_true rfl⟩ ⟨Nat.le_refl _, Nat.le_refl _⟩ 0 rfl rfl hP (hD _) hS hA2 rfl hl.1 (Nat.le_of_ble_eq_true rfl) dX4_shape_199 rfl (fun H locs hP hS => ?_)
                                refine tpi (y := nI (zM τ2 (10 * k + k2))) (by rw [at3]; exact (CI_z4 hT2.1.2 h190).1) ?_
                                refine CM.callVi (n := 1) E (c_X4_call l D cI cJ cZ ad τ2 (zM τ2 (10 * k + k2)) (CI_z4 hT2.1.2 h190).2 (Kr_rf hT2.1)) ml_X4_109 im_X4_call se_X4_call ini_X4 co_X4_call hd_X4_call ⟨Nat.le_of_ble_eq_true rfl, Nat.le_of_ble_eq_true rfl⟩ ⟨Nat.le_refl _, Nat.le_refl _⟩ 0 rfl rfl hP (hD _) hS hA2 rfl hl.1 (Nat.le_of_ble_eq_true rfl) dX4_shape_202 rfl (fun H locs hP hS => ?_)
                                refine lv_goto (tgt := 234) E.1.1 E.1.2.1 dX4_shape_205 (by decide) ?_
                                refine lv_istore (lv' := [(6, .int (nI (caF τ2 (zM τ2 (10 * k + k2))))), (5, .int (nI (kM τ2 (10 * k + k2)))), (0, .ref (ad 0)), (2, .int (nI c2)), (3, .int (nI k)), (4, .int (nI k2))]) E.1.1 E.1.2.1 dX4_shape_234 hl (by decide) rfl (fun ls hl => ?_)
                                refine lv_aload_n E.1.1 E.1.2.1 dX4_shape_236 rfl (lv_at hl 2 rfl) ?_
                                refine gt_X4_sites E fl_X4_33 hP dX4_shape_237 ?_
                                refine lv_bipush (v := nI 10) E.1.1 E.1.2.1 dX4_shape_240 rfl ?_
                                refine lv_iload_n E.1.1 E.1.2.1 dX4_shape_242 rfl (lv_at hl 4 rfl) ?_
                                refine nv_imul E dX4_shape_243 ?_
                                refine lv_iload E.1.1 E.1.2.1 dX4_shape_244 (lv_at hl 5 rfl) ?_
                                refine nv_iadd E dX4_shape_246 ?_
                                refine lv_aload_n E.1.1 E.1.2.1 dX4_shape_247 rfl (lv_at hl 2 rfl) ?_
                                refine gt_X4_reached E fl_X4_27 hP dX4_shape_248 ?_
                                refine lv_iload_n E.1.1 E.1.2.1 dX4_shape_251 rfl (lv_at hl 4 rfl) ?_
                                refine ld_MS_rd (i := k) E hP (by omega) dX4_shape_252 ?_
                                refine bv_if_eq (x := gmrd τ2 k) E dX4_shape_253 (tgt := 261) (by decide) (fun h253 => ?_) (fun h253 => ?_)
                                · refine lv_iconst (v := nI 0) E.1.1 E.1.2.1 dX4_shape_261 rfl ?_
                                  refine as_MS_si (i := (10 * k) + k2) (v := 0) E hP hD hS (by omega) dX4_shape_262 (fun H locs hP hS => ?_)
                                  refine lv_iinc (v := nI (k2 + 1)) (lv' := [(4, .int (nI (k2 + 1))), (6, .int (nI (caF τ2 (zM τ2 (10 * k + k2))))), (5, .int (nI (kM τ2 (10 * k + k2)))), (0, .ref (ad 0)), (2, .int (nI c2)), (3, .int (nI k))]) E.1.1 E.1.2.1 dX4_shape_263 hl (k := 5) rfl (nI_add k2 1) (by decide) rfl (fun ls hl => ?_)
                                  refine lv_goto (tgt := 165) E.1.1 E.1.2.1 dX4_shape_266 (by decide) ?_
                                  exact ih165 (k2 + 1) c2 (smsi τ2 (va_up (gmsi τ2) ((10 * k) + k2) 0)) _ _ _ (Kr_si hT2) (by rw [hs_my_si]; omega) hc2 (by rw [hv2, itN, shS]; first | (exfalso; omega) | (rw [if_pos h190, shP, if_pos h253]; done) | (rw [if_pos h190, shP, if_neg (by rw [h253]; decide)]; done) | (rw [if_neg h190, if_pos h211, if_pos h221, shP, if_pos h253]; done) | (rw [if_neg h190, if_pos h211, if_pos h221, shP, if_neg (by rw [h253]; decide)]; done) | (rw [if_neg h190, if_pos h211, if_neg (show ¬ saB k k2 τ2 = true from (by rw [h221]; decide)), shP, if_pos h253]; done) | (rw [if_neg h190, if_pos h211, if_neg (show ¬ saB k k2 τ2 = true from (by rw [h221]; decide)), shP, if_neg (by rw [h253]; decide)]; done) | (rw [if_neg h190, if_neg h211, shP, if_pos h253]; done) | (rw [if_neg h190, if_neg h211, shP, if_neg (by rw [h253]; decide)]; done)) hP hS (lv_sub hl [3, 4, 5, 0] rfl)
                                · refine lv_iload E.1.1 E.1.2.1 dX4_shape_256 (lv_at hl 0 rfl) ?_
                                  refine lv_goto (tgt := 262) E.1.1 E.1.2.1 dX4_shape_258 (by decide) ?_
                                  refine as_MS_si (i := (10 * k) + k2) (v := caF τ2 (zM τ2 (10 * k + k2))) E hP hD hS (by omega) dX4_shape_262 (fun H locs hP hS => ?_)
                                  refine lv_iinc (v := nI (k2 + 1)) (lv' := [(4, .int (nI (k2 + 1))), (6, .int (nI (caF τ2 (zM τ2 (10 * k + k2))))), (5, .int (nI (kM τ2 (10 * k + k2)))), (0, .ref (ad 0)), (2, .int (nI c2)), (3, .int (nI k))]) E.1.1 E.1.2.1 dX4_shape_263 hl (k := 5) rfl (nI_add k2 1) (by decide) rfl (fun ls hl => ?_)
                                  refine lv_goto (tgt := 165) E.1.1 E.1.2.1 dX4_shape_266 (by decide) ?_
                                  exact ih165 (k2 + 1) c2 (smsi τ2 (va_up (gmsi τ2) ((10 * k) + k2) (caF τ2 (zM τ2 (10 * k + k2))))) _ _ _ (Kr_si hT2) (by rw [hs_my_si]; omega) hc2 (by rw [hv2, itN, shS]; first | (exfalso; omega) | (rw [if_pos h190, shP, if_pos h253]; done) | (rw [if_pos h190, shP, if_neg (by rw [h253]; decide)]; done) | (rw [if_neg h190, if_pos h211, if_pos h221, shP, if_pos h253]; done) | (rw [if_neg h190, if_pos h211, if_pos h221, shP, if_neg (by rw [h253]; decide)]; done) | (rw [if_neg h190, if_pos h211, if_neg (show ¬ saB k k2 τ2 = true from (by rw [h221]; decide)), shP, if_pos h253]; done) | (rw [if_neg h190, if_pos h211, if_neg (show ¬ saB k k2 τ2 = true from (by rw [h221]; decide)), shP, if_neg (by rw [h253]; decide)]; done) | (rw [if_neg h190, if_neg h211, shP, if_pos h253]; done) | (rw [if_neg h190, if_neg h211, shP, if_neg (by rw [h253]; decide)]; done)) hP hS (lv_sub hl [3, 4, 5, 0] rfl)
                        refine lv_iload_n E.1.1 E.1.2.1 dX4_shape_145 rfl (lv_at hl 1 rfl) ?_
                        refine lv_aload_n E.1.1 E.1.2.1 dX4_shape_146 rfl (lv_at hl 0 rfl) ?_
                        refine gt_X4_reached E fl_X4_27 hP dX4_shape_147 ?_
                        refine lv_iload_n E.1.1 E.1.2.1 dX4_shape_150 rfl (lv_at hl 2 rfl) ?_
                        refine ld_MS_rd (i := k) E hP (by omega) dX4_shape_151 ?_
                        refine bv_if_eq (x := gmrd τ k) E dX4_shape_152 (tgt := 159) (by decide) (fun h152 => ?_) (fun h152 => ?_)
                        · refine lv_iconst (v := nI 0) E.1.1 E.1.2.1 dX4_shape_159 rfl ?_
                          refine nv_iadd E dX4_shape_160 ?_
                          refine lv_istore_n (lv' := [(2, .int (nI (c9 + 0))), (0, .ref (ad 0)), (3, .int (nI k))]) E.1.1 E.1.2.1 dX4_shape_161 rfl hl (by decide) rfl (fun ls hl => ?_)
                          refine lv_iconst (v := nI 0) E.1.1 E.1.2.1 dX4_shape_162 rfl ?_
                          refine lv_istore (lv' := [(4, .int (nI 0)), (2, .int (nI (c9 + 0))), (0, .ref (ad 0)), (3, .int (nI k))]) E.1.1 E.1.2.1 dX4_shape_163 hl (by decide) rfl (fun ls hl => ?_)
                          exact LP165 (gmmy τ k) 0 (c9 + 0) τ _ _ _ hT (by omega) (by first | (rw [if_pos h152]; done) | rw [if_neg (by rw [h152]; decide)]) rfl hP hS (lv_sub hl [2, 1, 3, 0] rfl)
                        · refine lv_iconst (v := nI 1) E.1.1 E.1.2.1 dX4_shape_155 rfl ?_
                          refine lv_goto (tgt := 160) E.1.1 E.1.2.1 dX4_shape_156 (by decide) ?_
                          refine nv_iadd E dX4_shape_160 ?_
                          refine lv_istore_n (lv' := [(2, .int (nI (c9 + 1))), (0, .ref (ad 0)), (3, .int (nI k))]) E.1.1 E.1.2.1 dX4_shape_161 rfl hl (by decide) rfl (fun ls hl => ?_)
                          refine lv_iconst (v := nI 0) E.1.1 E.1.2.1 dX4_shape_162 rfl ?_
                          refine lv_istore (lv' := [(4, .int (nI 0)), (2, .int (nI (c9 + 1))), (0, .ref (ad 0)), (3, .int (nI k))]) E.1.1 E.1.2.1 dX4_shape_163 hl (by decide) rfl (fun ls hl => ?_)
                          exact LP165 (gmmy τ k) 0 (c9 + 1) τ _ _ _ hT (by omega) (by first | (rw [if_pos h152]; done) | rw [if_neg (by rw [h152]; decide)]) rfl hP hS (lv_sub hl [2, 1, 3, 0] rfl)
                  exact LP139 24 0 0 τ _ _ _ hT (by omega) (by omega) (by unfold shZ; rw [hW]) hP hS (lv_sub hl [2, 1, 0] rfl)
                refine lv_iconst (v := nI 1) E.1.1 E.1.2.1 dX4_shape_83 rfl ?_
                refine lv_istore_n (lv' := [(1, .int (nI 1)), (0, .ref (ad 0))]) E.1.1 E.1.2.1 dX4_shape_84 rfl hl (by decide) rfl (fun ls hl => ?_)
                have LP85 : ∀ (n : Nat) (x : Bool) (τ : MS) (H : Heap) (locs : List Loc) (ls : Array Slot), (Kr σ τ) → (x = true → cnt τ < n) → (shW σ = whL n x τ) → va_P D vwCl (wR ad cI cJ cZ τ) H → va_S A s.heap H locs → lv_has ls 7 [(0, .ref (ad 0)), (1, .int (bI x))] → W p l e { frames := 3, cells := 0, slots := 0, locals := 40 * 3 } s m [.ref (ad 0)].toArray below meth c H locs 0 0 (MQ below (Qcm D (wR ad cI cJ cZ σ) s.heap.size (some (.int (nI ((shZ σ).1)))) (wR ad cI cJ cZ ((shZ σ).2))) [.ref (ad 0)].toArray s 0 0 A) (F0 m 85 ls []) := by
                  intro n
                  induction n with
                  | zero =>
                    intro x τ H locs ls hT hx hv hP hS hl
                    refine lv_iload_n E.1.1 E.1.2.1 dX4_shape_85 rfl (lv_at hl 1 rfl) ?_
                    refine bv_if_eq (x := x) E dX4_shape_86 (tgt := 135) (by decide) (fun h86 => ?_) (fun h86 => ?_)
                    · exact LP135 τ _ _ _ hT (by rw [hv, h86, whL_f]) hP hS (lv_sub hl [0] rfl)
                    · exact absurd (hx h86) (Nat.not_lt_zero _)
                  | succ n ih85 =>
                    intro x τ H locs ls hT hx hv hP hS hl
                    refine lv_iload_n E.1.1 E.1.2.1 dX4_shape_85 rfl (lv_at hl 1 rfl) ?_
                    refine bv_if_eq (x := x) E dX4_shape_86 (tgt := 135) (by decide) (fun h86 => ?_) (fun h86 => ?_)
                    · exact LP135 τ _ _ _ hT (by rw [hv, h86, whL_f]) hP hS (lv_sub hl [0] rfl)
                    · refine lv_iconst (v := nI 0) E.1.1 E.1.2.1 dX4_shape_89 rfl ?_
                      refine lv_istore_n (lv' := [(1, .int (nI 0)), (0, .ref (ad 0))]) E.1.1 E.1.2.1 dX4_shape_90 rfl hl (by decide) rfl (fun ls hl => ?_)
                      refine lv_iconst (v := nI 0) E.1.1 E.1.2.1 dX4_shape_91 rfl ?_
                      refine lv_istore_n (lv' := [(2, .int (nI 0)), (1, .int (nI 0)), (0, .ref (ad 0))]) E.1.1 E.1.2.1 dX4_shape_92 rfl hl (by decide) rfl (fun ls hl => ?_)
                      have LP93 : ∀ (n2 : Nat) (k : Nat) (y : Bool) (τ2 : MS) (H : Heap) (locs : List Loc) (ls : Array Slot), (Kr σ τ2) → (k + n2 = 24) → (psF τ = itN psS n2 k (y, τ2)) → va_P D vwCl (wR ad cI cJ cZ τ2) H → va_S A s.heap H locs → lv_has ls 7 [(0, .ref (ad 0)), (1, .int (bI y)), (2, .int (nI k))] → W p l e { frames := 3, cells := 0, slots := 0, locals := 40 * 3 } s m [.ref (ad 0)].toArray below meth c H locs 0 0 (MQ below (Qcm D (wR ad cI cJ cZ σ) s.heap.size (some (.int (nI ((shZ σ).1)))) (wR ad cI cJ cZ ((shZ σ).2))) [.ref (ad 0)].toArray s 0 0 A) (F0 m 93 ls []) := by
                        intro n2
                        induction n2 with
                        | zero =>
                          intro k y τ2 H locs ls hT2 hk2 hv2 hP hS hl
                          refine lv_iload_n E.1.1 E.1.2.1 dX4_shape_93 rfl (lv_at hl 2 rfl) ?_
                          refine lv_bipush (v := nI 24) E.1.1 E.1.2.1 dX4_shape_94 rfl ?_
                          refine nv_icmp_ge (by omega) (by omega) E dX4_shape_96 (tgt := 132) (by decide) (fun h96 => ?_) (fun h96 => ?_)
                          · refine lv_goto (tgt := 85) E.1.1 E.1.2.1 dX4_shape_132 (by decide) ?_
                            exact ih85 y τ2 _ _ _ hT2 (fun z9 => by have q9 := Dn_psF hT; rw [hv2] at q9; have r9 := q9.2.2 z9; have r8 := hx h86; exact Nat.lt_of_lt_of_le r9 (Nat.le_of_lt_succ r8)) (by rw [hv, h86, whL, if_pos rfl, hv2]; rfl) hP hS (lv_sub hl [0, 1] rfl)
                          · exact absurd h96 (by omega)
                        | succ n2 ih93 =>
                          intro k y τ2 H locs ls hT2 hk2 hv2 hP hS hl
                          refine lv_iload_n E.1.1 E.1.2.1 dX4_shape_93 rfl (lv_at hl 2 rfl) ?_
                          refine lv_bipush (v := nI 24) E.1.1 E.1.2.1 dX4_shape_94 rfl ?_
                          refine nv_icmp_ge (by omega) (by omega) E dX4_shape_96 (tgt := 132) (by decide) (fun h96 => ?_) (fun h96 => ?_)
                          · exact absurd h96 (by omega)
                          · refine lv_aload_n E.1.1 E.1.2.1 dX4_shape_99 rfl (lv_at hl 0 rfl) ?_
                            refine gt_X4_reached E fl_X4_27 hP dX4_shape_100 ?_
                            refine lv_iload_n E.1.1 E.1.2.1 dX4_shape_103 rfl (lv_at hl 2 rfl) ?_
                            refine ld_MS_rd (i := k) E hP (by omega) dX4_shape_104 ?_
                            refine bv_if_eq (x := gmrd τ2 k) E dX4_shape_105 (tgt := 126) (by decide) (fun h105 => ?_) (fun h105 => ?_)
                            · refine lv_iinc (v := nI (k + 1)) (lv' := [(2, .int (nI (k + 1))), (0, .ref (ad 0)), (1, .int (bI y))]) E.1.1 E.1.2.1 dX4_shape_126 hl (k := 2) rfl (nI_add k 1) (by decide) rfl (fun ls hl => ?_)
                              refine lv_goto (tgt := 93) E.1.1 E.1.2.1 dX4_shape_129 (by decide) ?_
                              exact ih93 (k + 1) y τ2 _ _ _ (hT2) (by omega) (by rw [hv2, itN]; first | (simp [psS, h105]; done) | (simp [psS, h105, h113]; done) | (simp [psS, h105, h113, h117]; done)) hP hS (lv_sub hl [1, 2, 0] rfl)
                            · refine lv_aload_n E.1.1 E.1.2.1 dX4_shape_108 rfl (lv_at hl 0 rfl) ?_
                              refine lv_iload_n E.1.1 E.1.2.1 dX4_shape_109 rfl (lv_at hl 2 rfl) ?_
                              refine CM.callVi (n := 1) E (c_X4_grows l D cI cJ cZ ad τ2 k (by omega) (Kr_rf hT2.1)) ml_X4_106 im_X4_grows se_X4_grows ini_X4 co_X4_grows hd_X4_grows ⟨Nat.le_of_ble_eq_true rfl, Nat.le_of_ble_eq_true rfl⟩ ⟨Nat.le_refl _, Nat.le_refl _⟩ 0 rfl rfl hP (hD _) hS hA2 rfl hl.1 (Nat.le_of_ble_eq_true rfl) dX4_shape_110 rfl (fun H locs hP hS => ?_)
                              refine bv_if_ne (x := (grF k τ2).1) E dX4_shape_113 (tgt := 120) (by decide) (fun h113 => ?_) (fun h113 => ?_)
                              · refine lv_iconst (v := nI 1) E.1.1 E.1.2.1 dX4_shape_120 rfl ?_
                                refine lv_goto (tgt := 125) E.1.1 E.1.2.1 dX4_shape_121 (by decide) ?_
                                refine lv_istore_n (lv' := [(1, .int (nI 1)), (0, .ref (ad 0)), (2, .int (nI k))]) E.1.1 E.1.2.1 dX4_shape_125 rfl hl (by decide) rfl (fun ls hl => ?_)
                                refine lv_iinc (v := nI (k + 1)) (lv' := [(2, .int (nI (k + 1))), (1, .int (nI 1)), (0, .ref (ad 0))]) E.1.1 E.1.2.1 dX4_shape_126 hl (k := 2) rfl (nI_add k 1) (by decide) rfl (fun ls hl => ?_)
                                refine lv_goto (tgt := 93) E.1.1 E.1.2.1 dX4_shape_129 (by decide) ?_
                                exact ih93 (k + 1) true ((grF k τ2).2) _ _ _ (Kr_grF hT2) (by omega) (by rw [hv2, itN]; first | (simp [psS, h105]; done) | (simp [psS, h105, h113]; done) | (simp [psS, h105, h113, h117]; done)) hP hS (lv_sub hl [2, 1, 0] rfl)
                              · refine lv_iload_n E.1.1 E.1.2.1 dX4_shape_116 rfl (lv_at hl 1 rfl) ?_
                                refine bv_if_eq (x := y) E dX4_shape_117 (tgt := 124) (by decide) (fun h117 => ?_) (fun h117 => ?_)
                                · refine lv_iconst (v := nI 0) E.1.1 E.1.2.1 dX4_shape_124 rfl ?_
                                  refine lv_istore_n (lv' := [(1, .int (nI 0)), (0, .ref (ad 0)), (2, .int (nI k))]) E.1.1 E.1.2.1 dX4_shape_125 rfl hl (by decide) rfl (fun ls hl => ?_)
                                  refine lv_iinc (v := nI (k + 1)) (lv' := [(2, .int (nI (k + 1))), (1, .int (nI 0)), (0, .ref (ad 0))]) E.1.1 E.1.2.1 dX4_shape_126 hl (k := 2) rfl (nI_add k 1) (by decide) rfl (fun ls hl => ?_)
                                  refine lv_goto (tgt := 93) E.1.1 E.1.2.1 dX4_shape_129 (by decide) ?_
                                  exact ih93 (k + 1) false ((grF k τ2).2) _ _ _ (Kr_grF hT2) (by omega) (by rw [hv2, itN]; first | (simp [psS, h105]; done) | (simp [psS, h105, h113]; done) | (simp [psS, h105, h113, h117]; done)) hP hS (lv_sub hl [2, 1, 0] rfl)
                                · refine lv_iconst (v := nI 1) E.1.1 E.1.2.1 dX4_shape_120 rfl ?_
                                  refine lv_goto (tgt := 125) E.1.1 E.1.2.1 dX4_shape_121 (by decide) ?_
                                  refine lv_istore_n (lv' := [(1, .int (nI 1)), (0, .ref (ad 0)), (2, .int (nI k))]) E.1.1 E.1.2.1 dX4_shape_125 rfl hl (by decide) rfl (fun ls hl => ?_)
                                  refine lv_iinc (v := nI (k + 1)) (lv' := [(2, .int (nI (k + 1))), (1, .int (nI 1)), (0, .ref (ad 0))]) E.1.1 E.1.2.1 dX4_shape_126 hl (k := 2) rfl (nI_add k 1) (by decide) rfl (fun ls hl => ?_)
                                  refine lv_goto (tgt := 93) E.1.1 E.1.2.1 dX4_shape_129 (by decide) ?_
                                  exact ih93 (k + 1) true ((grF k τ2).2) _ _ _ (Kr_grF hT2) (by omega) (by rw [hv2, itN]; first | (simp [psS, h105]; done) | (simp [psS, h105, h113]; done) | (simp [psS, h105, h113, h117]; done)) hP hS (lv_sub hl [2, 1, 0] rfl)
                      exact LP93 24 0 false τ _ _ _ hT (by omega) rfl hP hS (lv_sub hl [2, 1, 0] rfl)
                exact LP85 31 true τ3 _ _ _ hT3 (fun _ => Nat.lt_succ_of_le (cnt_le τ3)) (by unfold shW; rw [hv3]) hP hS (lv_sub hl [1, 0] rfl)
              refine lv_aload_n E.1.1 E.1.2.1 dX4_shape_62 rfl (lv_at hl 0 rfl) ?_
              refine lv_iconst (v := nI 0) E.1.1 E.1.2.1 dX4_shape_63 rfl ?_
              refine lv_iconst (v := nI 0) E.1.1 E.1.2.1 dX4_shape_64 rfl ?_
              refine CM.callVi (n := 2) E (c_X4_target l D cI cJ cZ ad τ2 0 0 (by decide) (by decide) hT2.1.1) ml_X4_95 im_X4_target se_X4_target ini_X4 co_X4_target hd_X4_target ⟨Nat.le_of_ble_eq_true rfl, Nat.le_of_ble_eq_true rfl⟩ ⟨Nat.le_refl _, Nat.le_refl _⟩ 0 rfl rfl hP (hD _) hS hA2 rfl hl.1 (Nat.le_of_ble_eq_true rfl) dX4_shape_65 rfl (fun H locs hP hS => ?_)
              refine ov_lt0 (o := tgM τ2 0 0) (fun j hj => by have := tgM_lt hT2.1.1 (by decide) (by decide) hj; omega) E dX4_shape_68 (tgt := 83) (by decide) (fun h68 => ?_) (fun k68 h68 => ?_)
              · exact LP83 τ2 _ _ _ (hT2) (by rw [← hτ1, ← hτ2]; unfold sh3; rw [h68]) hP hS (lv_sub hl [0] rfl)
              · have hk68 := tgM_lt hT2.1.1 (by decide) (by decide) h68
                refine lv_aload_n E.1.1 E.1.2.1 dX4_shape_71 rfl (lv_at hl 0 rfl) ?_
                refine gt_X4_reached E fl_X4_27 hP dX4_shape_72 ?_
                refine lv_aload_n E.1.1 E.1.2.1 dX4_shape_75 rfl (lv_at hl 0 rfl) ?_
                refine lv_iconst (v := nI 0) E.1.1 E.1.2.1 dX4_shape_76 rfl ?_
                refine lv_iconst (v := nI 0) E.1.1 E.1.2.1 dX4_shape_77 rfl ?_
                refine CM.callVi (n := 2) E (c_X4_target l D cI cJ cZ ad τ2 0 0 (by decide) (by decide) hT2.1.1) ml_X4_95 im_X4_target se_X4_target ini_X4 co_X4_target hd_X4_target ⟨Nat.le_of_ble_eq_true rfl, Nat.le_of_ble_eq_true rfl⟩ ⟨Nat.le_refl _, Nat.le_refl _⟩ 0 rfl rfl hP (hD _) hS hA2 rfl hl.1 (Nat.le_of_ble_eq_true rfl) dX4_shape_78 rfl (fun H locs hP hS => ?_)
                refine tpi (y := nI k68) (by rw [h68]; rfl) ?_
                refine lv_iconst (v := nI 1) E.1.1 E.1.2.1 dX4_shape_81 rfl ?_
                refine as_MS_rd (i := k68) (v := true) E hP hD hS (by omega) dX4_shape_82 (fun H locs hP hS => ?_)
                exact LP83 (smrd τ2 (va_up (gmrd τ2) k68 true)) _ _ _ (Kr_rd hT2) (by rw [← hτ1, ← hτ2]; unfold sh3; rw [h68]) hP hS (lv_sub hl [0] rfl)
            · exact absurd h39 (by omega)
          | succ n ih36 =>
            intro k H locs ls hk hP hS hl
            refine lv_iload_n E.1.1 E.1.2.1 dX4_shape_36 rfl (lv_at hl 1 rfl) ?_
            refine lv_bipush (v := nI 24) E.1.1 E.1.2.1 dX4_shape_37 rfl ?_
            refine nv_icmp_ge (by omega) (by omega) E dX4_shape_39 (tgt := 62) (by decide) (fun h39 => ?_) (fun h39 => ?_)
            · exact absurd h39 (by omega)
            · refine lv_aload_n E.1.1 E.1.2.1 dX4_shape_42 rfl (lv_at hl 0 rfl) ?_
              refine gt_X4_reached E fl_X4_27 hP dX4_shape_43 ?_
              refine lv_iload_n E.1.1 E.1.2.1 dX4_shape_46 rfl (lv_at hl 1 rfl) ?_
              refine lv_iconst (v := nI 0) E.1.1 E.1.2.1 dX4_shape_47 rfl ?_
              refine as_MS_rd (i := k) (v := false) E hP hD hS (by omega) dX4_shape_48 (fun H locs hP hS => ?_)
              have hP : va_P D vwCl (wR ad cI cJ cZ (smrd (smch (smrd τ1 (gen0 (gmrd τ1) k (fun _ => false))) (gen0 (gmch τ1) k (fun _ => false))) (va_up (gen0 (gmrd τ1) k (fun _ => false)) k false))) H := by have q9 := hP; rw [hs_rd_ch, hs_rd_rd] at q9; exact q9
              refine lv_aload_n E.1.1 E.1.2.1 dX4_shape_49 rfl (lv_at hl 0 rfl) ?_
              refine gt_X4_changed E fl_X4_30 hP dX4_shape_50 ?_
              refine lv_iload_n E.1.1 E.1.2.1 dX4_shape_53 rfl (lv_at hl 1 rfl) ?_
              refine lv_iconst (v := nI 0) E.1.1 E.1.2.1 dX4_shape_54 rfl ?_
              refine as_MS_ch (i := k) (v := false) E hP hD hS (by omega) dX4_shape_55 (fun H locs hP hS => ?_)
              have hP : va_P D vwCl (wR ad cI cJ cZ (smch (smrd (smch (smrd τ1 (gen0 (gmrd τ1) k (fun _ => false))) (gen0 (gmch τ1) k (fun _ => false))) (va_up (gen0 (gmrd τ1) k (fun _ => false)) k false)) (va_up (gen0 (gmch τ1) k (fun _ => false)) k false))) H := by have q9 := hP; rw [hs_ch_rd, hs_ch_ch] at q9; exact q9
              refine lv_iinc (v := nI (k + 1)) (lv' := [(1, .int (nI (k + 1))), (0, .ref (ad 0))]) E.1.1 E.1.2.1 dX4_shape_56 hl (k := 1) rfl (nI_add k 1) (by decide) rfl (fun ls hl => ?_)
              refine lv_goto (tgt := 36) E.1.1 E.1.2.1 dX4_shape_59 (by decide) ?_
              exact ih36 (k + 1) _ _ _ (by omega) (by rw [← gen0_up (gmrd τ1) k (fun _ => false) rfl, ← gen0_up (gmch τ1) k (fun _ => false) rfl]; have q9 := hP; rw [sw_rd_ch, tt_rd, tt_ch] at q9; exact q9) hS (lv_sub hl [1, 0] rfl)
        exact LP36 24 0 _ _ _ (by omega) (by rw [gen0_0, gen0_0]; exact hP) hS (lv_sub hl [1, 0] rfl)
      · exact absurd h10 (by omega)
    | succ n ih7 =>
      intro k H locs ls hk hP hS hl
      refine lv_iload_n E.1.1 E.1.2.1 dX4_shape_7 rfl (lv_at hl 1 rfl) ?_
      refine lv_bipush (v := nI 6) E.1.1 E.1.2.1 dX4_shape_8 rfl ?_
      refine nv_icmp_ge (by omega) (by omega) E dX4_shape_10 (tgt := 34) (by decide) (fun h10 => ?_) (fun h10 => ?_)
      · exact absurd h10 (by omega)
      · refine lv_aload_n E.1.1 E.1.2.1 dX4_shape_13 rfl (lv_at hl 0 rfl) ?_
        refine gt_X4_made E fl_X4_23 hP dX4_shape_14 ?_
        refine lv_iload_n E.1.1 E.1.2.1 dX4_shape_17 rfl (lv_at hl 1 rfl) ?_
        refine lv_iload_n E.1.1 E.1.2.1 dX4_shape_18 rfl (lv_at hl 1 rfl) ?_
        refine nv_if_ne (by omega) E dX4_shape_19 (tgt := 26) (by decide) (fun h19 => ?_) (fun h19 => ?_)
        · refine lv_iconst (v := nI 0) E.1.1 E.1.2.1 dX4_shape_26 rfl ?_
          refine as_MS_md (i := k) (v := false) E hP hD hS (by omega) dX4_shape_27 (fun H locs hP hS => ?_)
          have hP : va_P D vwCl (wR ad cI cJ cZ (smmd (smth σ 0) (va_up (gen0 (gmmd σ) k (fun j => decide (j = 0))) k false))) H := by have q9 := hP; rw [tt_md, hs_md_md] at q9; exact q9
          refine lv_iinc (v := nI (k + 1)) (lv' := [(1, .int (nI (k + 1))), (0, .ref (ad 0))]) E.1.1 E.1.2.1 dX4_shape_28 hl (k := 1) rfl (nI_add k 1) (by decide) rfl (fun ls hl => ?_)
          refine lv_goto (tgt := 7) E.1.1 E.1.2.1 dX4_shape_31 (by decide) ?_
          exact ih7 (k + 1) _ _ _ (by omega) (by rw [← gen0_up (gmmd σ) k (fun j => decide (j = 0)) (v := false) (by first | (simp [h19]; done) | (simp; omega))]; exact hP) hS (lv_sub hl [1, 0] rfl)
        · refine lv_iconst (v := nI 1) E.1.1 E.1.2.1 dX4_shape_22 rfl ?_
          refine lv_goto (tgt := 27) E.1.1 E.1.2.1 dX4_shape_23 (by decide) ?_
          refine as_MS_md (i := k) (v := true) E hP hD hS (by omega) dX4_shape_27 (fun H locs hP hS => ?_)
          have hP : va_P D vwCl (wR ad cI cJ cZ (smmd (smth σ 0) (va_up (gen0 (gmmd σ) k (fun j => decide (j = 0))) k true))) H := by have q9 := hP; rw [tt_md, hs_md_md] at q9; exact q9
          refine lv_iinc (v := nI (k + 1)) (lv' := [(1, .int (nI (k + 1))), (0, .ref (ad 0))]) E.1.1 E.1.2.1 dX4_shape_28 hl (k := 1) rfl (nI_add k 1) (by decide) rfl (fun ls hl => ?_)
          refine lv_goto (tgt := 7) E.1.1 E.1.2.1 dX4_shape_31 (by decide) ?_
          exact ih7 (k + 1) _ _ _ (by omega) (by rw [← gen0_up (gmmd σ) k (fun j => decide (j = 0)) (v := true) (by first | (simp [h19]; done) | (simp; omega))]; exact hP) hS (lv_sub hl [1, 0] rfl)
  exact LP7 6 0 _ _ _ (by omega) (by rw [gen0_0]; exact hP) hS (lv_sub hl [1, 0] rfl)
