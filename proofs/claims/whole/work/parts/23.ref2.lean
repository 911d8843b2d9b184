set_option maxRecDepth 100000 in
set_option maxHeartbeats 400000 in
theorem c_X4_isAnother (l : Launch) (D : va_G) (cI cJ cZ : ClassId) (ad : Nat → Nat) (σ : MS) (t : Nat) (q : Nat)  (ht : t < 6) (hq : q < 6) (hQ : QI σ) : CM l D (t3 cI cJ cZ) yX4_isAnother cX4_isAnother 4 (some .boolean) 0 [.ref (ad 0), .int (nI t), .int (nI q)] (wR ad cI cJ cZ σ) (some (.int (bI (misF (gmpa σ) (gmty σ) q 6 (some t))))) (wR ad cI cJ cZ σ) := by
  refine CM.of (by decide) (Nat.le_of_ble_eq_true rfl) ?_
  intro p e s m below meth c A ls E hr hlk hP hD0 hA hA2 hS hl
  have hD := wR_D hD0
  have hl : lv_has ls 4 [(0, .ref (ad 0)), (1, .int (nI t)), (2, .int (nI q))] := hl
  refine lv_iload_n E.1.1 E.1.2.1 dX4_isAnother_0 rfl (lv_at hl 1 rfl) ?_
  refine lv_istore_n (lv' := [(3, .int (nI t)), (0, .ref (ad 0)), (1, .int (nI t)), (2, .int (nI q))]) E.1.1 E.1.2.1 dX4_isAnother_1 rfl hl (by decide) rfl (fun ls hl => ?_)
  have LP2 : ∀ (f : Nat) (o : Option Nat) (H : Heap) (locs : List Loc) (ls : Array Slot), (f ≤ 6) → (∀ j, o = some j → j < f) → (misF (gmpa σ) (gmty σ) q 6 (some t) = misF (gmpa σ) (gmty σ) q f o) → va_P D vwCl (wR ad cI cJ cZ σ) H → va_S A s.heap H locs → lv_has ls 4 [(0, .ref (ad 0)), (1, .int (nI t)), (2, .int (nI q)), (3, .int (oI o))] → W p l e { frames := 0, cells := 0, slots := 0, locals := 40 * 0 } s m [.ref (ad 0), .int (nI t), .int (nI q)].toArray below meth c H locs 0 0 (MQ below (Qcm D (wR ad cI cJ cZ σ) s.heap.size (some (.int (bI (misF (gmpa σ) (gmty σ) q 6 (some t))))) (wR ad cI cJ cZ σ)) [.ref (ad 0), .int (nI t), .int (nI q)].toArray s 0 0 A) (F0 m 2 ls []) := by
    intro f
    induction f with
    | zero =>
      intro o H locs ls hf ho hv hP hS hl
      refine lv_iload_n E.1.1 E.1.2.1 dX4_isAnother_2 rfl (lv_at hl 3 rfl) ?_
      refine ov_lt0 (o := o) (fun j hj => by have := ho j hj; omega) E dX4_isAnother_3 (tgt := 33) (by decide) (fun h3 => ?_) (fun k3 h3 => ?_)
      · subst h3
        have hl : lv_has ls 4 [(0, .ref (ad 0)), (1, .int (nI t)), (2, .int (nI q)), (3, .int (oI none))] := hl
        refine lv_iload_n E.1.1 E.1.2.1 dX4_isAnother_33 rfl (lv_at hl 3 rfl) ?_
        refine lv_iload_n E.1.1 E.1.2.1 dX4_isAnother_34 rfl (lv_at hl 2 rfl) ?_
        refine lv_icmp_ne (tgt := 42) E.1.1 E.1.2.1 dX4_isAnother_35 (by decide) (fun h35 => ?_) (fun h35 => ?_)
        · refine lv_iconst (v := nI 0) E.1.1 E.1.2.1 dX4_isAnother_42 rfl ?_
          exact CM.retz E hr hlk hA hP hS (er_f (by rw [hv]; first | (cases f <;> rfl) | rfl | (rw [misF, if_pos h8]))) rfl dX4_isAnother_43
        · exact absurd h35 (oI_nn (by omega))
      · exact absurd (ho _ h3) (Nat.not_lt_zero _)
    | succ f ih2 =>
      intro o H locs ls hf ho hv hP hS hl
      refine lv_iload_n E.1.1 E.1.2.1 dX4_isAnother_2 rfl (lv_at hl 3 rfl) ?_
      refine ov_lt0 (o := o) (fun j hj => by have := ho j hj; omega) E dX4_isAnother_3 (tgt := 33) (by decide) (fun h3 => ?_) (fun k3 h3 => ?_)
      · subst h3
        have hl : lv_has ls 4 [(0, .ref (ad 0)), (1, .int (nI t)), (2, .int (nI q)), (3, .int (oI none))] := hl
        refine lv_iload_n E.1.1 E.1.2.1 dX4_isAnother_33 rfl (lv_at hl 3 rfl) ?_
        refine lv_iload_n E.1.1 E.1.2.1 dX4_isAnother_34 rfl (lv_at hl 2 rfl) ?_
        refine lv_icmp_ne (tgt := 42) E.1.1 E.1.2.1 dX4_isAnother_35 (by decide) (fun h35 => ?_) (fun h35 => ?_)
        · refine lv_iconst (v := nI 0) E.1.1 E.1.2.1 dX4_isAnother_42 rfl ?_
          exact CM.retz E hr hlk hA hP hS (er_f (by rw [hv]; first | (cases f <;> rfl) | rfl | (rw [misF, if_pos h8]))) rfl dX4_isAnother_43
        · exact absurd h35 (oI_nn (by omega))
      · subst h3
        have hk3 := ho _ rfl
        have hl : lv_has ls 4 [(0, .ref (ad 0)), (1, .int (nI t)), (2, .int (nI q)), (3, .int (nI k3))] := hl
        refine lv_iload_n E.1.1 E.1.2.1 dX4_isAnother_6 rfl (lv_at hl 3 rfl) ?_
        refine lv_iload_n E.1.1 E.1.2.1 dX4_isAnother_7 rfl (lv_at hl 2 rfl) ?_
        refine nv_icmp_eq (by omega) (by omega) E dX4_isAnother_8 (tgt := 33) (by decide) (fun h8 => ?_) (fun h8 => ?_)
        · refine lv_iload_n E.1.1 E.1.2.1 dX4_isAnother_33 rfl (lv_at hl 3 rfl) ?_
          refine lv_iload_n E.1.1 E.1.2.1 dX4_isAnother_34 rfl (lv_at hl 2 rfl) ?_
          refine nv_icmp_ne (by omega) (by omega) E dX4_isAnother_35 (tgt := 42) (by decide) (fun h35 => ?_) (fun h35 => ?_)
          · exact absurd h8 h35
          · refine lv_iconst (v := nI 1) E.1.1 E.1.2.1 dX4_isAnother_38 rfl ?_
            refine lv_goto (tgt := 43) E.1.1 E.1.2.1 dX4_isAnother_39 (by decide) ?_
            exact CM.retz E hr hlk hA hP hS (er_t (by rw [hv]; first | (cases f <;> rfl) | rfl | (rw [misF, if_pos h8]))) rfl dX4_isAnother_43
        · refine lv_iload_n E.1.1 E.1.2.1 dX4_isAnother_11 rfl (lv_at hl 3 rfl) ?_
          refine lv_aload_n E.1.1 E.1.2.1 dX4_isAnother_12 rfl (lv_at hl 0 rfl) ?_
          refine gt_X4_types E fl_X4_7 hP dX4_isAnother_13 ?_
          refine nv_icmp_ge (by omega) (by have := hQ.2.2; omega) E dX4_isAnother_16 (tgt := 28) (by decide) (fun h16 => ?_) (fun h16 => ?_)
          · refine lv_iconst (v := oI none) E.1.1 E.1.2.1 dX4_isAnother_28 rfl ?_
            refine lv_istore_n (lv' := [(3, .int (oI none)), (0, .ref (ad 0)), (1, .int (nI t)), (2, .int (nI q))]) E.1.1 E.1.2.1 dX4_isAnother_29 rfl hl (by decide) rfl (fun ls hl => ?_)
            refine lv_goto (tgt := 2) E.1.1 E.1.2.1 dX4_isAnother_30 (by decide) ?_
            exact ih2 none _ _ _ (by omega) (by intro j hj; first | (cases hj; done) | (have := hQ.1 _ j hj; have := ho _ rfl; omega)) (by rw [hv, misF, if_neg h8]; first | (rw [if_pos h16]; done) | rw [if_neg (by omega)]) hP hS (lv_sub hl [1, 2, 3, 0] rfl)
          · refine lv_aload_n E.1.1 E.1.2.1 dX4_isAnother_19 rfl (lv_at hl 0 rfl) ?_
            refine gt_X4_parent E fl_X4_13 hP dX4_isAnother_20 ?_
            refine lv_iload_n E.1.1 E.1.2.1 dX4_isAnother_23 rfl (lv_at hl 3 rfl) ?_
            refine ld_MS_pa (i := k3) E hP (by omega) dX4_isAnother_24 ?_
            refine lv_goto (tgt := 29) E.1.1 E.1.2.1 dX4_isAnother_25 (by decide) ?_
            refine lv_istore_n (lv' := [(3, .int (oI (gmpa σ k3))), (0, .ref (ad 0)), (1, .int (nI t)), (2, .int (nI q))]) E.1.1 E.1.2.1 dX4_isAnother_29 rfl hl (by decide) rfl (fun ls hl => ?_)
            refine lv_goto (tgt := 2) E.1.1 E.1.2.1 dX4_isAnother_30 (by decide) ?_
            exact ih2 (gmpa σ k3) _ _ _ (by omega) (by intro j hj; first | (cases hj; done) | (have := hQ.1 _ j hj; have := ho _ rfl; omega)) (by rw [hv, misF, if_neg h8]; first | (rw [if_pos h16]; done) | rw [if_neg (by omega)]) hP hS (lv_sub hl [1, 2, 3, 0] rfl)
  exact LP2 6 (some t) _ _ _ (by omega) (by intro j hj; cases hj; exact ht) rfl hP hS (lv_sub hl [1, 2, 3, 0] rfl)
set_option maxRecDepth 100000 in
set_option maxHeartbeats 400000 in
theorem c_X4_makes (l : Launch) (D : va_G) (cI cJ cZ : ClassId) (ad : Nat → Nat) (σ : MS) (t : Nat) (b : Bool)  (hV : VI σ) (hob : gmob σ < 401) : CM l D (t3 cI cJ cZ) yX4_makes cX4_makes 4 (some .int) 0 [.ref (ad 0), .int (nI t), .int (bI b)] (wR ad cI cJ cZ σ) (some (.int (oI (maR b σ)))) (wR ad cI cJ cZ (maF t b σ)) := by
  refine CM.of (by decide) (Nat.le_of_ble_eq_true rfl) ?_
  intro p e s m below meth c A ls E hr hlk hP hD0 hA hA2 hS hl
  have hD := wR_D hD0
  have hl : lv_has ls 4 [(0, .ref (ad 0)), (1, .int (nI t)), (2, .int (bI b))] := hl
  have hc1 := hV.2.2.2.1.2.2.2
  have hr6 := hV.2.2.2.2.2.1
  refine lv_iload_n E.1.1 E.1.2.1 dX4_makes_0 rfl (lv_at hl 2 rfl) ?_
  refine bv_if_ne (x := b) E dX4_makes_1 (tgt := 19) (by decide) (fun h1 => ?_) (fun h1 => ?_)
  · refine lv_aload_n E.1.1 E.1.2.1 dX4_makes_19 rfl (lv_at hl 0 rfl) ?_
    refine gt_X4_counts E fl_X4_66 hP dX4_makes_20 ?_
    refine lv_iconst (v := nI 1) E.1.1 E.1.2.1 dX4_makes_23 rfl ?_
    refine lv_dup2_11 E.1.1 E.1.2.1 dX4_makes_24 rfl rfl ?_
    refine ld_MS_ct (i := 1) E hP (by omega) dX4_makes_25 ?_
    refine lv_iload_n E.1.1 E.1.2.1 dX4_makes_26 rfl (lv_at hl 2 rfl) ?_
    refine bv_if_eq (x := b) E dX4_makes_27 (tgt := 34) (by decide) (fun h27 => ?_) (fun h27 => ?_)
    · refine lv_iconst (v := nI 1) E.1.1 E.1.2.1 dX4_makes_34 rfl ?_
      refine nv_iadd E dX4_makes_35 ?_
      refine as_MS_ct (i := 1) (v := (gmct σ 1) + 1) E hP hD hS (by omega) dX4_makes_36 (fun H locs hP hS => ?_)
      refine lv_aload_n E.1.1 E.1.2.1 dX4_makes_37 rfl (lv_at hl 0 rfl) ?_
      refine gt_X4_classOf E fl_X4_39 hP dX4_makes_38 ?_
      refine lv_aload_n E.1.1 E.1.2.1 dX4_makes_41 rfl (lv_at hl 0 rfl) ?_
      refine gt_X4_objects E fl_X4_122 hP dX4_makes_42 ?_
      refine tpi (y := nI (gmob σ)) (by rw [hs_ob_ct]) ?_
      refine lv_iload_n E.1.1 E.1.2.1 dX4_makes_45 rfl (lv_at hl 1 rfl) ?_
      refine as_MS_cl (i := gmob σ) (v := t) E hP hD hS (by omega) dX4_makes_46 (fun H locs hP hS => ?_)
      have hP : va_P D vwCl (wR ad cI cJ cZ (smcl (smct σ (va_up (gmct σ) 1 ((gmct σ 1) + 1))) (va_up (gmcl σ) (gmob σ) t))) H := by have q9 := hP; rw [hs_cl_ct] at q9; exact q9
      obtain ⟨τ, hτ⟩ : ∃ z, z = mk0 t b σ := ⟨_, rfl⟩
      have hm9 : (smcl (smct σ (va_up (gmct σ) 1 ((gmct σ 1) + 1))) (va_up (gmcl σ) (gmob σ) t)) = τ := by rw [hτ, mk0]; first | (rw [if_pos h27]; done) | (rw [if_neg (by rw [h27]; decide)])
      rw [hm9] at hP
      have hP : va_P D vwCl (wR ad cI cJ cZ τ) H := hP
      have ho9 : gmob τ = gmob σ := by rw [hτ, mk0, hs_ob_cl, hs_ob_ct]
      refine lv_iconst (v := nI 0) E.1.1 E.1.2.1 dX4_makes_47 rfl ?_
      refine lv_istore_n (lv' := [(3, .int (nI 0)), (0, .ref (ad 0)), (1, .int (nI t)), (2, .int (bI b))]) E.1.1 E.1.2.1 dX4_makes_48 rfl hl (by decide) rfl (fun ls hl => ?_)
      have LP49 : ∀ (n : Nat) (k : Nat) (H : Heap) (locs : List Loc) (ls : Array Slot), (k + n = 3) → va_P D vwCl (wR ad cI cJ cZ (smfV (smfI τ (genF (gmfI τ) (3 * gmob τ) (3 * gmob τ + k) (fun _ => false))) (genF (gmfV τ) (3 * gmob τ) (3 * gmob τ + k) (fun _ => 0)))) H → va_S A s.heap H locs → lv_has ls 4 [(0, .ref (ad 0)), (1, .int (nI t)), (2, .int (bI b)), (3, .int (nI k))] → W p l e { frames := 0, cells := 0, slots := 0, locals := 40 * 0 } s m [.ref (ad 0), .int (nI t), .int (bI b)].toArray below meth c H locs 0 0 (MQ below (Qcm D (wR ad cI cJ cZ σ) s.heap.size (some (.int (oI (maR b σ)))) (wR ad cI cJ cZ (maF t b σ))) [.ref (ad 0), .int (nI t), .int (bI b)].toArray s 0 0 A) (F0 m 49 ls []) := by
        intro n
        induction n with
        | zero =>
          intro k H locs ls hk hP hS hl
          refine lv_iload_n E.1.1 E.1.2.1 dX4_makes_49 rfl (lv_at hl 3 rfl) ?_
          refine lv_iconst (v := nI 3) E.1.1 E.1.2.1 dX4_makes_50 rfl ?_
          refine nv_icmp_ge (by omega) (by omega) E dX4_makes_51 (tgt := 88) (by decide) (fun h51 => ?_) (fun h51 => ?_)
          · refine lv_aload_n E.1.1 E.1.2.1 dX4_makes_88 rfl (lv_at hl 0 rfl) ?_
            refine lv_dup E.1.1 E.1.2.1 dX4_makes_89 rfl ?_
            refine gt_X4_objects E fl_X4_122 hP dX4_makes_90 ?_
            refine tpi (y := nI (gmob τ)) (by rw [hs_ob_fV, hs_ob_fI]) ?_
            refine lv_iconst (v := nI 1) E.1.1 E.1.2.1 dX4_makes_93 rfl ?_
            refine nv_iadd E dX4_makes_94 ?_
            refine pt_X4_objects (v := (gmob τ) + 1) E fl_X4_122 hP hD hS dX4_makes_95 (fun H locs hP hS => ?_)
            refine lv_aload_n E.1.1 E.1.2.1 dX4_makes_98 rfl (lv_at hl 0 rfl) ?_
            refine gt_X4_objects E fl_X4_122 hP dX4_makes_99 ?_
            refine tpi (y := nI ((gmob τ) + 1)) (by rw [hs_ob_ob]) ?_
            refine lv_iconst (v := nI 1) E.1.1 E.1.2.1 dX4_makes_102 rfl ?_
            refine nv_isub (by omega) E dX4_makes_103 ?_
            exact CM.reti E hr hlk hA (by unfold maF; rw [if_neg (by intro z; first | exact absurd (h1.symm.trans z.1) (by decide) | exact h14 z.2), ← hτ]; unfold mk1; have e9 : k = 3 := (by omega); subst e9; exact hP) hS (by unfold maR; rw [if_neg (by intro z; first | exact absurd (h1.symm.trans z.1) (by decide) | exact h14 z.2), ho9]; rfl) dX4_makes_104
          · exact absurd h51 (by omega)
        | succ n ih49 =>
          intro k H locs ls hk hP hS hl
          refine lv_iload_n E.1.1 E.1.2.1 dX4_makes_49 rfl (lv_at hl 3 rfl) ?_
          refine lv_iconst (v := nI 3) E.1.1 E.1.2.1 dX4_makes_50 rfl ?_
          refine nv_icmp_ge (by omega) (by omega) E dX4_makes_51 (tgt := 88) (by decide) (fun h51 => ?_) (fun h51 => ?_)
          · exact absurd h51 (by omega)
          · refine lv_aload_n E.1.1 E.1.2.1 dX4_makes_54 rfl (lv_at hl 0 rfl) ?_
            refine gt_X4_fieldIs E fl_X4_42 hP dX4_makes_55 ?_
            refine lv_iconst (v := nI 3) E.1.1 E.1.2.1 dX4_makes_58 rfl ?_
            refine lv_aload_n E.1.1 E.1.2.1 dX4_makes_59 rfl (lv_at hl 0 rfl) ?_
            refine gt_X4_objects E fl_X4_122 hP dX4_makes_60 ?_
            refine tpi (y := nI (gmob τ)) (by rw [hs_ob_fV, hs_ob_fI]) ?_
            refine nv_imul E dX4_makes_63 ?_
            refine lv_iload_n E.1.1 E.1.2.1 dX4_makes_64 rfl (lv_at hl 3 rfl) ?_
            refine nv_iadd E dX4_makes_65 ?_
            refine lv_iconst (v := nI 0) E.1.1 E.1.2.1 dX4_makes_66 rfl ?_
            refine as_MS_fI (i := (3 * (gmob τ)) + k) (v := false) E hP hD hS (by omega) dX4_makes_67 (fun H locs hP hS => ?_)
            have hP : va_P D vwCl (wR ad cI cJ cZ (smfI (smfV (smfI τ (genF (gmfI τ) (3 * gmob τ) (3 * gmob τ + k) (fun _ => false))) (genF (gmfV τ) (3 * gmob τ) (3 * gmob τ + k) (fun _ => 0))) (va_up (genF (gmfI τ) (3 * gmob τ) (3 * gmob τ + k) (fun _ => false)) ((3 * (gmob τ)) + k) false))) H := by have q9 := hP; rw [hs_fI_fV, hs_fI_fI] at q9; exact q9
            refine lv_aload_n E.1.1 E.1.2.1 dX4_makes_68 rfl (lv_at hl 0 rfl) ?_
            refine gt_X4_field E fl_X4_45 hP dX4_makes_69 ?_
            refine lv_iconst (v := nI 3) E.1.1 E.1.2.1 dX4_makes_72 rfl ?_
            refine lv_aload_n E.1.1 E.1.2.1 dX4_makes_73 rfl (lv_at hl 0 rfl) ?_
            refine gt_X4_objects E fl_X4_122 hP dX4_makes_74 ?_
            refine tpi (y := nI (gmob τ)) (by rw [hs_ob_fI, hs_ob_fV, hs_ob_fI]) ?_
            refine nv_imul E dX4_makes_77 ?_
            refine lv_iload_n E.1.1 E.1.2.1 dX4_makes_78 rfl (lv_at hl 3 rfl) ?_
            refine nv_iadd E dX4_makes_79 ?_
            refine lv_iconst (v := nI 0) E.1.1 E.1.2.1 dX4_makes_80 rfl ?_
            refine as_MS_fV (i := (3 * (gmob τ)) + k) (v := nI 0) E hP hD hS (by omega) dX4_makes_81 (fun H locs hP hS => ?_)
            have hP : va_P D vwCl (wR ad cI cJ cZ (smfV (smfI (smfV (smfI τ (genF (gmfI τ) (3 * gmob τ) (3 * gmob τ + k) (fun _ => false))) (genF (gmfV τ) (3 * gmob τ) (3 * gmob τ + k) (fun _ => 0))) (va_up (genF (gmfI τ) (3 * gmob τ) (3 * gmob τ + k) (fun _ => false)) ((3 * (gmob τ)) + k) false)) (va_up (genF (gmfV τ) (3 * gmob τ) (3 * gmob τ + k) (fun _ => 0)) ((3 * (gmob τ)) + k) (nI 0)))) H := by have q9 := hP; rw [hs_fV_fI, hs_fV_fV] at q9; exact q9
            refine lv_iinc (v := nI (k + 1)) (lv' := [(3, .int (nI (k + 1))), (0, .ref (ad 0)), (1, .int (nI t)), (2, .int (bI b))]) E.1.1 E.1.2.1 dX4_makes_82 hl (k := 3) rfl (nI_add k 1) (by decide) rfl (fun ls hl => ?_)
            refine lv_goto (tgt := 49) E.1.1 E.1.2.1 dX4_makes_85 (by decide) ?_
            exact ih49 (k + 1) _ _ _ (by omega) (by rw [← genF_up (gmfI τ) (3 * gmob τ) k (fun _ => false) rfl, ← genF_up (gmfV τ) (3 * gmob τ) k (fun _ => 0) rfl]; have q9 := hP; rw [sw_fI_fV, tt_fI, tt_fV] at q9; exact q9) hS (lv_sub hl [1, 2, 3, 0] rfl)
      exact LP49 3 0 _ _ _ (by omega) (by rw [genF_0, genF_0]; exact hP) hS (lv_sub hl [1, 2, 3, 0] rfl)
    · refine lv_iconst (v := nI 0) E.1.1 E.1.2.1 dX4_makes_30 rfl ?_
      refine lv_goto (tgt := 35) E.1.1 E.1.2.1 dX4_makes_31 (by decide) ?_
      refine nv_iadd E dX4_makes_35 ?_
      refine as_MS_ct (i := 1) (v := (gmct σ 1) + 0) E hP hD hS (by omega) dX4_makes_36 (fun H locs hP hS => ?_)
      refine lv_aload_n E.1.1 E.1.2.1 dX4_makes_37 rfl (lv_at hl 0 rfl) ?_
      refine gt_X4_classOf E fl_X4_39 hP dX4_makes_38 ?_
      refine lv_aload_n E.1.1 E.1.2.1 dX4_makes_41 rfl (lv_at hl 0 rfl) ?_
      refine gt_X4_objects E fl_X4_122 hP dX4_makes_42 ?_
      refine tpi (y := nI (gmob σ)) (by rw [hs_ob_ct]) ?_
      refine lv_iload_n E.1.1 E.1.2.1 dX4_makes_45 rfl (lv_at hl 1 rfl) ?_
      refine as_MS_cl (i := gmob σ) (v := t) E hP hD hS (by omega) dX4_makes_46 (fun H locs hP hS => ?_)
      have hP : va_P D vwCl (wR ad cI cJ cZ (smcl (smct σ (va_up (gmct σ) 1 ((gmct σ 1) + 0))) (va_up (gmcl σ) (gmob σ) t))) H := by have q9 := hP; rw [hs_cl_ct] at q9; exact q9
      obtain ⟨τ, hτ⟩ : ∃ z, z = mk0 t b σ := ⟨_, rfl⟩
      have hm9 : (smcl (smct σ (va_up (gmct σ) 1 ((gmct σ 1) + 0))) (va_up (gmcl σ) (gmob σ) t)) = τ := by rw [hτ, mk0]; first | (rw [if_pos h27]; done) | (rw [if_neg (by rw [h27]; decide)])
      rw [hm9] at hP
      have hP : va_P D vwCl (wR ad cI cJ cZ τ) H := hP
      have ho9 : gmob τ = gmob σ := by rw [hτ, mk0, hs_ob_cl, hs_ob_ct]
      refine lv_iconst (v := nI 0) E.1.1 E.1.2.1 dX4_makes_47 rfl ?_
      refine lv_istore_n (lv' := [(3, .int (nI 0)), (0, .ref (ad 0)), (1, .int (nI t)), (2, .int (bI b))]) E.1.1 E.1.2.1 dX4_makes_48 rfl hl (by decide) rfl (fun ls hl => ?_)
      have LP49 : ∀ (n : Nat) (k : Nat) (H : Heap) (locs : List Loc) (ls : Array Slot), (k + n = 3) → va_P D vwCl (wR ad cI cJ cZ (smfV (smfI τ (genF (gmfI τ) (3 * gmob τ) (3 * gmob τ + k) (fun _ => false))) (genF (gmfV τ) (3 * gmob τ) (3 * gmob τ + k) (fun _ => 0)))) H → va_S A s.heap H locs → lv_has ls 4 [(0, .ref (ad 0)), (1, .int (nI t)), (2, .int (bI b)), (3, .int (nI k))] → W p l e { frames := 0, cells := 0, slots := 0, locals := 40 * 0 } s m [.ref (ad 0), .int (nI t), .int (bI b)].toArray below meth c H locs 0 0 (MQ below (Qcm D (wR ad cI cJ cZ σ) s.heap.size (some (.int (oI (maR b σ)))) (wR ad cI cJ cZ (maF t b σ))) [.ref (ad 0), .int (nI t), .int (bI b)].toArray s 0 0 A) (F0 m 49 ls []) := by
        intro n
        induction n with
        | zero =>
          intro k H locs ls hk hP hS hl
          refine lv_iload_n E.1.1 E.1.2.1 dX4_makes_49 rfl (lv_at hl 3 rfl) ?_
          refine lv_iconst (v := nI 3) E.1.1 E.1.2.1 dX4_makes_50 rfl ?_
          refine nv_icmp_ge (by omega) (by omega) E dX4_makes_51 (tgt := 88) (by decide) (fun h51 => ?_) (fun h51 => ?_)
          · refine lv_aload_n E.1.1 E.1.2.1 dX4_makes_88 rfl (lv_at hl 0 rfl) ?_
            refine lv_dup E.1.1 E.1.2.1 dX4_makes_89 rfl ?_
            refine gt_X4_objects E fl_X4_122 hP dX4_makes_90 ?_
            refine tpi (y := nI (gmob τ)) (by rw [hs_ob_fV, hs_ob_fI]) ?_
            refine lv_iconst (v := nI 1) E.1.1 E.1.2.1 dX4_makes_93 rfl ?_
            refine nv_iadd E dX4_makes_94 ?_
            refine pt_X4_objects (v := (gmob τ) + 1) E fl_X4_122 hP hD hS dX4_makes_95 (fun H locs hP hS => ?_)
            refine lv_aload_n E.1.1 E.1.2.1 dX4_makes_98 rfl (lv_at hl 0 rfl) ?_
            refine gt_X4_objects E fl_X4_122 hP dX4_makes_99 ?_
            refine tpi (y := nI ((gmob τ) + 1)) (by rw [hs_ob_ob]) ?_
            refine lv_iconst (v := nI 1) E.1.1 E.1.2.1 dX4_makes_102 rfl ?_
            refine nv_isub (by omega) E dX4_makes_103 ?_
            exact CM.reti E hr hlk hA (by unfold maF; rw [if_neg (by intro z; first | exact absurd (h1.symm.trans z.1) (by decide) | exact h14 z.2), ← hτ]; unfold mk1; have e9 : k = 3 := (by omega); subst e9; exact hP) hS (by unfold maR; rw [if_neg (by intro z; first | exact absurd (h1.symm.trans z.1) (by decide) | exact h14 z.2), ho9]; rfl) dX4_makes_104
          · exact absurd h51 (by omega)
        | succ n ih49 =>
          intro k H locs ls hk hP hS hl
          refine lv_iload_n E.1.1 E.1.2.1 dX4_makes_49 rfl (lv_at hl 3 rfl) ?_
          refine lv_iconst (v := nI 3) E.1.1 E.1.2.1 dX4_makes_50 rfl ?_
          refine nv_icmp_ge (by omega) (by omega) E dX4_makes_51 (tgt := 88) (by decide) (fun h51 => ?_) (fun h51 => ?_)
          · exact absurd h51 (by omega)
          · refine lv_aload_n E.1.1 E.1.2.1 dX4_makes_54 rfl (lv_at hl 0 rfl) ?_
            refine gt_X4_fieldIs E fl_X4_42 hP dX4_makes_55 ?_
            refine lv_iconst (v := nI 3) E.1.1 E.1.2.1 dX4_makes_58 rfl ?_
            refine lv_aload_n E.1.1 E.1.2.1 dX4_makes_59 rfl (lv_at hl 0 rfl) ?_
            refine gt_X4_objects E fl_X4_122 hP dX4_makes_60 ?_
            refine tpi (y := nI (gmob τ)) (by rw [hs_ob_fV, hs_ob_fI]) ?_
            refine nv_imul E dX4_makes_63 ?_
            refine lv_iload_n E.1.1 E.1.2.1 dX4_makes_64 rfl (lv_at hl 3 rfl) ?_
            refine nv_iadd E dX4_makes_65 ?_
            refine lv_iconst (v := nI 0) E.1.1 E.1.2.1 dX4_makes_66 rfl ?_
            refine as_MS_fI (i := (3 * (gmob τ)) + k) (v := false) E hP hD hS (by omega) dX4_makes_67 (fun H locs hP hS => ?_)
            have hP : va_P D vwCl (wR ad cI cJ cZ (smfI (smfV (smfI τ (genF (gmfI τ) (3 * gmob τ) (3 * gmob τ + k) (fun _ => false))) (genF (gmfV τ) (3 * gmob τ) (3 * gmob τ + k) (fun _ => 0))) (va_up (genF (gmfI τ) (3 * gmob τ) (3 * gmob τ + k) (fun _ => false)) ((3 * (gmob τ)) + k) false))) H := by have q9 := hP; rw [hs_fI_fV, hs_fI_fI] at q9; exact q9
            refine lv_aload_n E.1.1 E.1.2.1 dX4_makes_68 rfl (lv_at hl 0 rfl) ?_
            refine gt_X4_field E fl_X4_45 hP dX4_makes_69 ?_
            refine lv_iconst (v := nI 3) E.1.1 E.1.2.1 dX4_makes_72 rfl ?_
            refine lv_aload_n E.1.1 E.1.2.1 dX4_makes_73 rfl (lv_at hl 0 rfl) ?_
            refine gt_X4_objects E fl_X4_122 hP dX4_makes_74 ?_
            refine tpi (y := nI (gmob τ)) (by rw [hs_ob_fI, hs_ob_fV, hs_ob_fI]) ?_
            refine nv_imul E dX4_makes_77 ?_
            refine lv_iload_n E.1.1 E.1.2.1 dX4_makes_78 rfl (lv_at hl 3 rfl) ?_
            refine nv_iadd E dX4_makes_79 ?_
            refine lv_iconst (v := nI 0) E.1.1 E.1.2.1 dX4_makes_80 rfl ?_
            refine as_MS_fV (i := (3 * (gmob τ)) + k) (v := nI 0) E hP hD hS (by omega) dX4_makes_81 (fun H locs hP hS => ?_)
            have hP : va_P D vwCl (wR ad cI cJ cZ (smfV (smfI (smfV (smfI τ (genF (gmfI τ) (3 * gmob τ) (3 * gmob τ + k) (fun _ => false))) (genF (gmfV τ) (3 * gmob τ) (3 * gmob τ + k) (fun _ => 0))) (va_up (genF (gmfI τ) (3 * gmob τ) (3 * gmob τ + k) (fun _ => false)) ((3 * (gmob τ)) + k) false)) (va_up (genF (gmfV τ) (3 * gmob τ) (3 * gmob τ + k) (fun _ => 0)) ((3 * (gmob τ)) + k) (nI 0)))) H := by have q9 := hP; rw [hs_fV_fI, hs_fV_fV] at q9; exact q9
            refine lv_iinc (v := nI (k + 1)) (lv' := [(3, .int (nI (k + 1))), (0, .ref (ad 0)), (1, .int (nI t)), (2, .int (bI b))]) E.1.1 E.1.2.1 dX4_makes_82 hl (k := 3) rfl (nI_add k 1) (by decide) rfl (fun ls hl => ?_)
            refine lv_goto (tgt := 49) E.1.1 E.1.2.1 dX4_makes_85 (by decide) ?_
            exact ih49 (k + 1) _ _ _ (by omega) (by rw [← genF_up (gmfI τ) (3 * gmob τ) k (fun _ => false) rfl, ← genF_up (gmfV τ) (3 * gmob τ) k (fun _ => 0) rfl]; have q9 := hP; rw [sw_fI_fV, tt_fI, tt_fV] at q9; exact q9) hS (lv_sub hl [1, 2, 3, 0] rfl)
      exact LP49 3 0 _ _ _ (by omega) (by rw [genF_0, genF_0]; exact hP) hS (lv_sub hl [1, 2, 3, 0] rfl)
  · refine lv_aload_n E.1.1 E.1.2.1 dX4_makes_4 rfl (lv_at hl 0 rfl) ?_
    refine gt_X4_counts E fl_X4_66 hP dX4_makes_5 ?_
    refine lv_iconst (v := nI 1) E.1.1 E.1.2.1 dX4_makes_8 rfl ?_
    refine ld_MS_ct (i := 1) E hP (by omega) dX4_makes_9 ?_
    refine lv_aload_n E.1.1 E.1.2.1 dX4_makes_10 rfl (lv_at hl 0 rfl) ?_
    refine gt_X4_room E fl_X4_119 hP dX4_makes_11 ?_
    refine nv_icmp_ne (by omega) (by omega) E dX4_makes_14 (tgt := 19) (by decide) (fun h14 => ?_) (fun h14 => ?_)
    · refine lv_aload_n E.1.1 E.1.2.1 dX4_makes_19 rfl (lv_at hl 0 rfl) ?_
      refine gt_X4_counts E fl_X4_66 hP dX4_makes_20 ?_
      refine lv_iconst (v := nI 1) E.1.1 E.1.2.1 dX4_makes_23 rfl ?_
      refine lv_dup2_11 E.1.1 E.1.2.1 dX4_makes_24 rfl rfl ?_
      refine ld_MS_ct (i := 1) E hP (by omega) dX4_makes_25 ?_
      refine lv_iload_n E.1.1 E.1.2.1 dX4_makes_26 rfl (lv_at hl 2 rfl) ?_
      refine bv_if_eq (x := b) E dX4_makes_27 (tgt := 34) (by decide) (fun h27 => ?_) (fun h27 => ?_)
      · refine lv_iconst (v := nI 1) E.1.1 E.1.2.1 dX4_makes_34 rfl ?_
        refine nv_iadd E dX4_makes_35 ?_
        refine as_MS_ct (i := 1) (v := (gmct σ 1) + 1) E hP hD hS (by omega) dX4_makes_36 (fun H locs hP hS => ?_)
        refine lv_aload_n E.1.1 E.1.2.1 dX4_makes_37 rfl (lv_at hl 0 rfl) ?_
        refine gt_X4_classOf E fl_X4_39 hP dX4_makes_38 ?_
        refine lv_aload_n E.1.1 E.1.2.1 dX4_makes_41 rfl (lv_at hl 0 rfl) ?_
        refine gt_X4_objects E fl_X4_122 hP dX4_makes_42 ?_
        refine tpi (y := nI (gmob σ)) (by rw [hs_ob_ct]) ?_
        refine lv_iload_n E.1.1 E.1.2.1 dX4_makes_45 rfl (lv_at hl 1 rfl) ?_
        refine as_MS_cl (i := gmob σ) (v := t) E hP hD hS (by omega) dX4_makes_46 (fun H locs hP hS => ?_)
        have hP : va_P D vwCl (wR ad cI cJ cZ (smcl (smct σ (va_up (gmct σ) 1 ((gmct σ 1) + 1))) (va_up (gmcl σ) (gmob σ) t))) H := by have q9 := hP; rw [hs_cl_ct] at q9; exact q9
        obtain ⟨τ, hτ⟩ : ∃ z, z = mk0 t b σ := ⟨_, rfl⟩
        have hm9 : (smcl (smct σ (va_up (gmct σ) 1 ((gmct σ 1) + 1))) (va_up (gmcl σ) (gmob σ) t)) = τ := by rw [hτ, mk0]; first | (rw [if_pos h27]; done) | (rw [if_neg (by rw [h27]; decide)])
        rw [hm9] at hP
        have hP : va_P D vwCl (wR ad cI cJ cZ τ) H := hP
        have ho9 : gmob τ = gmob σ := by rw [hτ, mk0, hs_ob_cl, hs_ob_ct]
        refine lv_iconst (v := nI 0) E.1.1 E.1.2.1 dX4_makes_47 rfl ?_
        refine lv_istore_n (lv' := [(3, .int (nI 0)), (0, .ref (ad 0)), (1, .int (nI t)), (2, .int (bI b))]) E.1.1 E.1.2.1 dX4_makes_48 rfl hl (by decide) rfl (fun ls hl => ?_)
        have LP49 : ∀ (n : Nat) (k : Nat) (H : Heap) (locs : List Loc) (ls : Array Slot), (k + n = 3) → va_P D vwCl (wR ad cI cJ cZ (smfV (smfI τ (genF (gmfI τ) (3 * gmob τ) (3 * gmob τ + k) (fun _ => false))) (genF (gmfV τ) (3 * gmob τ) (3 * gmob τ + k) (fun _ => 0)))) H → va_S A s.heap H locs → lv_has ls 4 [(0, .ref (ad 0)), (1, .int (nI t)), (2, .int (bI b)), (3, .int (nI k))] → W p l e { frames := 0, cells := 0, slots := 0, locals := 40 * 0 } s m [.ref (ad 0), .int (nI t), .int (bI b)].toArray below meth c H locs 0 0 (MQ below (Qcm D (wR ad cI cJ cZ σ) s.heap.size (some (.int (oI (maR b σ)))) (wR ad cI cJ cZ (maF t b σ))) [.ref (ad 0), .int (nI t), .int (bI b)].toArray s 0 0 A) (F0 m 49 ls []) := by
          intro n
          induction n with
          | zero =>
            intro k H locs ls hk hP hS hl
            refine lv_iload_n E.1.1 E.1.2.1 dX4_makes_49 rfl (lv_at hl 3 rfl) ?_
            refine lv_iconst (v := nI 3) E.1.1 E.1.2.1 dX4_makes_50 rfl ?_
            refine nv_icmp_ge (by omega) (by omega) E dX4_makes_51 (tgt := 88) (by decide) (fun h51 => ?_) (fun h51 => ?_)
            · refine lv_aload_n E.1.1 E.1.2.1 dX4_makes_88 rfl (lv_at hl 0 rfl) ?_
              refine lv_dup E.1.1 E.1.2.1 dX4_makes_89 rfl ?_
              refine gt_X4_objects E fl_X4_122 hP dX4_makes_90 ?_
              refine tpi (y := nI (gmob τ)) (by rw [hs_ob_fV, hs_ob_fI]) ?_
              refine lv_iconst (v := nI 1) E.1.1 E.1.2.1 dX4_makes_93 rfl ?_
              refine nv_iadd E dX4_makes_94 ?_
              refine pt_X4_objects (v := (gmob τ) + 1) E fl_X4_122 hP hD hS dX4_makes_95 (fun H locs hP hS => ?_)
              refine lv_aload_n E.1.1 E.1.2.1 dX4_makes_98 rfl (lv_at hl 0 rfl) ?_
              refine gt_X4_objects E fl_X4_122 hP dX4_makes_99 ?_
              refine tpi (y := nI ((gmob τ) + 1)) (by rw [hs_ob_ob]) ?_
              refine lv_iconst (v := nI 1) E.1.1 E.1.2.1 dX4_makes_102 rfl ?_
              refine nv_isub (by omega) E dX4_makes_103 ?_
              exact CM.reti E hr hlk hA (by unfold maF; rw [if_neg (by intro z; first | exact absurd (h1.symm.trans z.1) (by decide) | exact h14 z.2), ← hτ]; unfold mk1; have e9 : k = 3 := (by omega); subst e9; exact hP) hS (by unfold maR; rw [if_neg (by intro z; first | exact absurd (h1.symm.trans z.1) (by decide) | exact h14 z.2), ho9]; rfl) dX4_makes_104
            · exact absurd h51 (by omega)
          | succ n ih49 =>
            intro k H locs ls hk hP hS hl
            refine lv_iload_n E.1.1 E.1.2.1 dX4_makes_49 rfl (lv_at hl 3 rfl) ?_
            refine lv_iconst (v := nI 3) E.1.1 E.1.2.1 dX4_makes_50 rfl ?_
            refine nv_icmp_ge (by omega) (by omega) E dX4_makes_51 (tgt := 88) (by decide) (fun h51 => ?_) (fun h51 => ?_)
            · exact absurd h51 (by omega)
            · refine lv_aload_n E.1.1 E.1.2.1 dX4_makes_54 rfl (lv_at hl 0 rfl) ?_
              refine gt_X4_fieldIs E fl_X4_42 hP dX4_makes_55 ?_
              refine lv_iconst (v := nI 3) E.1.1 E.1.2.1 dX4_makes_58 rfl ?_
              refine lv_aload_n E.1.1 E.1.2.1 dX4_makes_59 rfl (lv_at hl 0 rfl) ?_
              refine gt_X4_objects E fl_X4_122 hP dX4_makes_60 ?_
              refine tpi (y := nI (gmob τ)) (by rw [hs_ob_fV, hs_ob_fI]) ?_
              refine nv_imul E dX4_makes_63 ?_
              refine lv_iload_n E.1.1 E.1.2.1 dX4_makes_64 rfl (lv_at hl 3 rfl) ?_
              refine nv_iadd E dX4_makes_65 ?_
              refine lv_iconst (v := nI 0) E.1.1 E.1.2.1 dX4_makes_66 rfl ?_
              refine as_MS_fI (i := (3 * (gmob τ)) + k) (v := false) E hP hD hS (by omega) dX4_makes_67 (fun H locs hP hS => ?_)
              have hP : va_P D vwCl (wR ad cI cJ cZ (smfI (smfV (smfI τ (genF (gmfI τ) (3 * gmob τ) (3 * gmob τ + k) (fun _ => false))) (genF (gmfV τ) (3 * gmob τ) (3 * gmob τ + k) (fun _ => 0))) (va_up (genF (gmfI τ) (3 * gmob τ) (3 * gmob τ + k) (fun _ => false)) ((3 * (gmob τ)) + k) false))) H := by have q9 := hP; rw [hs_fI_fV, hs_fI_fI] at q9; exact q9
              refine lv_aload_n E.1.1 E.1.2.1 dX4_makes_68 rfl (lv_at hl 0 rfl) ?_
              refine gt_X4_field E fl_X4_45 hP dX4_makes_69 ?_
              refine lv_iconst (v := nI 3) E.1.1 E.1.2.1 dX4_makes_72 rfl ?_
              refine lv_aload_n E.1.1 E.1.2.1 dX4_makes_73 rfl (lv_at hl 0 rfl) ?_
              refine gt_X4_objects E fl_X4_122 hP dX4_makes_74 ?_
              refine tpi (y := nI (gmob τ)) (by rw [hs_ob_fI, hs_ob_fV, hs_ob_fI]) ?_
              refine nv_imul E dX4_makes_77 ?_
              refine lv_iload_n E.1.1 E.1.2.1 dX4_makes_78 rfl (lv_at hl 3 rfl) ?_
              refine nv_iadd E dX4_makes_79 ?_
              refine lv_iconst (v := nI 0) E.1.1 E.1.2.1 dX4_makes_80 rfl ?_
              refine as_MS_fV (i := (3 * (gmob τ)) + k) (v := nI 0) E hP hD hS (by omega) dX4_makes_81 (fun H locs hP hS => ?_)
              have hP : va_P D vwCl (wR ad cI cJ cZ (smfV (smfI (smfV (smfI τ (genF (gmfI τ) (3 * gmob τ) (3 * gmob τ + k) (fun _ => false))) (genF (gmfV τ) (3 * gmob τ) (3 * gmob τ + k) (fun _ => 0))) (va_up (genF (gmfI τ) (3 * gmob τ) (3 * gmob τ + k) (fun _ => false)) ((3 * (gmob τ)) + k) false)) (va_up (genF (gmfV τ) (3 * gmob τ) (3 * gmob τ + k) (fun _ => 0)) ((3 * (gmob τ)) + k) (nI 0)))) H := by have q9 := hP; rw [hs_fV_fI, hs_fV_fV] at q9; exact q9
              refine lv_iinc (v := nI (k + 1)) (lv' := [(3, .int (nI (k + 1))), (0, .ref (ad 0)), (1, .int (nI t)), (2, .int (bI b))]) E.1.1 E.1.2.1 dX4_makes_82 hl (k := 3) rfl (nI_add k 1) (by decide) rfl (fun ls hl => ?_)
              refine lv_goto (tgt := 49) E.1.1 E.1.2.1 dX4_makes_85 (by decide) ?_
              exact ih49 (k + 1) _ _ _ (by omega) (by rw [← genF_up (gmfI τ) (3 * gmob τ) k (fun _ => false) rfl, ← genF_up (gmfV τ) (3 * gmob τ) k (fun _ => 0) rfl]; have q9 := hP; rw [sw_fI_fV, tt_fI, tt_fV] at q9; exact q9) hS (lv_sub hl [1, 2, 3, 0] rfl)
        exact LP49 3 0 _ _ _ (by omega) (by rw [genF_0, genF_0]; exact hP) hS (lv_sub hl [1, 2, 3, 0] rfl)
      · refine lv_iconst (v := nI 0) E.1.1 E.1.2.1 dX4_makes_30 rfl ?_
        refine lv_goto (tgt := 35) E.1.1 E.1.2.1 dX4_makes_31 (by decide) ?_
        refine nv_iadd E dX4_makes_35 ?_
        refine as_MS_ct (i := 1) (v := (gmct σ 1) + 0) E hP hD hS (by omega) dX4_makes_36 (fun H locs hP hS => ?_)
        refine lv_aload_n E.1.1 E.1.2.1 dX4_makes_37 rfl (lv_at hl 0 rfl) ?_
        refine gt_X4_classOf E fl_X4_39 hP dX4_makes_38 ?_
        refine lv_aload_n E.1.1 E.1.2.1 dX4_makes_41 rfl (lv_at hl 0 rfl) ?_
        refine gt_X4_objects E fl_X4_122 hP dX4_makes_42 ?_
        refine tpi (y := nI (gmob σ)) (by rw [hs_ob_ct]) ?_
        refine lv_iload_n E.1.1 E.1.2.1 dX4_makes_45 rfl (lv_at hl 1 rfl) ?_
        refine as_MS_cl (i := gmob σ) (v := t) E hP hD hS (by omega) dX4_makes_46 (fun H locs hP hS => ?_)
        have hP : va_P D vwCl (wR ad cI cJ cZ (smcl (smct σ (va_up (gmct σ) 1 ((gmct σ 1) + 0))) (va_up (gmcl σ) (gmob σ) t))) H := by have q9 := hP; rw [hs_cl_ct] at q9; exact q9
        obtain ⟨τ, hτ⟩ : ∃ z, z = mk0 t b σ := ⟨_, rfl⟩
        have hm9 : (smcl (smct σ (va_up (gmct σ) 1 ((gmct σ 1) + 0))) (va_up (gmcl σ) (gmob σ) t)) = τ := by rw [hτ, mk0]; first | (rw [if_pos h27]; done) | (rw [if_neg (by rw [h27]; decide)])
        rw [hm9] at hP
        have hP : va_P D vwCl (wR ad cI cJ cZ τ) H := hP
        have ho9 : gmob τ = gmob σ := by rw [hτ, mk0, hs_ob_cl, hs_ob_ct]
        refine lv_iconst (v := nI 0) E.1.1 E.1.2.1 dX4_makes_47 rfl ?_
        refine lv_istore_n (lv' := [(3, .int (nI 0)), (0, .ref (ad 0)), (1, .int (nI t)), (2, .int (bI b))]) E.1.1 E.1.2.1 dX4_makes_48 rfl hl (by decide) rfl (fun ls hl => ?_)
        have LP49 : ∀ (n : Nat) (k : Nat) (H : Heap) (locs : List Loc) (ls : Array Slot), (k + n = 3) → va_P D vwCl (wR ad cI cJ cZ (smfV (smfI τ (genF (gmfI τ) (3 * gmob τ) (3 * gmob τ + k) (fun _ => false))) (genF (gmfV τ) (3 * gmob τ) (3 * gmob τ + k) (fun _ => 0)))) H → va_S A s.heap H locs → lv_has ls 4 [(0, .ref (ad 0)), (1, .int (nI t)), (2, .int (bI b)), (3, .int (nI k))] → W p l e { frames := 0, cells := 0, slots := 0, locals := 40 * 0 } s m [.ref (ad 0), .int (nI t), .int (bI b)].toArray below meth c H locs 0 0 (MQ below (Qcm D (wR ad cI cJ cZ σ) s.heap.size (some (.int (oI (maR b σ)))) (wR ad cI cJ cZ (maF t b σ))) [.ref (ad 0), .int (nI t), .int (bI b)].toArray s 0 0 A) (F0 m 49 ls []) := by
          intro n
          induction n with
          | zero =>
            intro k H locs ls hk hP hS hl
            refine lv_iload_n E.1.1 E.1.2.1 dX4_makes_49 rfl (lv_at hl 3 rfl) ?_
            refine lv_iconst (v := nI 3) E.1.1 E.1.2.1 dX4_makes_50 rfl ?_
            refine nv_icmp_ge (by omega) (by omega) E dX4_makes_51 (tgt := 88) (by decide) (fun h51 => ?_) (fun h51 => ?_)
            · refine lv_aload_n E.1.1 E.1.2.1 dX4_makes_88 rfl (lv_at hl 0 rfl) ?_
              refine lv_dup E.1.1 E.1.2.1 dX4_makes_89 rfl ?_
              refine gt_X4_objects E fl_X4_122 hP dX4_makes_90 ?_
              refine tpi (y := nI (gmob τ)) (by rw [hs_ob_fV, hs_ob_fI]) ?_
              refine lv_iconst (v := nI 1) E.1.1 E.1.2.1 dX4_makes_93 rfl ?_
              refine nv_iadd E dX4_makes_94 ?_
              refine pt_X4_objects (v := (gmob τ) + 1) E fl_X4_122 hP hD hS dX4_makes_95 (fun H locs hP hS => ?_)
              refine lv_aload_n E.1.1 E.1.2.1 dX4_makes_98 rfl (lv_at hl 0 rfl) ?_
              refine gt_X4_objects E fl_X4_122 hP dX4_makes_99 ?_
              refine tpi (y := nI ((gmob τ) + 1)) (by rw [hs_ob_ob]) ?_
              refine lv_iconst (v := nI 1) E.1.1 E.1.2.1 dX4_makes_102 rfl ?_
              refine nv_isub (by omega) E dX4_makes_103 ?_
              exact CM.reti E hr hlk hA (by unfold maF; rw [if_neg (by intro z; first | exact absurd (h1.symm.trans z.1) (by decide) | exact h14 z.2), ← hτ]; unfold mk1; have e9 : k = 3 := (by omega); subst e9; exact hP) hS (by unfold maR; rw [if_neg (by intro z; first | exact absurd (h1.symm.trans z.1) (by decide) | exact h14 z.2), ho9]; rfl) dX4_makes_104
            · exact absurd h51 (by omega)
          | succ n ih49 =>
            intro k H locs ls hk hP hS hl
            refine lv_iload_n E.1.1 E.1.2.1 dX4_makes_49 rfl (lv_at hl 3 rfl) ?_
            refine lv_iconst (v := nI 3) E.1.1 E.1.2.1 dX4_makes_50 rfl ?_
            refine nv_icmp_ge (by omega) (by omega) E dX4_makes_51 (tgt := 88) (by decide) (fun h51 => ?_) (fun h51 => ?_)
            · exact absurd h51 (by omega)
            · refine lv_aload_n E.1.1 E.1.2.1 dX4_makes_54 rfl (lv_at hl 0 rfl) ?_
              refine gt_X4_fieldIs E fl_X4_42 hP dX4_makes_55 ?_
              refine lv_iconst (v := nI 3) E.1.1 E.1.2.1 dX4_makes_58 rfl ?_
              refine lv_aload_n E.1.1 E.1.2.1 dX4_makes_59 rfl (lv_at hl 0 rfl) ?_
              refine gt_X4_objects E fl_X4_122 hP dX4_makes_60 ?_
              refine tpi (y := nI (gmob τ)) (by rw [hs_ob_fV, hs_ob_fI]) ?_
              refine nv_imul E dX4_makes_63 ?_
              refine lv_iload_n E.1.1 E.1.2.1 dX4_makes_64 rfl (lv_at hl 3 rfl) ?_
              refine nv_iadd E dX4_makes_65 ?_
              refine lv_iconst (v := nI 0) E.1.1 E.1.2.1 dX4_makes_66 rfl ?_
              refine as_MS_fI (i := (3 * (gmob τ)) + k) (v := false) E hP hD hS (by omega) dX4_makes_67 (fun H locs hP hS => ?_)
              have hP : va_P D vwCl (wR ad cI cJ cZ (smfI (smfV (smfI τ (genF (gmfI τ) (3 * gmob τ) (3 * gmob τ + k) (fun _ => false))) (genF (gmfV τ) (3 * gmob τ) (3 * gmob τ + k) (fun _ => 0))) (va_up (genF (gmfI τ) (3 * gmob τ) (3 * gmob τ + k) (fun _ => false)) ((3 * (gmob τ)) + k) false))) H := by have q9 := hP; rw [hs_fI_fV, hs_fI_fI] at q9; exact q9
              refine lv_aload_n E.1.1 E.1.2.1 dX4_makes_68 rfl (lv_at hl 0 rfl) ?_
              refine gt_X4_field E fl_X4_45 hP dX4_makes_69 ?_
              refine lv_iconst (v := nI 3) E.1.1 E.1.2.1 dX4_makes_72 rfl ?_
              refine lv_aload_n E.1.1 E.1.2.1 dX4_makes_73 rfl (lv_at hl 0 rfl) ?_
              refine gt_X4_objects E fl_X4_122 hP dX4_makes_74 ?_
              refine tpi (y := nI (gmob τ)) (by rw [hs_ob_fI, hs_ob_fV, hs_ob_fI]) ?_
              refine nv_imul E dX4_makes_77 ?_
              refine lv_iload_n E.1.1 E.1.2.1 dX4_makes_78 rfl (lv_at hl 3 rfl) ?_
              refine nv_iadd E dX4_makes_79 ?_
              refine lv_iconst (v := nI 0) E.1.1 E.1.2.1 dX4_makes_80 rfl ?_
              refine as_MS_fV (i := (3 * (gmob τ)) + k) (v := nI 0) E hP hD hS (by omega) dX4_makes_81 (fun H locs hP hS => ?_)
              have hP : va_P D vwCl (wR ad cI cJ cZ (smfV (smfI (smfV (smfI τ (genF (gmfI τ) (3 * gmob τ) (3 * gmob τ + k) (fun _ => false))) (genF (gmfV τ) (3 * gmob τ) (3 * gmob τ + k) (fun _ => 0))) (va_up (genF (gmfI τ) (3 * gmob τ) (3 * gmob τ + k) (fun _ => false)) ((3 * (gmob τ)) + k) false)) (va_up (genF (gmfV τ) (3 * gmob τ) (3 * gmob τ + k) (fun _ => 0)) ((3 * (gmob τ)) + k) (nI 0)))) H := by have q9 := hP; rw [hs_fV_fI, hs_fV_fV] at q9; exact q9
              refine lv_iinc (v := nI (k + 1)) (lv' := [(3, .int (nI (k + 1))), (0, .ref (ad 0)), (1, .int (nI t)), (2, .int (bI b))]) E.1.1 E.1.2.1 dX4_makes_82 hl (k := 3) rfl (nI_add k 1) (by decide) rfl (fun ls hl => ?_)
              refine lv_goto (tgt := 49) E.1.1 E.1.2.1 dX4_makes_85 (by decide) ?_
              exact ih49 (k + 1) _ _ _ (by omega) (by rw [← genF_up (gmfI τ) (3 * gmob τ) k (fun _ => false) rfl, ← genF_up (gmfV τ) (3 * gmob τ) k (fun _ => 0) rfl]; have q9 := hP; rw [sw_fI_fV, tt_fI, tt_fV] at q9; exact q9) hS (lv_sub hl [1, 2, 3, 0] rfl)
        exact LP49 3 0 _ _ _ (by omega) (by rw [genF_0, genF_0]; exact hP) hS (lv_sub hl [1, 2, 3, 0] rfl)
    · refine lv_iconst (v := -1) E.1.1 E.1.2.1 dX4_makes_17 rfl ?_
      exact CM.reti E hr hlk hA (by unfold maF; rw [if_pos ⟨h1, h14⟩]; exact hP) hS (by unfold maR; rw [if_pos ⟨h1, h14⟩]; rfl) dX4_makes_18
set_option maxRecDepth 100000 in
set_option maxHeartbeats 400000 in
theorem c_X4_enters (l : Launch) (D : va_G) (cI cJ cZ : ClassId) (ad : Nat → Nat) (σ : MS) (b : Nat) (v : Int32) (x : Bool) (w : Int32) (g : Nat)  (hf : gmfr σ < 13) (h5 : gmct σ 5 ≤ 12) : CM l D (t3 cI cJ cZ) yX4_enters cX4_enters 8 none 0 [.ref (ad 0), .int (nI b), .int v, .int (bI x), .int w, .int (nI g)] (wR ad cI cJ cZ σ) (none) (wR ad cI cJ cZ (esF b v x w g σ)) := by
  refine CM.of (by decide) (Nat.le_of_ble_eq_true rfl) ?_
  intro p e s m below meth c A ls E hr hlk hP hD0 hA hA2 hS hl
  have hD := wR_D hD0
  have hl : lv_has ls 8 [(0, .ref (ad 0)), (1, .int (nI b)), (2, .int v), (3, .int (bI x)), (4, .int w), (5, .int (nI g))] := hl
  refine lv_bipush (v := nI 6) E.1.1 E.1.2.1 dX4_enters_0 rfl ?_
  refine lv_aload_n E.1.1 E.1.2.1 dX4_enters_2 rfl (lv_at hl 0 rfl) ?_
  refine gt_X4_frames E fl_X4_125 hP dX4_enters_3 ?_
  refine nv_imul E dX4_enters_6 ?_
  refine lv_istore (lv' := [(6, .int (nI (6 * (gmfr σ)))), (0, .ref (ad 0)), (1, .int (nI b)), (2, .int v), (3, .int (bI x)), (4, .int w), (5, .int (nI g))]) E.1.1 E.1.2.1 dX4_enters_7 hl (by decide) rfl (fun ls hl => ?_)
  refine lv_iconst (v := nI 0) E.1.1 E.1.2.1 dX4_enters_9 rfl ?_
  refine lv_istore (lv' := [(7, .int (nI 0)), (6, .int (nI (6 * (gmfr σ)))), (0, .ref (ad 0)), (1, .int (nI b)), (2, .int v), (3, .int (bI x)), (4, .int w), (5, .int (nI g))]) E.1.1 E.1.2.1 dX4_enters_10 hl (by decide) rfl (fun ls hl => ?_)
  have LP12 : ∀ (n : Nat) (k : Nat) (H : Heap) (locs : List Loc) (ls : Array Slot), (k + n = 6) → va_P D vwCl (wR ad cI cJ cZ (smva (smis σ (genF (gmis σ) (6 * gmfr σ) (6 * gmfr σ + k) (eI x))) (genF (gmva σ) (6 * gmfr σ) (6 * gmfr σ + k) (eV v w)))) H → va_S A s.heap H locs → lv_has ls 8 [(0, .ref (ad 0)), (1, .int (nI b)), (2, .int v), (3, .int (bI x)), (4, .int w), (5, .int (nI g)), (6, .int (nI (6 * gmfr σ))), (7, .int (nI k))] → W p l e { frames := 0, cells := 0, slots := 0, locals := 40 * 0 } s m [.ref (ad 0), .int (nI b), .int v, .int (bI x), .int w, .int (nI g)].toArray below meth c H locs 0 0 (MQ below (Qcm D (wR ad cI cJ cZ σ) s.heap.size (none) (wR ad cI cJ cZ (esF b v x w g σ))) [.ref (ad 0), .int (nI b), .int v, .int (bI x), .int w, .int (nI g)].toArray s 0 0 A) (F0 m 12 ls []) := by
    intro n
    induction n with
    | zero =>
      intro k H locs ls hk hP hS hl
      refine lv_iload E.1.1 E.1.2.1 dX4_enters_12 (lv_at hl 7 rfl) ?_
      refine lv_bipush (v := nI 6) E.1.1 E.1.2.1 dX4_enters_14 rfl ?_
      refine nv_icmp_ge (by omega) (by omega) E dX4_enters_16 (tgt := 86) (by decide) (fun h16 => ?_) (fun h16 => ?_)
      · obtain ⟨τ, hτ⟩ : ∃ z, z = es1 v x w σ := ⟨_, rfl⟩
        have hm9 : (smva (smis σ (genF (gmis σ) (6 * gmfr σ) (6 * gmfr σ + k) (eI x))) (genF (gmva σ) (6 * gmfr σ) (6 * gmfr σ + k) (eV v w))) = τ := by rw [hτ, es1, show k = 6 from (by omega)]
        rw [hm9] at hP
        have hP : va_P D vwCl (wR ad cI cJ cZ τ) H := hP
        have hf9 : gmfr τ = gmfr σ := by rw [hτ, es1, hs_fr_va, hs_fr_is]
        have hc9 : gmct τ = gmct σ := by rw [hτ, es1, hs_ct_va, hs_ct_is]
        refine lv_aload_n E.1.1 E.1.2.1 dX4_enters_86 rfl (lv_at hl 0 rfl) ?_
        refine gt_X4_body E fl_X4_48 hP dX4_enters_87 ?_
        refine lv_aload_n E.1.1 E.1.2.1 dX4_enters_90 rfl (lv_at hl 0 rfl) ?_
        refine gt_X4_frames E fl_X4_125 hP dX4_enters_91 ?_
        refine lv_iload_n E.1.1 E.1.2.1 dX4_enters_94 rfl (lv_at hl 1 rfl) ?_
        refine as_MS_bo (i := gmfr τ) (v := b) E hP hD hS (by omega) dX4_enters_95 (fun H locs hP hS => ?_)
        refine lv_aload_n E.1.1 E.1.2.1 dX4_enters_96 rfl (lv_at hl 0 rfl) ?_
        refine gt_X4_place E fl_X4_51 hP dX4_enters_97 ?_
        refine lv_aload_n E.1.1 E.1.2.1 dX4_enters_100 rfl (lv_at hl 0 rfl) ?_
        refine gt_X4_frames E fl_X4_125 hP dX4_enters_101 ?_
        refine tpi (y := nI (gmfr τ)) (by rw [hs_fr_bo]) ?_
        refine lv_iconst (v := nI 0) E.1.1 E.1.2.1 dX4_enters_104 rfl ?_
        refine as_MS_pl (i := gmfr τ) (v := 0) E hP hD hS (by omega) dX4_enters_105 (fun H locs hP hS => ?_)
        have hP : va_P D vwCl (wR ad cI cJ cZ (smpl (smbo τ (va_up (gmbo τ) (gmfr τ) b)) (va_up (gmpl τ) (gmfr τ) 0))) H := by have q9 := hP; rw [hs_pl_bo] at q9; exact q9
        refine lv_aload_n E.1.1 E.1.2.1 dX4_enters_106 rfl (lv_at hl 0 rfl) ?_
        refine gt_X4_wants E fl_X4_54 hP dX4_enters_107 ?_
        refine lv_aload_n E.1.1 E.1.2.1 dX4_enters_110 rfl (lv_at hl 0 rfl) ?_
        refine gt_X4_frames E fl_X4_125 hP dX4_enters_111 ?_
        refine tpi (y := nI (gmfr τ)) (by rw [hs_fr_pl, hs_fr_bo]) ?_
        refine lv_iload E.1.1 E.1.2.1 dX4_enters_114 (lv_at hl 5 rfl) ?_
        refine as_MS_wa (i := gmfr τ) (v := g) E hP hD hS (by omega) dX4_enters_116 (fun H locs hP hS => ?_)
        have hP : va_P D vwCl (wR ad cI cJ cZ (smwa (smpl (smbo τ (va_up (gmbo τ) (gmfr τ) b)) (va_up (gmpl τ) (gmfr τ) 0)) (va_up (gmwa τ) (gmfr τ) g))) H := by have q9 := hP; rw [hs_wa_pl, hs_wa_bo] at q9; exact q9
        refine lv_aload_n E.1.1 E.1.2.1 dX4_enters_117 rfl (lv_at hl 0 rfl) ?_
        refine lv_dup E.1.1 E.1.2.1 dX4_enters_118 rfl ?_
        refine gt_X4_frames E fl_X4_125 hP dX4_enters_119 ?_
        refine tpi (y := nI (gmfr τ)) (by rw [hs_fr_wa, hs_fr_pl, hs_fr_bo]) ?_
        refine lv_iconst (v := nI 1) E.1.1 E.1.2.1 dX4_enters_122 rfl ?_
        refine nv_iadd E dX4_enters_123 ?_
        refine pt_X4_frames (v := (gmfr τ) + 1) E fl_X4_125 hP hD hS dX4_enters_124 (fun H locs hP hS => ?_)
        obtain ⟨τ2, hτ2⟩ : ∃ z, z = es2 b g τ := ⟨_, rfl⟩
        have hm8 : (smfr (smwa (smpl (smbo τ (va_up (gmbo τ) (gmfr τ) b)) (va_up (gmpl τ) (gmfr τ) 0)) (va_up (gmwa τ) (gmfr τ) g)) ((gmfr τ) + 1)) = τ2 := by rw [hτ2, es2]
        rw [hm8] at hP
        have hP : va_P D vwCl (wR ad cI cJ cZ τ2) H := hP
        have hf8 : gmfr τ2 = gmfr σ + 1 := by rw [hτ2, es2, hs_fr_fr, hf9]
        have hc8 : gmct τ2 = gmct σ := by rw [hτ2, es2, hs_ct_fr, hs_ct_wa, hs_ct_pl, hs_ct_bo, hc9]
        refine lv_aload_n E.1.1 E.1.2.1 dX4_enters_127 rfl (lv_at hl 0 rfl) ?_
        refine gt_X4_frames E fl_X4_125 hP dX4_enters_128 ?_
        refine lv_aload_n E.1.1 E.1.2.1 dX4_enters_131 rfl (lv_at hl 0 rfl) ?_
        refine gt_X4_counts E fl_X4_66 hP dX4_enters_132 ?_
        refine lv_iconst (v := nI 5) E.1.1 E.1.2.1 dX4_enters_135 rfl ?_
        refine ld_MS_ct (i := 5) E hP (by omega) dX4_enters_136 ?_
        refine nv_icmp_le (by omega) (by rw [hc8]; omega) E dX4_enters_137 (tgt := 150) (by decide) (fun h137 => ?_) (fun h137 => ?_)
        · exact CM.retv E hr hlk hA (by unfold esF; rw [← hτ, ← hτ2]; unfold es3; first | (rw [if_pos h137]; exact hP) | (rw [if_neg (by omega)]; exact hP)) hS rfl dX4_enters_150
        · refine lv_aload_n E.1.1 E.1.2.1 dX4_enters_140 rfl (lv_at hl 0 rfl) ?_
          refine gt_X4_counts E fl_X4_66 hP dX4_enters_141 ?_
          refine lv_iconst (v := nI 5) E.1.1 E.1.2.1 dX4_enters_144 rfl ?_
          refine lv_aload_n E.1.1 E.1.2.1 dX4_enters_145 rfl (lv_at hl 0 rfl) ?_
          refine gt_X4_frames E fl_X4_125 hP dX4_enters_146 ?_
          refine as_MS_ct (i := 5) (v := gmfr τ2) E hP hD hS (by omega) dX4_enters_149 (fun H locs hP hS => ?_)
          exact CM.retv E hr hlk hA (by unfold esF; rw [← hτ, ← hτ2]; unfold es3; first | (rw [if_pos h137]; exact hP) | (rw [if_neg (by omega)]; exact hP)) hS rfl dX4_enters_150
      · exact absurd h16 (by omega)
    | succ n ih12 =>
      intro k H locs ls hk hP hS hl
      refine lv_iload E.1.1 E.1.2.1 dX4_enters_12 (lv_at hl 7 rfl) ?_
      refine lv_bipush (v := nI 6) E.1.1 E.1.2.1 dX4_enters_14 rfl ?_
      refine nv_icmp_ge (by omega) (by omega) E dX4_enters_16 (tgt := 86) (by decide) (fun h16 => ?_) (fun h16 => ?_)
      · exact absurd h16 (by omega)
      · refine lv_aload_n E.1.1 E.1.2.1 dX4_enters_19 rfl (lv_at hl 0 rfl) ?_
        refine gt_X4_is E fl_X4_57 hP dX4_enters_20 ?_
        refine lv_iload E.1.1 E.1.2.1 dX4_enters_23 (lv_at hl 6 rfl) ?_
        refine lv_iload E.1.1 E.1.2.1 dX4_enters_25 (lv_at hl 7 rfl) ?_
        refine nv_iadd E dX4_enters_27 ?_
        refine lv_iload E.1.1 E.1.2.1 dX4_enters_28 (lv_at hl 7 rfl) ?_
        refine nv_if_eq (by omega) E dX4_enters_30 (tgt := 43) (by decide) (fun h30 => ?_) (fun h30 => ?_)
        · refine lv_iconst (v := nI 1) E.1.1 E.1.2.1 dX4_enters_43 rfl ?_
          refine lv_goto (tgt := 48) E.1.1 E.1.2.1 dX4_enters_44 (by decide) ?_
          refine as_MS_is (i := (6 * gmfr σ) + k) (v := true) E hP hD hS (by omega) dX4_enters_48 (fun H locs hP hS => ?_)
          have hP : va_P D vwCl (wR ad cI cJ cZ (smis (smva (smis σ (genF (gmis σ) (6 * gmfr σ) (6 * gmfr σ + k) (eI x))) (genF (gmva σ) (6 * gmfr σ) (6 * gmfr σ + k) (eV v w))) (va_up (genF (gmis σ) (6 * gmfr σ) (6 * gmfr σ + k) (eI x)) ((6 * gmfr σ) + k) true))) H := by have q9 := hP; rw [hs_is_va, hs_is_is] at q9; exact q9
          refine lv_aload_n E.1.1 E.1.2.1 dX4_enters_49 rfl (lv_at hl 0 rfl) ?_
          refine gt_X4_value E fl_X4_60 hP dX4_enters_50 ?_
          refine lv_iload E.1.1 E.1.2.1 dX4_enters_53 (lv_at hl 6 rfl) ?_
          refine lv_iload E.1.1 E.1.2.1 dX4_enters_55 (lv_at hl 7 rfl) ?_
          refine nv_iadd E dX4_enters_57 ?_
          refine lv_iload E.1.1 E.1.2.1 dX4_enters_58 (lv_at hl 7 rfl) ?_
          refine nv_if_ne (by omega) E dX4_enters_60 (tgt := 67) (by decide) (fun h60 => ?_) (fun h60 => ?_)
          · refine lv_iload E.1.1 E.1.2.1 dX4_enters_67 (lv_at hl 7 rfl) ?_
            refine lv_iconst (v := nI 1) E.1.1 E.1.2.1 dX4_enters_69 rfl ?_
            refine nv_icmp_ne (by omega) (by omega) E dX4_enters_70 (tgt := 78) (by decide) (fun h70 => ?_) (fun h70 => ?_)
            · refine lv_iconst (v := nI 0) E.1.1 E.1.2.1 dX4_enters_78 rfl ?_
              refine as_MS_va (i := (6 * gmfr σ) + k) (v := nI 0) E hP hD hS (by omega) dX4_enters_79 (fun H locs hP hS => ?_)
              have hP : va_P D vwCl (wR ad cI cJ cZ (smva (smis (smva (smis σ (genF (gmis σ) (6 * gmfr σ) (6 * gmfr σ + k) (eI x))) (genF (gmva σ) (6 * gmfr σ) (6 * gmfr σ + k) (eV v w))) (va_up (genF (gmis σ) (6 * gmfr σ) (6 * gmfr σ + k) (eI x)) ((6 * gmfr σ) + k) true)) (va_up (genF (gmva σ) (6 * gmfr σ) (6 * gmfr σ + k) (eV v w)) ((6 * gmfr σ) + k) (nI 0)))) H := by have q9 := hP; rw [hs_va_is, hs_va_va] at q9; exact q9
              refine lv_iinc (v := nI (k + 1)) (lv' := [(7, .int (nI (k + 1))), (0, .ref (ad 0)), (1, .int (nI b)), (2, .int v), (3, .int (bI x)), (4, .int w), (5, .int (nI g)), (6, .int (nI (6 * gmfr σ)))]) E.1.1 E.1.2.1 dX4_enters_80 hl (k := 7) rfl (nI_add k 1) (by decide) rfl (fun ls hl => ?_)
              refine lv_goto (tgt := 12) E.1.1 E.1.2.1 dX4_enters_83 (by decide) ?_
              exact ih12 (k + 1) _ _ _ (by omega) (by rw [← genF_up (gmis σ) (6 * gmfr σ) k (eI x) (v := true) (by first | (exfalso; omega) | (rw [h30]; rfl) | (rw [h36, h40]; rfl) | (simp [eI, h36]; omega)), ← genF_up (gmva σ) (6 * gmfr σ) k (eV v w) (v := (nI 0)) (by first | (exfalso; omega) | (rw [h60]; rfl) | (rw [h70]; rfl) | (unfold eV; rw [if_neg (by omega), if_neg h70]; rfl))]; have q9 := hP; rw [sw_is_va, tt_is, tt_va] at q9; exact q9) hS (lv_sub hl [1, 2, 3, 4, 5, 6, 7, 0] rfl)
            · refine lv_iload E.1.1 E.1.2.1 dX4_enters_73 (lv_at hl 4 rfl) ?_
              refine lv_goto (tgt := 79) E.1.1 E.1.2.1 dX4_enters_75 (by decide) ?_
              refine as_MS_va (i := (6 * gmfr σ) + k) (v := w) E hP hD hS (by omega) dX4_enters_79 (fun H locs hP hS => ?_)
              have hP : va_P D vwCl (wR ad cI cJ cZ (smva (smis (smva (smis σ (genF (gmis σ) (6 * gmfr σ) (6 * gmfr σ + k) (eI x))) (genF (gmva σ) (6 * gmfr σ) (6 * gmfr σ + k) (eV v w))) (va_up (genF (gmis σ) (6 * gmfr σ) (6 * gmfr σ + k) (eI x)) ((6 * gmfr σ) + k) true)) (va_up (genF (gmva σ) (6 * gmfr σ) (6 * gmfr σ + k) (eV v w)) ((6 * gmfr σ) + k) w))) H := by have q9 := hP; rw [hs_va_is, hs_va_va] at q9; exact q9
              refine lv_iinc (v := nI (k + 1)) (lv' := [(7, .int (nI (k + 1))), (0, .ref (ad 0)), (1, .int (nI b)), (2, .int v), (3, .int (bI x)), (4, .int w), (5, .int (nI g)), (6, .int (nI (6 * gmfr σ)))]) E.1.1 E.1.2.1 dX4_enters_80 hl (k := 7) rfl (nI_add k 1) (by decide) rfl (fun ls hl => ?_)
              refine lv_goto (tgt := 12) E.1.1 E.1.2.1 dX4_enters_83 (by decide) ?_
              exact ih12 (k + 1) _ _ _ (by omega) (by rw [← genF_up (gmis σ) (6 * gmfr σ) k (eI x) (v := true) (by first | (exfalso; omega) | (rw [h30]; rfl) | (rw [h36, h40]; rfl) | (simp [eI, h36]; omega)), ← genF_up (gmva σ) (6 * gmfr σ) k (eV v w) (v := w) (by first | (exfalso; omega) | (rw [h60]; rfl) | (rw [h70]; rfl) | (unfold eV; rw [if_neg (by omega), if_neg h70]; rfl))]; have q9 := hP; rw [sw_is_va, tt_is, tt_va] at q9; exact q9) hS (lv_sub hl [1, 2, 3, 4, 5, 6, 7, 0] rfl)
          · refine lv_iload_n E.1.1 E.1.2.1 dX4_enters_63 rfl (lv_at hl 2 rfl) ?_
            refine lv_goto (tgt := 79) E.1.1 E.1.2.1 dX4_enters_64 (by decide) ?_
            refine as_MS_va (i := (6 * gmfr σ) + k) (v := v) E hP hD hS (by omega) dX4_enters_79 (fun H locs hP hS => ?_)
            have hP : va_P D vwCl (wR ad cI cJ cZ (smva (smis (smva (smis σ (genF (gmis σ) (6 * gmfr σ) (6 * gmfr σ + k) (eI x))) (genF (gmva σ) (6 * gmfr σ) (6 * gmfr σ + k) (eV v w))) (va_up (genF (gmis σ) (6 * gmfr σ) (6 * gmfr σ + k) (eI x)) ((6 * gmfr σ) + k) true)) (va_up (genF (gmva σ) (6 * gmfr σ) (6 * gmfr σ + k) (eV v w)) ((6 * gmfr σ) + k) v))) H := by have q9 := hP; rw [hs_va_is, hs_va_va] at q9; exact q9
            refine lv_iinc (v := nI (k + 1)) (lv' := [(7, .int (nI (k + 1))), (0, .ref (ad 0)), (1, .int (nI b)), (2, .int v), (3, .int (bI x)), (4, .int w), (5, .int (nI g)), (6, .int (nI (6 * gmfr σ)))]) E.1.1 E.1.2.1 dX4_enters_80 hl (k := 7) rfl (nI_add k 1) (by decide) rfl (fun ls hl => ?_)
            refine lv_goto (tgt := 12) E.1.1 E.1.2.1 dX4_enters_83 (by decide) ?_
            exact ih12 (k + 1) _ _ _ (by omega) (by rw [← genF_up (gmis σ) (6 * gmfr σ) k (eI x) (v := true) (by first | (exfalso; omega) | (rw [h30]; rfl) | (rw [h36, h40]; rfl) | (simp [eI, h36]; omega)), ← genF_up (gmva σ) (6 * gmfr σ) k (eV v w) (v := v) (by first | (exfalso; omega) | (rw [h60]; rfl) | (rw [h70]; rfl) | (unfold eV; rw [if_neg (by omega), if_neg h70]; rfl))]; have q9 := hP; rw [sw_is_va, tt_is, tt_va] at q9; exact q9) hS (lv_sub hl [1, 2, 3, 4, 5, 6, 7, 0] rfl)
        · refine lv_iload E.1.1 E.1.2.1 dX4_enters_33 (lv_at hl 7 rfl) ?_
          refine lv_iconst (v := nI 1) E.1.1 E.1.2.1 dX4_enters_35 rfl ?_
          refine nv_icmp_ne (by omega) (by omega) E dX4_enters_36 (tgt := 47) (by decide) (fun h36 => ?_) (fun h36 => ?_)
          · refine lv_iconst (v := nI 0) E.1.1 E.1.2.1 dX4_enters_47 rfl ?_
            refine as_MS_is (i := (6 * gmfr σ) + k) (v := false) E hP hD hS (by omega) dX4_enters_48 (fun H locs hP hS => ?_)
            have hP : va_P D vwCl (wR ad cI cJ cZ (smis (smva (smis σ (genF (gmis σ) (6 * gmfr σ) (6 * gmfr σ + k) (eI x))) (genF (gmva σ) (6 * gmfr σ) (6 * gmfr σ + k) (eV v w))) (va_up (genF (gmis σ) (6 * gmfr σ) (6 * gmfr σ + k) (eI x)) ((6 * gmfr σ) + k) false))) H := by have q9 := hP; rw [hs_is_va, hs_is_is] at q9; exact q9
            refine lv_aload_n E.1.1 E.1.2.1 dX4_enters_49 rfl (lv_at hl 0 rfl) ?_
            refine gt_X4_value E fl_X4_60 hP dX4_enters_50 ?_
            refine lv_iload E.1.1 E.1.2.1 dX4_enters_53 (lv_at hl 6 rfl) ?_
            refine lv_iload E.1.1 E.1.2.1 dX4_enters_55 (lv_at hl 7 rfl) ?_
            refine nv_iadd E dX4_enters_57 ?_
            refine lv_iload E.1.1 E.1.2.1 dX4_enters_58 (lv_at hl 7 rfl) ?_
            refine nv_if_ne (by omega) E dX4_enters_60 (tgt := 67) (by decide) (fun h60 => ?_) (fun h60 => ?_)
            · refine lv_iload E.1.1 E.1.2.1 dX4_enters_67 (lv_at hl 7 rfl) ?_
              refine lv_iconst (v := nI 1) E.1.1 E.1.2.1 dX4_enters_69 rfl ?_
              refine nv_icmp_ne (by omega) (by omega) E dX4_enters_70 (tgt := 78) (by decide) (fun h70 => ?_) (fun h70 => ?_)
              · refine lv_iconst (v := nI 0) E.1.1 E.1.2.1 dX4_enters_78 rfl ?_
                refine as_MS_va (i := (6 * gmfr σ) + k) (v := nI 0) E hP hD hS (by omega) dX4_enters_79 (fun H locs hP hS => ?_)
                have hP : va_P D vwCl (wR ad cI cJ cZ (smva (smis (smva (smis σ (genF (gmis σ) (6 * gmfr σ) (6 * gmfr σ + k) (eI x))) (genF (gmva σ) (6 * gmfr σ) (6 * gmfr σ + k) (eV v w))) (va_up (genF (gmis σ) (6 * gmfr σ) (6 * gmfr σ + k) (eI x)) ((6 * gmfr σ) + k) false)) (va_up (genF (gmva σ) (6 * gmfr σ) (6 * gmfr σ + k) (eV v w)) ((6 * gmfr σ) + k) (nI 0)))) H := by have q9 := hP; rw [hs_va_is, hs_va_va] at q9; exact q9
                refine lv_iinc (v := nI (k + 1)) (lv' := [(7, .int (nI (k + 1))), (0, .ref (ad 0)), (1, .int (nI b)), (2, .int v), (3, .int (bI x)), (4, .int w), (5, .int (nI g)), (6, .int (nI (6 * gmfr σ)))]) E.1.1 E.1.2.1 dX4_enters_80 hl (k := 7) rfl (nI_add k 1) (by decide) rfl (fun ls hl => ?_)
                refine lv_goto (tgt := 12) E.1.1 E.1.2.1 dX4_enters_83 (by decide) ?_
                exact ih12 (k + 1) _ _ _ (by omega) (by rw [← genF_up (gmis σ) (6 * gmfr σ) k (eI x) (v := false) (by first | (exfalso; omega) | (rw [h30]; rfl) | (rw [h36, h40]; rfl) | (simp [eI, h36]; omega)), ← genF_up (gmva σ) (6 * gmfr σ) k (eV v w) (v := (nI 0)) (by first | (exfalso; omega) | (rw [h60]; rfl) | (rw [h70]; rfl) | (unfold eV; rw [if_neg (by omega), if_neg h70]; rfl))]; have q9 := hP; rw [sw_is_va, tt_is, tt_va] at q9; exact q9) hS (lv_sub hl [1, 2, 3, 4, 5, 6, 7, 0] rfl)
              · refine lv_iload E.1.1 E.1.2.1 dX4_enters_73 (lv_at hl 4 rfl) ?_
                refine lv_goto (tgt := 79) E.1.1 E.1.2.1 dX4_enters_75 (by decide) ?_
                refine as_MS_va (i := (6 * gmfr σ) + k) (v := w) E hP hD hS (by omega) dX4_enters_79 (fun H locs hP hS => ?_)
                have hP : va_P D vwCl (wR ad cI cJ cZ (smva (smis (smva (smis σ (genF (gmis σ) (6 * gmfr σ) (6 * gmfr σ + k) (eI x))) (genF (gmva σ) (6 * gmfr σ) (6 * gmfr σ + k) (eV v w))) (va_up (genF (gmis σ) (6 * gmfr σ) (6 * gmfr σ + k) (eI x)) ((6 * gmfr σ) + k) false)) (va_up (genF (gmva σ) (6 * gmfr σ) (6 * gmfr σ + k) (eV v w)) ((6 * gmfr σ) + k) w))) H := by have q9 := hP; rw [hs_va_is, hs_va_va] at q9; exact q9
                refine lv_iinc (v := nI (k + 1)) (lv' := [(7, .int (nI (k + 1))), (0, .ref (ad 0)), (1, .int (nI b)), (2, .int v), (3, .int (bI x)), (4, .int w), (5, .int (nI g)), (6, .int (nI (6 * gmfr σ)))]) E.1.1 E.1.2.1 dX4_enters_80 hl (k := 7) rfl (nI_add k 1) (by decide) rfl (fun ls hl => ?_)
                refine lv_goto (tgt := 12) E.1.1 E.1.2.1 dX4_enters_83 (by decide) ?_
                exact ih12 (k + 1) _ _ _ (by omega) (by rw [← genF_up (gmis σ) (6 * gmfr σ) k (eI x) (v := false) (by first | (exfalso; omega) | (rw [h30]; rfl) | (rw [h36, h40]; rfl) | (simp [eI, h36]; omega)), ← genF_up (gmva σ) (6 * gmfr σ) k (eV v w) (v := w) (by first | (exfalso; omega) | (rw [h60]; rfl) | (rw [h70]; rfl) | (unfold eV; rw [if_neg (by omega), if_neg h70]; rfl))]; have q9 := hP; rw [sw_is_va, tt_is, tt_va] at q9; exact q9) hS (lv_sub hl [1, 2, 3, 4, 5, 6, 7, 0] rfl)
            · refine lv_iload_n E.1.1 E.1.2.1 dX4_enters_63 rfl (lv_at hl 2 rfl) ?_
              refine lv_goto (tgt := 79) E.1.1 E.1.2.1 dX4_enters_64 (by decide) ?_
              refine as_MS_va (i := (6 * gmfr σ) + k) (v := v) E hP hD hS (by omega) dX4_enters_79 (fun H locs hP hS => ?_)
              have hP : va_P D vwCl (wR ad cI cJ cZ (smva (smis (smva (smis σ (genF (gmis σ) (6 * gmfr σ) (6 * gmfr σ + k) (eI x))) (genF (gmva σ) (6 * gmfr σ) (6 * gmfr σ + k) (eV v w))) (va_up (genF (gmis σ) (6 * gmfr σ) (6 * gmfr σ + k) (eI x)) ((6 * gmfr σ) + k) false)) (va_up (genF (gmva σ) (6 * gmfr σ) (6 * gmfr σ + k) (eV v w)) ((6 * gmfr σ) + k) v))) H := by have q9 := hP; rw [hs_va_is, hs_va_va] at q9; exact q9
              refine lv_iinc (v := nI (k + 1)) (lv' := [(7, .int (nI (k + 1))), (0, .ref (ad 0)), (1, .int (nI b)), (2, .int v), (3, .int (bI x)), (4, .int w), (5, .int (nI g)), (6, .int (nI (6 * gmfr σ)))]) E.1.1 E.1.2.1 dX4_enters_80 hl (k := 7) rfl (nI_add k 1) (by decide) rfl (fun ls hl => ?_)
              refine lv_goto (tgt := 12) E.1.1 E.1.2.1 dX4_enters_83 (by decide) ?_
              exact ih12 (k + 1) _ _ _ (by omega) (by rw [← genF_up (gmis σ) (6 * gmfr σ) k (eI x) (v := false) (by first | (exfalso; omega) | (rw [h30]; rfl) | (rw [h36, h40]; rfl) | (simp [eI, h36]; omega)), ← genF_up (gmva σ) (6 * gmfr σ) k (eV v w) (v := v) (by first | (exfalso; omega) | (rw [h60]; rfl) | (rw [h70]; rfl) | (unfold eV; rw [if_neg (by omega), if_neg h70]; rfl))]; have q9 := hP; rw [sw_is_va, tt_is, tt_va] at q9; exact q9) hS (lv_sub hl [1, 2, 3, 4, 5, 6, 7, 0] rfl)
          · refine lv_iload_n E.1.1 E.1.2.1 dX4_enters_39 rfl (lv_at hl 3 rfl) ?_
            refine bv_if_eq (x := x) E dX4_enters_40 (tgt := 47) (by decide) (fun h40 => ?_) (fun h40 => ?_)
            · refine lv_iconst (v := nI 0) E.1.1 E.1.2.1 dX4_enters_47 rfl ?_
              refine as_MS_is (i := (6 * gmfr σ) + k) (v := false) E hP hD hS (by omega) dX4_enters_48 (fun H locs hP hS => ?_)
              have hP : va_P D vwCl (wR ad cI cJ cZ (smis (smva (smis σ (genF (gmis σ) (6 * gmfr σ) (6 * gmfr σ + k) (eI x))) (genF (gmva σ) (6 * gmfr σ) (6 * gmfr σ + k) (eV v w))) (va_up (genF (gmis σ) (6 * gmfr σ) (6 * gmfr σ + k) (eI x)) ((6 * gmfr σ) + k) false))) H := by have q9 := hP; rw [hs_is_va, hs_is_is] at q9; exact q9
              refine lv_aload_n E.1.1 E.1.2.1 dX4_enters_49 rfl (lv_at hl 0 rfl) ?_
              refine gt_X4_value E fl_X4_60 hP dX4_enters_50 ?_
              refine lv_iload E.1.1 E.1.2.1 dX4_enters_53 (lv_at hl 6 rfl) ?_
              refine lv_iload E.1.1 E.1.2.1 dX4_enters_55 (lv_at hl 7 rfl) ?_
              refine nv_iadd E dX4_enters_57 ?_
              refine lv_iload E.1.1 E.1.2.1 dX4_enters_58 (lv_at hl 7 rfl) ?_
              refine nv_if_ne (by omega) E dX4_enters_60 (tgt := 67) (by decide) (fun h60 => ?_) (fun h60 => ?_)
              · refine lv_iload E.1.1 E.1.2.1 dX4_enters_67 (lv_at hl 7 rfl) ?_
                refine lv_iconst (v := nI 1) E.1.1 E.1.2.1 dX4_enters_69 rfl ?_
                refine nv_icmp_ne (by omega) (by omega) E dX4_enters_70 (tgt := 78) (by decide) (fun h70 => ?_) (fun h70 => ?_)
                · refine lv_iconst (v := nI 0) E.1.1 E.1.2.1 dX4_enters_78 rfl ?_
                  refine as_MS_va (i := (6 * gmfr σ) + k) (v := nI 0) E hP hD hS (by omega) dX4_enters_79 (fun H locs hP hS => ?_)
                  have hP : va_P D vwCl (wR ad cI cJ cZ (smva (smis (smva (smis σ (genF (gmis σ) (6 * gmfr σ) (6 * gmfr σ + k) (eI x))) (genF (gmva σ) (6 * gmfr σ) (6 * gmfr σ + k) (eV v w))) (va_up (genF (gmis σ) (6 * gmfr σ) (6 * gmfr σ + k) (eI x)) ((6 * gmfr σ) + k) false)) (va_up (genF (gmva σ) (6 * gmfr σ) (6 * gmfr σ + k) (eV v w)) ((6 * gmfr σ) + k) (nI 0)))) H := by have q9 := hP; rw [hs_va_is, hs_va_va] at q9; exact q9
                  refine lv_iinc (v := nI (k + 1)) (lv' := [(7, .int (nI (k + 1))), (0, .ref (ad 0)), (1, .int (nI b)), (2, .int v), (3, .int (bI x)), (4, .int w), (5, .int (nI g)), (6, .int (nI (6 * gmfr σ)))]) E.1.1 E.1.2.1 dX4_enters_80 hl (k := 7) rfl (nI_add k 1) (by decide) rfl (fun ls hl => ?_)
                  refine lv_goto (tgt := 12) E.1.1 E.1.2.1 dX4_enters_83 (by decide) ?_
                  exact ih12 (k + 1) _ _ _ (by omega) (by rw [← genF_up (gmis σ) (6 * gmfr σ) k (eI x) (v := false) (by first | (exfalso; omega) | (rw [h30]; rfl) | (rw [h36, h40]; rfl) | (simp [eI, h36]; omega)), ← genF_up (gmva σ) (6 * gmfr σ) k (eV v w) (v := (nI 0)) (by first | (exfalso; omega) | (rw [h60]; rfl) | (rw [h70]; rfl) | (unfold eV; rw [if_neg (by omega), if_neg h70]; rfl))]; have q9 := hP; rw [sw_is_va, tt_is, tt_va] at q9; exact q9) hS (lv_sub hl [1, 2, 3, 4, 5, 6, 7, 0] rfl)
                · refine lv_iload E.1.1 E.1.2.1 dX4_enters_73 (lv_at hl 4 rfl) ?_
                  refine lv_goto (tgt := 79) E.1.1 E.1.2.1 dX4_enters_75 (by decide) ?_
                  refine as_MS_va (i := (6 * gmfr σ) + k) (v := w) E hP hD hS (by omega) dX4_enters_79 (fun H locs hP hS => ?_)
                  have hP : va_P D vwCl (wR ad cI cJ cZ (smva (smis (smva (smis σ (genF (gmis σ) (6 * gmfr σ) (6 * gmfr σ + k) (eI x))) (genF (gmva σ) (6 * gmfr σ) (6 * gmfr σ + k) (eV v w))) (va_up (genF (gmis σ) (6 * gmfr σ) (6 * gmfr σ + k) (eI x)) ((6 * gmfr σ) + k) false)) (va_up (genF (gmva σ) (6 * gmfr σ) (6 * gmfr σ + k) (eV v w)) ((6 * gmfr σ) + k) w))) H := by have q9 := hP; rw [hs_va_is, hs_va_va] at q9; exact q9
                  refine lv_iinc (v := nI (k + 1)) (lv' := [(7, .int (nI (k + 1))), (0, .ref (ad 0)), (1, .int (nI b)), (2, .int v), (3, .int (bI x)), (4, .int w), (5, .int (nI g)), (6, .int (nI (6 * gmfr σ)))]) E.1.1 E.1.2.1 dX4_enters_80 hl (k := 7) rfl (nI_add k 1) (by decide) rfl (fun ls hl => ?_)
                  refine lv_goto (tgt := 12) E.1.1 E.1.2.1 dX4_enters_83 (by decide) ?_
                  exact ih12 (k + 1) _ _ _ (by omega) (by rw [← genF_up (gmis σ) (6 * gmfr σ) k (eI x) (v := false) (by first | (exfalso; omega) | (rw [h30]; rfl) | (rw [h36, h40]; rfl) | (simp [eI, h36]; omega)), ← genF_up (gmva σ) (6 * gmfr σ) k (eV v w) (v := w) (by first | (exfalso; omega) | (rw [h60]; rfl) | (rw [h70]; rfl) | (unfold eV; rw [if_neg (by omega), if_neg h70]; rfl))]; have q9 := hP; rw [sw_is_va, tt_is, tt_va] at q9; exact q9) hS (lv_sub hl [1, 2, 3, 4, 5, 6, 7, 0] rfl)
              · refine lv_iload_n E.1.1 E.1.2.1 dX4_enters_63 rfl (lv_at hl 2 rfl) ?_
                refine lv_goto (tgt := 79) E.1.1 E.1.2.1 dX4_enters_64 (by decide) ?_
                refine as_MS_va (i := (6 * gmfr σ) + k) (v := v) E hP hD hS (by omega) dX4_enters_79 (fun H locs hP hS => ?_)
                have hP : va_P D vwCl (wR ad cI cJ cZ (smva (smis (smva (smis σ (genF (gmis σ) (6 * gmfr σ) (6 * gmfr σ + k) (eI x))) (genF (gmva σ) (6 * gmfr σ) (6 * gmfr σ + k) (eV v w))) (va_up (genF (gmis σ) (6 * gmfr σ) (6 * gmfr σ + k) (eI x)) ((6 * gmfr σ) + k) false)) (va_up (genF (gmva σ) (6 * gmfr σ) (6 * gmfr σ + k) (eV v w)) ((6 * gmfr σ) + k) v))) H := by have q9 := hP; rw [hs_va_is, hs_va_va] at q9; exact q9
                refine lv_iinc (v := nI (k + 1)) (lv' := [(7, .int (nI (k + 1))), (0, .ref (ad 0)), (1, .int (nI b)), (2, .int v), (3, .int (bI x)), (4, .int w), (5, .int (nI g)), (6, .int (nI (6 * gmfr σ)))]) E.1.1 E.1.2.1 dX4_enters_80 hl (k := 7) rfl (nI_add k 1) (by decide) rfl (fun ls hl => ?_)
                refine lv_goto (tgt := 12) E.1.1 E.1.2.1 dX4_enters_83 (by decide) ?_
                exact ih12 (k + 1) _ _ _ (by omega) (by rw [← genF_up (gmis σ) (6 * gmfr σ) k (eI x) (v := false) (by first | (exfalso; omega) | (rw [h30]; rfl) | (rw [h36, h40]; rfl) | (simp [eI, h36]; omega)), ← genF_up (gmva σ) (6 * gmfr σ) k (eV v w) (v := v) (by first | (exfalso; omega) | (rw [h60]; rfl) | (rw [h70]; rfl) | (unfold eV; rw [if_neg (by omega), if_neg h70]; rfl))]; have q9 := hP; rw [sw_is_va, tt_is, tt_va] at q9; exact q9) hS (lv_sub hl [1, 2, 3, 4, 5, 6, 7, 0] rfl)
            · refine lv_iconst (v := nI 1) E.1.1 E.1.2.1 dX4_enters_43 rfl ?_
              refine lv_goto (tgt := 48) E.1.1 E.1.2.1 dX4_enters_44 (by decide) ?_
              refine as_MS_is (i := (6 * gmfr σ) + k) (v := true) E hP hD hS (by omega) dX4_enters_48 (fun H locs hP hS => ?_)
              have hP : va_P D vwCl (wR ad cI cJ cZ (smis (smva (smis σ (genF (gmis σ) (6 * gmfr σ) (6 * gmfr σ + k) (eI x))) (genF (gmva σ) (6 * gmfr σ) (6 * gmfr σ + k) (eV v w))) (va_up (genF (gmis σ) (6 * gmfr σ) (6 * gmfr σ + k) (eI x)) ((6 * gmfr σ) + k) true))) H := by have q9 := hP; rw [hs_is_va, hs_is_is] at q9; exact q9
              refine lv_aload_n E.1.1 E.1.2.1 dX4_enters_49 rfl (lv_at hl 0 rfl) ?_
              refine gt_X4_value E fl_X4_60 hP dX4_enters_50 ?_
              refine lv_iload E.1.1 E.1.2.1 dX4_enters_53 (lv_at hl 6 rfl) ?_
              refine lv_iload E.1.1 E.1.2.1 dX4_enters_55 (lv_at hl 7 rfl) ?_
              refine nv_iadd E dX4_enters_57 ?_
              refine lv_iload E.1.1 E.1.2.1 dX4_enters_58 (lv_at hl 7 rfl) ?_
              refine nv_if_ne (by omega) E dX4_enters_60 (tgt := 67) (by decide) (fun h60 => ?_) (fun h60 => ?_)
              · refine lv_iload E.1.1 E.1.2.1 dX4_enters_67 (lv_at hl 7 rfl) ?_
                refine lv_iconst (v := nI 1) E.1.1 E.1.2.1 dX4_enters_69 rfl ?_
                refine nv_icmp_ne (by omega) (by omega) E dX4_enters_70 (tgt := 78) (by decide) (fun h70 => ?_) (fun h70 => ?_)
                · refine lv_iconst (v := nI 0) E.1.1 E.1.2.1 dX4_enters_78 rfl ?_
                  refine as_MS_va (i := (6 * gmfr σ) + k) (v := nI 0) E hP hD hS (by omega) dX4_enters_79 (fun H locs hP hS => ?_)
                  have hP : va_P D vwCl (wR ad cI cJ cZ (smva (smis (smva (smis σ (genF (gmis σ) (6 * gmfr σ) (6 * gmfr σ + k) (eI x))) (genF (gmva σ) (6 * gmfr σ) (6 * gmfr σ + k) (eV v w))) (va_up (genF (gmis σ) (6 * gmfr σ) (6 * gmfr σ + k) (eI x)) ((6 * gmfr σ) + k) true)) (va_up (genF (gmva σ) (6 * gmfr σ) (6 * gmfr σ + k) (eV v w)) ((6 * gmfr σ) + k) (nI 0)))) H := by have q9 := hP; rw [hs_va_is, hs_va_va] at q9; exact q9
                  refine lv_iinc (v := nI (k + 1)) (lv' := [(7, .int (nI (k + 1))), (0, .ref (ad 0)), (1, .int (nI b)), (2, .int v), (3, .int (bI x)), (4, .int w), (5, .int (nI g)), (6, .int (nI (6 * gmfr σ)))]) E.1.1 E.1.2.1 dX4_enters_80 hl (k := 7) rfl (nI_add k 1) (by decide) rfl (fun ls hl => ?_)
                  refine lv_goto (tgt := 12) E.1.1 E.1.2.1 dX4_enters_83 (by decide) ?_
                  exact ih12 (k + 1) _ _ _ (by omega) (by rw [← genF_up (gmis σ) (6 * gmfr σ) k (eI x) (v := true) (by first | (exfalso; omega) | (rw [h30]; rfl) | (rw [h36, h40]; rfl) | (simp [eI, h36]; omega)), ← genF_up (gmva σ) (6 * gmfr σ) k (eV v w) (v := (nI 0)) (by first | (exfalso; omega) | (rw [h60]; rfl) | (rw [h70]; rfl) | (unfold eV; rw [if_neg (by omega), if_neg h70]; rfl))]; have q9 := hP; rw [sw_is_va, tt_is, tt_va] at q9; exact q9) hS (lv_sub hl [1, 2, 3, 4, 5, 6, 7, 0] rfl)
                · refine lv_iload E.1.1 E.1.2.1 dX4_enters_73 (lv_at hl 4 rfl) ?_
                  refine lv_goto (tgt := 79) E.1.1 E.1.2.1 dX4_enters_75 (by decide) ?_
                  refine as_MS_va (i := (6 * gmfr σ) + k) (v := w) E hP hD hS (by omega) dX4_enters_79 (fun H locs hP hS => ?_)
                  have hP : va_P D vwCl (wR ad cI cJ cZ (smva (smis (smva (smis σ (genF (gmis σ) (6 * gmfr σ) (6 * gmfr σ + k) (eI x))) (genF (gmva σ) (6 * gmfr σ) (6 * gmfr σ + k) (eV v w))) (va_up (genF (gmis σ) (6 * gmfr σ) (6 * gmfr σ + k) (eI x)) ((6 * gmfr σ) + k) true)) (va_up (genF (gmva σ) (6 * gmfr σ) (6 * gmfr σ + k) (eV v w)) ((6 * gmfr σ) + k) w))) H := by have q9 := hP; rw [hs_va_is, hs_va_va] at q9; exact q9
                  refine lv_iinc (v := nI (k + 1)) (lv' := [(7, .int (nI (k + 1))), (0, .ref (ad 0)), (1, .int (nI b)), (2, .int v), (3, .int (bI x)), (4, .int w), (5, .int (nI g)), (6, .int (nI (6 * gmfr σ)))]) E.1.1 E.1.2.1 dX4_enters_80 hl (k := 7) rfl (nI_add k 1) (by decide) rfl (fun ls hl => ?_)
                  refine lv_goto (tgt := 12) E.1.1 E.1.2.1 dX4_enters_83 (by decide) ?_
                  exact ih12 (k + 1) _ _ _ (by omega) (by rw [← genF_up (gmis σ) (6 * gmfr σ) k (eI x) (v := true) (by first | (exfalso; omega) | (rw [h30]; rfl) | (rw [h36, h40]; rfl) | (simp [eI, h36]; omega)), ← genF_up (gmva σ) (6 * gmfr σ) k (eV v w) (v := w) (by first | (exfalso; omega) | (rw [h60]; rfl) | (rw [h70]; rfl) | (unfold eV; rw [if_neg (by omega), if_neg h70]; rfl))]; have q9 := hP; rw [sw_is_va, tt_is, tt_va] at q9; exact q9) hS (lv_sub hl [1, 2, 3, 4, 5, 6, 7, 0] rfl)
              · refine lv_iload_n E.1.1 E.1.2.1 dX4_enters_63 rfl (lv_at hl 2 rfl) ?_
                refine lv_goto (tgt := 79) E.1.1 E.1.2.1 dX4_enters_64 (by decide) ?_
                refine as_MS_va (i := (6 * gmfr σ) + k) (v := v) E hP hD hS (by omega) dX4_enters_79 (fun H locs hP hS => ?_)
                have hP : va_P D vwCl (wR ad cI cJ cZ (smva (smis (smva (smis σ (genF (gmis σ) (6 * gmfr σ) (6 * gmfr σ + k) (eI x))) (genF (gmva σ) (6 * gmfr σ) (6 * gmfr σ + k) (eV v w))) (va_up (genF (gmis σ) (6 * gmfr σ) (6 * gmfr σ + k) (eI x)) ((6 * gmfr σ) + k) true)) (va_up (genF (gmva σ) (6 * gmfr σ) (6 * gmfr σ + k) (eV v w)) ((6 * gmfr σ) + k) v))) H := by have q9 := hP; rw [hs_va_is, hs_va_va] at q9; exact q9
                refine lv_iinc (v := nI (k + 1)) (lv' := [(7, .int (nI (k + 1))), (0, .ref (ad 0)), (1, .int (nI b)), (2, .int v), (3, .int (bI x)), (4, .int w), (5, .int (nI g)), (6, .int (nI (6 * gmfr σ)))]) E.1.1 E.1.2.1 dX4_enters_80 hl (k := 7) rfl (nI_add k 1) (by decide) rfl (fun ls hl => ?_)
                refine lv_goto (tgt := 12) E.1.1 E.1.2.1 dX4_enters_83 (by decide) ?_
                exact ih12 (k + 1) _ _ _ (by omega) (by rw [← genF_up (gmis σ) (6 * gmfr σ) k (eI x) (v := true) (by first | (exfalso; omega) | (rw [h30]; rfl) | (rw [h36, h40]; rfl) | (simp [eI, h36]; omega)), ← genF_up (gmva σ) (6 * gmfr σ) k (eV v w) (v := v) (by first | (exfalso; omega) | (rw [h60]; rfl) | (rw [h70]; rfl) | (unfold eV; rw [if_neg (by omega), if_neg h70]; rfl))]; have q9 := hP; rw [sw_is_va, tt_is, tt_va] at q9; exact q9) hS (lv_sub hl [1, 2, 3, 4, 5, 6, 7, 0] rfl)
  exact LP12 6 0 _ _ _ (by omega) (by rw [genF_0, genF_0]; exact hP) hS (lv_sub hl [2, 3, 4, 5, 6, 7, 1, 0] rfl)
