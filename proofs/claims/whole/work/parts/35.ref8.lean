set_option maxRecDepth 100000 in
set_option maxHeartbeats 400000 in
theorem c_X4_call (l : Launch) (D : va_G) (cI cJ cZ : ClassId) (ad : Nat → Nat) (σ : MS) (q : Nat)  (hq : q < 4) (hK : Kr σ σ) : CM l D (t3 cI cJ cZ) yX4_call cX4_call 6 (some .int) 1 [.ref (ad 0), .int (nI q)] (wR ad cI cJ cZ σ) (some (.int (nI (caF σ q)))) (wR ad cI cJ cZ σ) := by
  refine CM.of (by decide) (Nat.le_of_ble_eq_true rfl) ?_
  intro p e s m below meth c A ls E hr hlk hP hD0 hA hA2 hS hl
  have hD := wR_D hD0
  have hl : lv_has ls 6 [(0, .ref (ad 0)), (1, .int (nI q))] := hl
  refine lv_iconst (v := -1) E.1.1 E.1.2.1 dX4_call_0 rfl ?_
  refine lv_istore_n (lv' := [(2, .int (-1)), (0, .ref (ad 0)), (1, .int (nI q))]) E.1.1 E.1.2.1 dX4_call_1 rfl hl (by decide) rfl (fun ls hl => ?_)
  refine lv_iconst (v := nI 1) E.1.1 E.1.2.1 dX4_call_2 rfl ?_
  refine lv_istore_n (lv' := [(3, .int (nI 1)), (2, .int (-1)), (0, .ref (ad 0)), (1, .int (nI q))]) E.1.1 E.1.2.1 dX4_call_3 rfl hl (by decide) rfl (fun ls hl => ?_)
  refine lv_iconst (v := nI 0) E.1.1 E.1.2.1 dX4_call_4 rfl ?_
  refine lv_istore (lv' := [(4, .int (nI 0)), (3, .int (nI 1)), (2, .int (-1)), (0, .ref (ad 0)), (1, .int (nI q))]) E.1.1 E.1.2.1 dX4_call_5 hl (by decide) rfl (fun ls hl => ?_)
  have LP7 : ∀ (n : Nat) (k : Nat) (o : Option Nat) (x : Bool) (H : Heap) (locs : List Loc) (ls : Array Slot), (k + n = 6) → (∀ j, o = some j → j < 24) → (itN (clS σ q) 6 0 (none, true) = itN (clS σ q) n k (o, x)) → va_P D vwCl (wR ad cI cJ cZ σ) H → va_S A s.heap H locs → lv_has ls 6 [(0, .ref (ad 0)), (1, .int (nI q)), (2, .int (oI o)), (3, .int (bI x)), (4, .int (nI k))] → W p l e { frames := 1, cells := 0, slots := 0, locals := 40 * 1 } s m [.ref (ad 0), .int (nI q)].toArray below meth c H locs 0 0 (MQ below (Qcm D (wR ad cI cJ cZ σ) s.heap.size (some (.int (nI (caF σ q)))) (wR ad cI cJ cZ σ)) [.ref (ad 0), .int (nI q)].toArray s 0 0 A) (F0 m 7 ls []) := by
    intro n
    induction n with
    | zero =>
      intro k o x H locs ls hk ho hv hP hS hl
      refine lv_iload E.1.1 E.1.2.1 dX4_call_7 (lv_at hl 4 rfl) ?_
      refine lv_bipush (v := nI 6) E.1.1 E.1.2.1 dX4_call_9 rfl ?_
      refine nv_icmp_ge (by omega) (by omega) E dX4_call_11 (tgt := 80) (by decide) (fun h11 => ?_) (fun h11 => ?_)
      · refine lv_iload_n E.1.1 E.1.2.1 dX4_call_80 rfl (lv_at hl 2 rfl) ?_
        refine ov_ge0 (o := o) (by intro j hj; have := ho j hj; omega) E dX4_call_81 (tgt := 86) (by decide) (fun k81 h81 => ?_) (fun h81 => ?_)
        · have hk81 := ho _ h81
          have hl : lv_has ls 6 [(0, .ref (ad 0)), (1, .int (nI q)), (2, .int (nI k81)), (3, .int (bI x)), (4, .int (nI k))] := by have q9 := hl; rw [h81] at q9; exact q9
          have hL := hK.1.1.2.1 k81
          refine lv_iload_n E.1.1 E.1.2.1 dX4_call_86 rfl (lv_at hl 3 rfl) ?_
          refine bv_if_ne (x := x) E dX4_call_87 (tgt := 92) (by decide) (fun h87 => ?_) (fun h87 => ?_)
          · refine lv_aload_n E.1.1 E.1.2.1 dX4_call_92 rfl (lv_at hl 0 rfl) ?_
            refine gt_X4_many E fl_X4_17 hP dX4_call_93 ?_
            refine lv_iload_n E.1.1 E.1.2.1 dX4_call_96 rfl (lv_at hl 2 rfl) ?_
            refine ld_MS_my (i := k81) E hP (by omega) dX4_call_97 ?_
            refine lv_iconst (v := nI 3) E.1.1 E.1.2.1 dX4_call_98 rfl ?_
            refine nv_icmp_gt (by omega) (by omega) E dX4_call_99 (tgt := 106) (by decide) (fun h99 => ?_) (fun h99 => ?_)
            · refine lv_iconst (v := nI 0) E.1.1 E.1.2.1 dX4_call_106 rfl ?_
              refine lv_istore (lv' := [(4, .int (nI 0)), (0, .ref (ad 0)), (1, .int (nI q)), (2, .int (nI k81)), (3, .int (bI x))]) E.1.1 E.1.2.1 dX4_call_107 hl (by decide) rfl (fun ls hl => ?_)
              refine lv_iconst (v := nI 0) E.1.1 E.1.2.1 dX4_call_109 rfl ?_
              refine lv_istore (lv' := [(5, .int (nI 0)), (4, .int (nI 0)), (0, .ref (ad 0)), (1, .int (nI q)), (2, .int (nI k81)), (3, .int (bI x))]) E.1.1 E.1.2.1 dX4_call_110 hl (by decide) rfl (fun ls hl => ?_)
              have LP112 : ∀ (n2 : Nat) (k2 : Nat) (y : Bool) (H : Heap) (locs : List Loc) (ls : Array Slot), (k2 + n2 = gmmy σ k81) → (itN (smS σ k81) (gmmy σ k81) 0 (decide (gmmy σ k81 ≤ 3)) = itN (smS σ k81) n2 k2 y) → va_P D vwCl (wR ad cI cJ cZ σ) H → va_S A s.heap H locs → lv_has ls 6 [(0, .ref (ad 0)), (1, .int (nI q)), (2, .int (nI k81)), (4, .int (bI y)), (5, .int (nI k2))] → W p l e { frames := 1, cells := 0, slots := 0, locals := 40 * 1 } s m [.ref (ad 0), .int (nI q)].toArray below meth c H locs 0 0 (MQ below (Qcm D (wR ad cI cJ cZ σ) s.heap.size (some (.int (nI (caF σ q)))) (wR ad cI cJ cZ σ)) [.ref (ad 0), .int (nI q)].toArray s 0 0 A) (F0 m 112 ls []) := by
                intro n2
                induction n2 with
                | zero =>
                  intro k2 y H locs ls hk2 hv2 hP hS hl
                  refine lv_iload E.1.1 E.1.2.1 dX4_call_112 (lv_at hl 4 rfl) ?_
                  refine lv_aload_n E.1.1 E.1.2.1 dX4_call_114 rfl (lv_at hl 0 rfl) ?_
                  refine gt_X4_many E fl_X4_17 hP dX4_call_115 ?_
                  refine lv_iload_n E.1.1 E.1.2.1 dX4_call_118 rfl (lv_at hl 2 rfl) ?_
                  refine ld_MS_my (i := k81) E hP (by omega) dX4_call_119 ?_
                  refine nv_icmp_ge (by omega) (by omega) E dX4_call_120 (tgt := 167) (by decide) (fun h120 => ?_) (fun h120 => ?_)
                  · refine lv_iload E.1.1 E.1.2.1 dX4_call_167 (lv_at hl 3 rfl) ?_
                    refine bv_if_eq (x := y) E dX4_call_169 (tgt := 176) (by decide) (fun h169 => ?_) (fun h169 => ?_)
                    · refine lv_iconst (v := nI 2) E.1.1 E.1.2.1 dX4_call_176 rfl ?_
                      exact CM.reti E hr hlk hA hP hS (by unfold caF; rw [hv]; simp only [itN, h81, h87, hv2, if_true]; first | (rw [if_pos h169]; done) | rw [if_neg (by rw [h169]; decide)]) dX4_call_177
                    · refine lv_iconst (v := nI 3) E.1.1 E.1.2.1 dX4_call_172 rfl ?_
                      refine lv_goto (tgt := 177) E.1.1 E.1.2.1 dX4_call_173 (by decide) ?_
                      exact CM.reti E hr hlk hA hP hS (by unfold caF; rw [hv]; simp only [itN, h81, h87, hv2, if_true]; first | (rw [if_pos h169]; done) | rw [if_neg (by rw [h169]; decide)]) dX4_call_177
                  · exact absurd h120 (by omega)
                | succ n2 ih112 =>
                  intro k2 y H locs ls hk2 hv2 hP hS hl
                  refine lv_iload E.1.1 E.1.2.1 dX4_call_112 (lv_at hl 4 rfl) ?_
                  refine lv_aload_n E.1.1 E.1.2.1 dX4_call_114 rfl (lv_at hl 0 rfl) ?_
                  refine gt_X4_many E fl_X4_17 hP dX4_call_115 ?_
                  refine lv_iload_n E.1.1 E.1.2.1 dX4_call_118 rfl (lv_at hl 2 rfl) ?_
                  refine ld_MS_my (i := k81) E hP (by omega) dX4_call_119 ?_
                  refine nv_icmp_ge (by omega) (by omega) E dX4_call_120 (tgt := 167) (by decide) (fun h120 => ?_) (fun h120 => ?_)
                  · exact absurd h120 (by omega)
                  · refine lv_iload E.1.1 E.1.2.1 dX4_call_123 (lv_at hl 3 rfl) ?_
                    refine bv_if_eq (x := y) E dX4_call_125 (tgt := 158) (by decide) (fun h125 => ?_) (fun h125 => ?_)
                    · refine lv_iconst (v := nI 0) E.1.1 E.1.2.1 dX4_call_158 rfl ?_
                      refine lv_istore (lv' := [(4, .int (nI 0)), (0, .ref (ad 0)), (1, .int (nI q)), (2, .int (nI k81)), (5, .int (nI k2))]) E.1.1 E.1.2.1 dX4_call_159 hl (by decide) rfl (fun ls hl => ?_)
                      refine lv_iinc (v := nI (k2 + 1)) (lv' := [(5, .int (nI (k2 + 1))), (4, .int (nI 0)), (0, .ref (ad 0)), (1, .int (nI q)), (2, .int (nI k81))]) E.1.1 E.1.2.1 dX4_call_161 hl (k := 4) rfl (nI_add k2 1) (by decide) rfl (fun ls hl => ?_)
                      refine lv_goto (tgt := 112) E.1.1 E.1.2.1 dX4_call_164 (by decide) ?_
                      exact ih112 (k2 + 1) false _ _ _ (by omega) (by first | (rw [hv2, itN]; simp [smS, h125]; done) | (rw [hv2, itN]; simp [smS, h125, h138]; done) | (rw [hv2, itN]; simp [smS, h125, h138, h151]; done)) hP hS (lv_sub hl [2, 3, 4, 1, 0] rfl)
                    · refine lv_aload_n E.1.1 E.1.2.1 dX4_call_128 rfl (lv_at hl 0 rfl) ?_
                      refine lv_iload_n E.1.1 E.1.2.1 dX4_call_129 rfl (lv_at hl 2 rfl) ?_
                      refine lv_iload E.1.1 E.1.2.1 dX4_call_130 (lv_at hl 4 rfl) ?_
                      refine lv_iconst (v := nI 0) E.1.1 E.1.2.1 dX4_call_132 rfl ?_
                      refine CM.callVi (n := 3) E (c_X4_at l D cI cJ cZ ad σ k81 k2 0 (by omega)) ml_X4_99 im_X4_at se_X4_at ini_X4 co_X4_at hd_X4_at ⟨Nat.le_of_ble_eq_true rfl, Nat.le_of_ble_eq_true rfl⟩ ⟨Nat.le_refl _, Nat.le_refl _⟩ 0 rfl rfl hP (hD _) hS hA2 rfl hl.1 (Nat.le_of_ble_eq_true rfl) dX4_call_133 rfl (fun H locs hP hS => ?_)
                      refine tpi (y := nI (kM σ (10 * k81 + k2))) (at0 hK.1.2 k81 k2) ?_
                      refine lv_bipush (v := nI 7) E.1.1 E.1.2.1 dX4_call_136 rfl ?_
                      refine nv_icmp_eq (by have := (hK.1.2 (10 * k81 + k2)).1.2; omega) (by omega) E dX4_call_138 (tgt := 158) (by decide) (fun h138 => ?_) (fun h138 => ?_)
                      · refine lv_iconst (v := nI 0) E.1.1 E.1.2.1 dX4_call_158 rfl ?_
                        refine lv_istore (lv' := [(4, .int (nI 0)), (0, .ref (ad 0)), (1, .int (nI q)), (2, .int (nI k81)), (5, .int (nI k2))]) E.1.1 E.1.2.1 dX4_call_159 hl (by decide) rfl (fun ls hl => ?_)
                        refine lv_iinc (v := nI (k2 + 1)) (lv' := [(5, .int (nI (k2 + 1))), (4, .int (nI 0)), (0, .ref (ad 0)), (1, .int (nI q)), (2, .int (nI k81))]) E.1.1 E.1.2.1 dX4_call_161 hl (k := 4) rfl (nI_add k2 1) (by decide) rfl (fun ls hl => ?_)
                        refine lv_goto (tgt := 112) E.1.1 E.1.2.1 dX4_call_164 (by decide) ?_
                        exact ih112 (k2 + 1) false _ _ _ (by omega) (by first | (rw [hv2, itN]; simp [smS, h125]; done) | (rw [hv2, itN]; simp [smS, h125, h138]; done) | (rw [hv2, itN]; simp [smS, h125, h138, h151]; done)) hP hS (lv_sub hl [2, 3, 4, 1, 0] rfl)
                      · refine lv_aload_n E.1.1 E.1.2.1 dX4_call_141 rfl (lv_at hl 0 rfl) ?_
                        refine lv_iload_n E.1.1 E.1.2.1 dX4_call_142 rfl (lv_at hl 2 rfl) ?_
                        refine lv_iload E.1.1 E.1.2.1 dX4_call_143 (lv_at hl 4 rfl) ?_
                        refine lv_iconst (v := nI 0) E.1.1 E.1.2.1 dX4_call_145 rfl ?_
                        refine CM.callVi (n := 3) E (c_X4_at l D cI cJ cZ ad σ k81 k2 0 (by omega)) ml_X4_99 im_X4_at se_X4_at ini_X4 co_X4_at hd_X4_at ⟨Nat.le_of_ble_eq_true rfl, Nat.le_of_ble_eq_true rfl⟩ ⟨Nat.le_refl _, Nat.le_refl _⟩ 0 rfl rfl hP (hD _) hS hA2 rfl hl.1 (Nat.le_of_ble_eq_true rfl) dX4_call_146 rfl (fun H locs hP hS => ?_)
                        refine tpi (y := nI (kM σ (10 * k81 + k2))) (at0 hK.1.2 k81 k2) ?_
                        refine lv_bipush (v := nI 9) E.1.1 E.1.2.1 dX4_call_149 rfl ?_
                        refine nv_icmp_eq (by have := (hK.1.2 (10 * k81 + k2)).1.2; omega) (by omega) E dX4_call_151 (tgt := 158) (by decide) (fun h151 => ?_) (fun h151 => ?_)
                        · refine lv_iconst (v := nI 0) E.1.1 E.1.2.1 dX4_call_158 rfl ?_
                          refine lv_istore (lv' := [(4, .int (nI 0)), (0, .ref (ad 0)), (1, .int (nI q)), (2, .int (nI k81)), (5, .int (nI k2))]) E.1.1 E.1.2.1 dX4_call_159 hl (by decide) rfl (fun ls hl => ?_)
                          refine lv_iinc (v := nI (k2 + 1)) (lv' := [(5, .int (nI (k2 + 1))), (4, .int (nI 0)), (0, .ref (ad 0)), (1, .int (nI q)), (2, .int (nI k81))]) E.1.1 E.1.2.1 dX4_call_161 hl (k := 4) rfl (nI_add k2 1) (by decide) rfl (fun ls hl => ?_)
                          refine lv_goto (tgt := 112) E.1.1 E.1.2.1 dX4_call_164 (by decide) ?_
                          exact ih112 (k2 + 1) false _ _ _ (by omega) (by first | (rw [hv2, itN]; simp [smS, h125]; done) | (rw [hv2, itN]; simp [smS, h125, h138]; done) | (rw [hv2, itN]; simp [smS, h125, h138, h151]; done)) hP hS (lv_sub hl [2, 3, 4, 1, 0] rfl)
                        · refine lv_iconst (v := nI 1) E.1.1 E.1.2.1 dX4_call_154 rfl ?_
                          refine lv_goto (tgt := 159) E.1.1 E.1.2.1 dX4_call_155 (by decide) ?_
                          refine lv_istore (lv' := [(4, .int (nI 1)), (0, .ref (ad 0)), (1, .int (nI q)), (2, .int (nI k81)), (5, .int (nI k2))]) E.1.1 E.1.2.1 dX4_call_159 hl (by decide) rfl (fun ls hl => ?_)
                          refine lv_iinc (v := nI (k2 + 1)) (lv' := [(5, .int (nI (k2 + 1))), (4, .int (nI 1)), (0, .ref (ad 0)), (1, .int (nI q)), (2, .int (nI k81))]) E.1.1 E.1.2.1 dX4_call_161 hl (k := 4) rfl (nI_add k2 1) (by decide) rfl (fun ls hl => ?_)
                          refine lv_goto (tgt := 112) E.1.1 E.1.2.1 dX4_call_164 (by decide) ?_
                          exact ih112 (k2 + 1) true _ _ _ (by omega) (by first | (rw [hv2, itN]; simp [smS, h125]; done) | (rw [hv2, itN]; simp [smS, h125, h138]; done) | (rw [hv2, itN]; simp [smS, h125, h138, h151]; done)) hP hS (lv_sub hl [2, 3, 4, 1, 0] rfl)
              exact LP112 (gmmy σ k81) 0 false _ _ _ (by omega) (by first | rw [decide_eq_true h99] | rw [decide_eq_false (by omega)]) hP hS (lv_sub hl [2, 3, 4, 1, 0] rfl)
            · refine lv_iconst (v := nI 1) E.1.1 E.1.2.1 dX4_call_102 rfl ?_
              refine lv_goto (tgt := 107) E.1.1 E.1.2.1 dX4_call_103 (by decide) ?_
              refine lv_istore (lv' := [(4, .int (nI 1)), (0, .ref (ad 0)), (1, .int (nI q)), (2, .int (nI k81)), (3, .int (bI x))]) E.1.1 E.1.2.1 dX4_call_107 hl (by decide) rfl (fun ls hl => ?_)
              refine lv_iconst (v := nI 0) E.1.1 E.1.2.1 dX4_call_109 rfl ?_
              refine lv_istore (lv' := [(5, .int (nI 0)), (4, .int (nI 1)), (0, .ref (ad 0)), (1, .int (nI q)), (2, .int (nI k81)), (3, .int (bI x))]) E.1.1 E.1.2.1 dX4_call_110 hl (by decide) rfl (fun ls hl => ?_)
              have LP112 : ∀ (n2 : Nat) (k2 : Nat) (y : Bool) (H : Heap) (locs : List Loc) (ls : Array Slot), (k2 + n2 = gmmy σ k81) → (itN (smS σ k81) (gmmy σ k81) 0 (decide (gmmy σ k81 ≤ 3)) = itN (smS σ k81) n2 k2 y) → va_P D vwCl (wR ad cI cJ cZ σ) H → va_S A s.heap H locs → lv_has ls 6 [(0, .ref (ad 0)), (1, .int (nI q)), (2, .int (nI k81)), (4, .int (bI y)), (5, .int (nI k2))] → W p l e { frames := 1, cells := 0, slots := 0, locals := 40 * 1 } s m [.ref (ad 0), .int (nI q)].toArray below meth c H locs 0 0 (MQ below (Qcm D (wR ad cI cJ cZ σ) s.heap.size (some (.int (nI (caF σ q)))) (wR ad cI cJ cZ σ)) [.ref (ad 0), .int (nI q)].toArray s 0 0 A) (F0 m 112 ls []) := by
                intro n2
                induction n2 with
                | zero =>
                  intro k2 y H locs ls hk2 hv2 hP hS hl
                  refine lv_iload E.1.1 E.1.2.1 dX4_call_112 (lv_at hl 4 rfl) ?_
                  refine lv_aload_n E.1.1 E.1.2.1 dX4_call_114 rfl (lv_at hl 0 rfl) ?_
                  refine gt_X4_many E fl_X4_17 hP dX4_call_115 ?_
                  refine lv_iload_n E.1.1 E.1.2.1 dX4_call_118 rfl (lv_at hl 2 rfl) ?_
                  refine ld_MS_my (i := k81) E hP (by omega) dX4_call_119 ?_
                  refine nv_icmp_ge (by omega) (by omega) E dX4_call_120 (tgt := 167) (by decide) (fun h120 => ?_) (fun h120 => ?_)
                  · refine lv_iload E.1.1 E.1.2.1 dX4_call_167 (lv_at hl 3 rfl) ?_
                    refine bv_if_eq (x := y) E dX4_call_169 (tgt := 176) (by decide) (fun h169 => ?_) (fun h169 => ?_)
                    · refine lv_iconst (v := nI 2) E.1.1 E.1.2.1 dX4_call_176 rfl ?_
                      exact CM.reti E hr hlk hA hP hS (by unfold caF; rw [hv]; simp only [itN, h81, h87, hv2, if_true]; first | (rw [if_pos h169]; done) | rw [if_neg (by rw [h169]; decide)]) dX4_call_177
                    · refine lv_iconst (v := nI 3) E.1.1 E.1.2.1 dX4_call_172 rfl ?_
                      refine lv_goto (tgt := 177) E.1.1 E.1.2.1 dX4_call_173 (by decide) ?_
                      exact CM.reti E hr hlk hA hP hS (by unfold caF; rw [hv]; simp only [itN, h81, h87, hv2, if_true]; first | (rw [if_pos h169]; done) | rw [if_neg (by rw [h169]; decide)]) dX4_call_177
                  · exact absurd h120 (by omega)
                | succ n2 ih112 =>
                  intro k2 y H locs ls hk2 hv2 hP hS hl
                  refine lv_iload E.1.1 E.1.2.1 dX4_call_112 (lv_at hl 4 rfl) ?_
                  refine lv_aload_n E.1.1 E.1.2.1 dX4_call_114 rfl (lv_at hl 0 rfl) ?_
                  refine gt_X4_many E fl_X4_17 hP dX4_call_115 ?_
                  refine lv_iload_n E.1.1 E.1.2.1 dX4_call_118 rfl (lv_at hl 2 rfl) ?_
                  refine ld_MS_my (i := k81) E hP (by omega) dX4_call_119 ?_
                  refine nv_icmp_ge (by omega) (by omega) E dX4_call_120 (tgt := 167) (by decide) (fun h120 => ?_) (fun h120 => ?_)
                  · exact absurd h120 (by omega)
                  · refine lv_iload E.1.1 E.1.2.1 dX4_call_123 (lv_at hl 3 rfl) ?_
                    refine bv_if_eq (x := y) E dX4_call_125 (tgt := 158) (by decide) (fun h125 => ?_) (fun h125 => ?_)
                    · refine lv_iconst (v := nI 0) E.1.1 E.1.2.1 dX4_call_158 rfl ?_
                      refine lv_istore (lv' := [(4, .int (nI 0)), (0, .ref (ad 0)), (1, .int (nI q)), (2, .int (nI k81)), (5, .int (nI k2))]) E.1.1 E.1.2.1 dX4_call_159 hl (by decide) rfl (fun ls hl => ?_)
                      refine lv_iinc (v := nI (k2 + 1)) (lv' := [(5, .int (nI (k2 + 1))), (4, .int (nI 0)), (0, .ref (ad 0)), (1, .int (nI q)), (2, .int (nI k81))]) E.1.1 E.1.2.1 dX4_call_161 hl (k := 4) rfl (nI_add k2 1) (by decide) rfl (fun ls hl => ?_)
                      refine lv_goto (tgt := 112) E.1.1 E.1.2.1 dX4_call_164 (by decide) ?_
                      exact ih112 (k2 + 1) false _ _ _ (by omega) (by first | (rw [hv2, itN]; simp [smS, h125]; done) | (rw [hv2, itN]; simp [smS, h125, h138]; done) | (rw [hv2, itN]; simp [smS, h125, h138, h151]; done)) hP hS (lv_sub hl [2, 3, 4, 1, 0] rfl)
                    · refine lv_aload_n E.1.1 E.1.2.1 dX4_call_128 rfl (lv_at hl 0 rfl) ?_
                      refine lv_iload_n E.1.1 E.1.2.1 dX4_call_129 rfl (lv_at hl 2 rfl) ?_
                      refine lv_iload E.1.1 E.1.2.1 dX4_call_130 (lv_at hl 4 rfl) ?_
                      refine lv_iconst (v := nI 0) E.1.1 E.1.2.1 dX4_call_132 rfl ?_
                      refine CM.callVi (n := 3) E (c_X4_at l D cI cJ cZ ad σ k81 k2 0 (by omega)) ml_X4_99 im_X4_at se_X4_at ini_X4 co_X4_at hd_X4_at ⟨Nat.le_of_ble_eq_true rfl, Nat.le_of_ble_eq_true rfl⟩ ⟨Nat.le_refl _, Nat.le_refl _⟩ 0 rfl rfl hP (hD _) hS hA2 rfl hl.1 (Nat.le_of_ble_eq_true rfl) dX4_call_133 rfl (fun H locs hP hS => ?_)
                      refine tpi (y := nI (kM σ (10 * k81 + k2))) (at0 hK.1.2 k81 k2) ?_
                      refine lv_bipush (v := nI 7) E.1.1 E.1.2.1 dX4_call_136 rfl ?_
                      refine nv_icmp_eq (by have := (hK.1.2 (10 * k81 + k2)).1.2; omega) (by omega) E dX4_call_138 (tgt := 158) (by decide) (fun h138 => ?_) (fun h138 => ?_)
                      · refine lv_iconst (v := nI 0) E.1.1 E.1.2.1 dX4_call_158 rfl ?_
                        refine lv_istore (lv' := [(4, .int (nI 0)), (0, .ref (ad 0)), (1, .int (nI q)), (2, .int (nI k81)), (5, .int (nI k2))]) E.1.1 E.1.2.1 dX4_call_159 hl (by decide) rfl (fun ls hl => ?_)
                        refine lv_iinc (v := nI (k2 + 1)) (lv' := [(5, .int (nI (k2 + 1))), (4, .int (nI 0)), (0, .ref (ad 0)), (1, .int (nI q)), (2, .int (nI k81))]) E.1.1 E.1.2.1 dX4_call_161 hl (k := 4) rfl (nI_add k2 1) (by decide) rfl (fun ls hl => ?_)
                        refine lv_goto (tgt := 112) E.1.1 E.1.2.1 dX4_call_164 (by decide) ?_
                        exact ih112 (k2 + 1) false _ _ _ (by omega) (by first | (rw [hv2, itN]; simp [smS, h125]; done) | (rw [hv2, itN]; simp [smS, h125, h138]; done) | (rw [hv2, itN]; simp [smS, h125, h138, h151]; done)) hP hS (lv_sub hl [2, 3, 4, 1, 0] rfl)
                      · refine lv_aload_n E.1.1 E.1.2.1 dX4_call_141 rfl (lv_at hl 0 rfl) ?_
                        refine lv_iload_n E.1.1 E.1.2.1 dX4_call_142 rfl (lv_at hl 2 rfl) ?_
                        refine lv_iload E.1.1 E.1.2.1 dX4_call_143 (lv_at hl 4 rfl) ?_
                        refine lv_iconst (v := nI 0) E.1.1 E.1.2.1 dX4_call_145 rfl ?_
                        refine CM.callVi (n := 3) E (c_X4_at l D cI cJ cZ ad σ k81 k2 0 (by omega)) ml_X4_99 im_X4_at se_X4_at ini_X4 co_X4_at hd_X4_at ⟨Nat.le_of_ble_eq_true rfl, Nat.le_of_ble_eq_true rfl⟩ ⟨Nat.le_refl _, Nat.le_refl _⟩ 0 rfl rfl hP (hD _) hS hA2 rfl hl.1 (Nat.le_of_ble_eq_true rfl) dX4_call_146 rfl (fun H locs hP hS => ?_)
                        refine tpi (y := nI (kM σ (10 * k81 + k2))) (at0 hK.1.2 k81 k2) ?_
                        refine lv_bipush (v := nI 9) E.1.1 E.1.2.1 dX4_call_149 rfl ?_
                        refine nv_icmp_eq (by have := (hK.1.2 (10 * k81 + k2)).1.2; omega) (by omega) E dX4_call_151 (tgt := 158) (by decide) (fun h151 => ?_) (fun h151 => ?_)
                        · refine lv_iconst (v := nI 0) E.1.1 E.1.2.1 dX4_call_158 rfl ?_
                          refine lv_istore (lv' := [(4, .int (nI 0)), (0, .ref (ad 0)), (1, .int (nI q)), (2, .int (nI k81)), (5, .int (nI k2))]) E.1.1 E.1.2.1 dX4_call_159 hl (by decide) rfl (fun ls hl => ?_)
                          refine lv_iinc (v := nI (k2 + 1)) (lv' := [(5, .int (nI (k2 + 1))), (4, .int (nI 0)), (0, .ref (ad 0)), (1, .int (nI q)), (2, .int (nI k81))]) E.1.1 E.1.2.1 dX4_call_161 hl (k := 4) rfl (nI_add k2 1) (by decide) rfl (fun ls hl => ?_)
                          refine lv_goto (tgt := 112) E.1.1 E.1.2.1 dX4_call_164 (by decide) ?_
                          exact ih112 (k2 + 1) false _ _ _ (by omega) (by first | (rw [hv2, itN]; simp [smS, h125]; done) | (rw [hv2, itN]; simp [smS, h125, h138]; done) | (rw [hv2, itN]; simp [smS, h125, h138, h151]; done)) hP hS (lv_sub hl [2, 3, 4, 1, 0] rfl)
                        · refine lv_iconst (v := nI 1) E.1.1 E.1.2.1 dX4_call_154 rfl ?_
                          refine lv_goto (tgt := 159) E.1.1 E.1.2.1 dX4_call_155 (by decide) ?_
                          refine lv_istore (lv' := [(4, .int (nI 1)), (0, .ref (ad 0)), (1, .int (nI q)), (2, .int (nI k81)), (5, .int (nI k2))]) E.1.1 E.1.2.1 dX4_call_159 hl (by decide) rfl (fun ls hl => ?_)
                          refine lv_iinc (v := nI (k2 + 1)) (lv' := [(5, .int (nI (k2 + 1))), (4, .int (nI 1)), (0, .ref (ad 0)), (1, .int (nI q)), (2, .int (nI k81))]) E.1.1 E.1.2.1 dX4_call_161 hl (k := 4) rfl (nI_add k2 1) (by decide) rfl (fun ls hl => ?_)
                          refine lv_goto (tgt := 112) E.1.1 E.1.2.1 dX4_call_164 (by decide) ?_
                          exact ih112 (k2 + 1) true _ _ _ (by omega) (by first | (rw [hv2, itN]; simp [smS, h125]; done) | (rw [hv2, itN]; simp [smS, h125, h138]; done) | (rw [hv2, itN]; simp [smS, h125, h138, h151]; done)) hP hS (lv_sub hl [2, 3, 4, 1, 0] rfl)
              exact LP112 (gmmy σ k81) 0 true _ _ _ (by omega) (by first | rw [decide_eq_true h99] | rw [decide_eq_false (by omega)]) hP hS (lv_sub hl [2, 3, 4, 1, 0] rfl)
          · refine lv_iconst (v := nI 1) E.1.1 E.1.2.1 dX4_call_90 rfl ?_
            exact CM.reti E hr hlk hA hP hS (by unfold caF; rw [hv]; simp [itN, h81, h87]) dX4_call_91
        · refine lv_iconst (v := nI 4) E.1.1 E.1.2.1 dX4_call_84 rfl ?_
          exact CM.reti E hr hlk hA hP hS (by unfold caF; rw [hv]; simp [itN, h81]) dX4_call_85
      · exact absurd h11 (by omega)
    | succ n ih7 =>
      intro k o x H locs ls hk ho hv hP hS hl
      refine lv_iload E.1.1 E.1.2.1 dX4_call_7 (lv_at hl 4 rfl) ?_
      refine lv_bipush (v := nI 6) E.1.1 E.1.2.1 dX4_call_9 rfl ?_
      refine nv_icmp_ge (by omega) (by omega) E dX4_call_11 (tgt := 80) (by decide) (fun h11 => ?_) (fun h11 => ?_)
      · exact absurd h11 (by omega)
      · refine lv_aload_n E.1.1 E.1.2.1 dX4_call_14 rfl (lv_at hl 0 rfl) ?_
        refine gt_X4_made E fl_X4_23 hP dX4_call_15 ?_
        refine lv_iload E.1.1 E.1.2.1 dX4_call_18 (lv_at hl 4 rfl) ?_
        refine ld_MS_md (i := k) E hP (by omega) dX4_call_20 ?_
        refine bv_if_eq (x := gmmd σ k) E dX4_call_21 (tgt := 34) (by decide) (fun h21 => ?_) (fun h21 => ?_)
        · refine lv_iconst (v := oI none) E.1.1 E.1.2.1 dX4_call_34 rfl ?_
          refine lv_istore (lv' := [(5, .int (oI none)), (0, .ref (ad 0)), (1, .int (nI q)), (2, .int (oI o)), (3, .int (bI x)), (4, .int (nI k))]) E.1.1 E.1.2.1 dX4_call_35 hl (by decide) rfl (fun ls hl => ?_)
          refine lv_iload_n E.1.1 E.1.2.1 dX4_call_37 rfl (lv_at hl 4 rfl) ?_
          refine bv_if_eq (x := x) E dX4_call_38 (tgt := 60) (by decide) (fun h38 => ?_) (fun h38 => ?_)
          · refine lv_iconst (v := nI 0) E.1.1 E.1.2.1 dX4_call_60 rfl ?_
            refine lv_istore_n (lv' := [(3, .int (nI 0)), (5, .int (oI none)), (0, .ref (ad 0)), (1, .int (nI q)), (2, .int (oI o)), (4, .int (nI k))]) E.1.1 E.1.2.1 dX4_call_61 rfl hl (by decide) rfl (fun ls hl => ?_)
            refine lv_iload E.1.1 E.1.2.1 dX4_call_62 (lv_at hl 1 rfl) ?_
            refine ov_ge0 (o := none) (by first | omega | (intro j hj; first | (cases hj; done) | (have := tgM_lt hK.1.1 (by omega) hq hj; omega))) E dX4_call_64 (tgt := 71) (by decide) (fun k64 h64 => ?_) (fun h64 => ?_)
            · cases h64
            · refine lv_iload_n E.1.1 E.1.2.1 dX4_call_67 rfl (lv_at hl 4 rfl) ?_
              refine lv_goto (tgt := 73) E.1.1 E.1.2.1 dX4_call_68 (by decide) ?_
              refine lv_istore_n (lv' := [(2, .int (oI o)), (3, .int (nI 0)), (5, .int (oI none)), (0, .ref (ad 0)), (1, .int (nI q)), (4, .int (nI k))]) E.1.1 E.1.2.1 dX4_call_73 rfl hl (by decide) rfl (fun ls hl => ?_)
              refine lv_iinc (v := nI (k + 1)) (lv' := [(4, .int (nI (k + 1))), (2, .int (oI o)), (3, .int (nI 0)), (5, .int (oI none)), (0, .ref (ad 0)), (1, .int (nI q))]) E.1.1 E.1.2.1 dX4_call_74 hl (k := 5) rfl (nI_add k 1) (by decide) rfl (fun ls hl => ?_)
              refine lv_goto (tgt := 7) E.1.1 E.1.2.1 dX4_call_77 (by decide) ?_
              exact ih7 (k + 1) o false _ _ _ (by omega) (by intro j hj; first | exact ho j hj | (cases hj; first | exact hk43 | exact hk64 | (exact ho _ h47))) (by first | (exfalso; omega) | (rw [hv, itN]; cases o <;> simp [clS, h21, h38, h64]; done) | (rw [hv, itN]; simp [clS, h21]; done) | (rw [hv, itN]; simp [clS, h21, h38]; done) | (rw [hv, itN]; simp [clS, h21, h43]; done) | (rw [hv, itN]; simp [clS, h21, h38, h43]; done) | (rw [hv, itN]; simp [clS, h21, h38, h64]; done) | (rw [hv, itN]; simp [clS, h21, h43, h47]; done) | (rw [hv, itN]; simp [clS, h21, h38, h43, h47]; done) | (rw [hv, itN]; simp [clS, h21, h38, h43, h47, h53]; done)) hP hS (lv_sub hl [4, 5, 1, 2, 0] rfl)
          · refine lv_iload E.1.1 E.1.2.1 dX4_call_41 (lv_at hl 0 rfl) ?_
            refine ov_lt0 (o := none) (by intro j hj; first | (cases hj; done) | (have := tgM_lt hK.1.1 (by omega) hq hj; omega)) E dX4_call_43 (tgt := 56) (by decide) (fun h43 => ?_) (fun k43 h43 => ?_)
            · refine lv_iconst (v := nI 1) E.1.1 E.1.2.1 dX4_call_56 rfl ?_
              refine lv_goto (tgt := 61) E.1.1 E.1.2.1 dX4_call_57 (by decide) ?_
              refine lv_istore_n (lv' := [(3, .int (nI 1)), (5, .int (oI none)), (0, .ref (ad 0)), (1, .int (nI q)), (2, .int (oI o)), (4, .int (nI k))]) E.1.1 E.1.2.1 dX4_call_61 rfl hl (by decide) rfl (fun ls hl => ?_)
              refine lv_iload E.1.1 E.1.2.1 dX4_call_62 (lv_at hl 1 rfl) ?_
              refine ov_ge0 (o := none) (by first | omega | (intro j hj; first | (cases hj; done) | (have := tgM_lt hK.1.1 (by omega) hq hj; omega))) E dX4_call_64 (tgt := 71) (by decide) (fun k64 h64 => ?_) (fun h64 => ?_)
              · cases h64
              · refine lv_iload_n E.1.1 E.1.2.1 dX4_call_67 rfl (lv_at hl 4 rfl) ?_
                refine lv_goto (tgt := 73) E.1.1 E.1.2.1 dX4_call_68 (by decide) ?_
                refine lv_istore_n (lv' := [(2, .int (oI o)), (3, .int (nI 1)), (5, .int (oI none)), (0, .ref (ad 0)), (1, .int (nI q)), (4, .int (nI k))]) E.1.1 E.1.2.1 dX4_call_73 rfl hl (by decide) rfl (fun ls hl => ?_)
                refine lv_iinc (v := nI (k + 1)) (lv' := [(4, .int (nI (k + 1))), (2, .int (oI o)), (3, .int (nI 1)), (5, .int (oI none)), (0, .ref (ad 0)), (1, .int (nI q))]) E.1.1 E.1.2.1 dX4_call_74 hl (k := 5) rfl (nI_add k 1) (by decide) rfl (fun ls hl => ?_)
                refine lv_goto (tgt := 7) E.1.1 E.1.2.1 dX4_call_77 (by decide) ?_
                exact ih7 (k + 1) o true _ _ _ (by omega) (by intro j hj; first | exact ho j hj | (cases hj; first | exact hk43 | exact hk64 | (exact ho _ h47))) (by first | (exfalso; omega) | (rw [hv, itN]; cases o <;> simp [clS, h21, h38, h64]; done) | (rw [hv, itN]; simp [clS, h21]; done) | (rw [hv, itN]; simp [clS, h21, h38]; done) | (rw [hv, itN]; simp [clS, h21, h43]; done) | (rw [hv, itN]; simp [clS, h21, h38, h43]; done) | (rw [hv, itN]; simp [clS, h21, h38, h64]; done) | (rw [hv, itN]; simp [clS, h21, h43, h47]; done) | (rw [hv, itN]; simp [clS, h21, h38, h43, h47]; done) | (rw [hv, itN]; simp [clS, h21, h38, h43, h47, h53]; done)) hP hS (lv_sub hl [4, 5, 1, 2, 0] rfl)
            · cases h43
        · refine lv_aload_n E.1.1 E.1.2.1 dX4_call_24 rfl (lv_at hl 0 rfl) ?_
          refine lv_iload E.1.1 E.1.2.1 dX4_call_25 (lv_at hl 4 rfl) ?_
          refine lv_iload_n E.1.1 E.1.2.1 dX4_call_27 rfl (lv_at hl 1 rfl) ?_
          refine CM.callVi (n := 2) E (c_X4_target l D cI cJ cZ ad σ k q (by omega) hq hK.1.1) ml_X4_95 im_X4_target se_X4_target ini_X4 co_X4_target hd_X4_target ⟨Nat.le_of_ble_eq_true rfl, Nat.le_of_ble_eq_true rfl⟩ ⟨Nat.le_refl _, Nat.le_refl _⟩ 0 rfl rfl hP (hD _) hS hA2 rfl hl.1 (Nat.le_of_ble_eq_true rfl) dX4_call_28 rfl (fun H locs hP hS => ?_)
          refine lv_goto (tgt := 35) E.1.1 E.1.2.1 dX4_call_31 (by decide) ?_
          refine lv_istore (lv' := [(5, .int (oI (tgM σ k q))), (0, .ref (ad 0)), (1, .int (nI q)), (2, .int (oI o)), (3, .int (bI x)), (4, .int (nI k))]) E.1.1 E.1.2.1 dX4_call_35 hl (by decide) rfl (fun ls hl => ?_)
          refine lv_iload_n E.1.1 E.1.2.1 dX4_call_37 rfl (lv_at hl 4 rfl) ?_
          refine bv_if_eq (x := x) E dX4_call_38 (tgt := 60) (by decide) (fun h38 => ?_) (fun h38 => ?_)
          · refine lv_iconst (v := nI 0) E.1.1 E.1.2.1 dX4_call_60 rfl ?_
            refine lv_istore_n (lv' := [(3, .int (nI 0)), (5, .int (oI (tgM σ k q))), (0, .ref (ad 0)), (1, .int (nI q)), (2, .int (oI o)), (4, .int (nI k))]) E.1.1 E.1.2.1 dX4_call_61 rfl hl (by decide) rfl (fun ls hl => ?_)
            refine lv_iload E.1.1 E.1.2.1 dX4_call_62 (lv_at hl 1 rfl) ?_
            refine ov_ge0 (o := tgM σ k q) (by first | omega | (intro j hj; first | (cases hj; done) | (have := tgM_lt hK.1.1 (by omega) hq hj; omega))) E dX4_call_64 (tgt := 71) (by decide) (fun k64 h64 => ?_) (fun h64 => ?_)
            · have hk64 := tgM_lt hK.1.1 (by omega) hq h64
              have hl : lv_has ls 6 [(3, .int (nI 0)), (5, .int (nI k64)), (0, .ref (ad 0)), (1, .int (nI q)), (2, .int (oI o)), (4, .int (nI k))] := by have q9 := hl; rw [h64] at q9; exact q9
              refine lv_iload E.1.1 E.1.2.1 dX4_call_71 (lv_at hl 1 rfl) ?_
              refine lv_istore_n (lv' := [(2, .int (nI k64)), (3, .int (nI 0)), (5, .int (nI k64)), (0, .ref (ad 0)), (1, .int (nI q)), (4, .int (nI k))]) E.1.1 E.1.2.1 dX4_call_73 rfl hl (by decide) rfl (fun ls hl => ?_)
              refine lv_iinc (v := nI (k + 1)) (lv' := [(4, .int (nI (k + 1))), (2, .int (nI k64)), (3, .int (nI 0)), (5, .int (nI k64)), (0, .ref (ad 0)), (1, .int (nI q))]) E.1.1 E.1.2.1 dX4_call_74 hl (k := 5) rfl (nI_add k 1) (by decide) rfl (fun ls hl => ?_)
              refine lv_goto (tgt := 7) E.1.1 E.1.2.1 dX4_call_77 (by decide) ?_
              exact ih7 (k + 1) (some k64) false _ _ _ (by omega) (by intro j hj; first | exact ho j hj | (cases hj; first | exact hk43 | exact hk64 | (exact ho _ h47))) (by first | (exfalso; omega) | (rw [hv, itN]; cases o <;> simp [clS, h21, h38, h64]; done) | (rw [hv, itN]; simp [clS, h21]; done) | (rw [hv, itN]; simp [clS, h21, h38]; done) | (rw [hv, itN]; simp [clS, h21, h43]; done) | (rw [hv, itN]; simp [clS, h21, h38, h43]; done) | (rw [hv, itN]; simp [clS, h21, h38, h64]; done) | (rw [hv, itN]; simp [clS, h21, h43, h47]; done) | (rw [hv, itN]; simp [clS, h21, h38, h43, h47]; done) | (rw [hv, itN]; simp [clS, h21, h38, h43, h47, h53]; done)) hP hS (lv_sub hl [4, 5, 1, 2, 0] rfl)
            · refine lv_iload_n E.1.1 E.1.2.1 dX4_call_67 rfl (lv_at hl 4 rfl) ?_
              refine lv_goto (tgt := 73) E.1.1 E.1.2.1 dX4_call_68 (by decide) ?_
              refine lv_istore_n (lv' := [(2, .int (oI o)), (3, .int (nI 0)), (5, .int (oI (tgM σ k q))), (0, .ref (ad 0)), (1, .int (nI q)), (4, .int (nI k))]) E.1.1 E.1.2.1 dX4_call_73 rfl hl (by decide) rfl (fun ls hl => ?_)
              refine lv_iinc (v := nI (k + 1)) (lv' := [(4, .int (nI (k + 1))), (2, .int (oI o)), (3, .int (nI 0)), (5, .int (oI (tgM σ k q))), (0, .ref (ad 0)), (1, .int (nI q))]) E.1.1 E.1.2.1 dX4_call_74 hl (k := 5) rfl (nI_add k 1) (by decide) rfl (fun ls hl => ?_)
              refine lv_goto (tgt := 7) E.1.1 E.1.2.1 dX4_call_77 (by decide) ?_
              exact ih7 (k + 1) o false _ _ _ (by omega) (by intro j hj; first | exact ho j hj | (cases hj; first | exact hk43 | exact hk64 | (exact ho _ h47))) (by first | (exfalso; omega) | (rw [hv, itN]; cases o <;> simp [clS, h21, h38, h64]; done) | (rw [hv, itN]; simp [clS, h21]; done) | (rw [hv, itN]; simp [clS, h21, h38]; done) | (rw [hv, itN]; simp [clS, h21, h43]; done) | (rw [hv, itN]; simp [clS, h21, h38, h43]; done) | (rw [hv, itN]; simp [clS, h21, h38, h64]; done) | (rw [hv, itN]; simp [clS, h21, h43, h47]; done) | (rw [hv, itN]; simp [clS, h21, h38, h43, h47]; done) | (rw [hv, itN]; simp [clS, h21, h38, h43, h47, h53]; done)) hP hS (lv_sub hl [4, 5, 1, 2, 0] rfl)
          · refine lv_iload E.1.1 E.1.2.1 dX4_call_41 (lv_at hl 0 rfl) ?_
            refine ov_lt0 (o := tgM σ k q) (by intro j hj; first | (cases hj; done) | (have := tgM_lt hK.1.1 (by omega) hq hj; omega)) E dX4_call_43 (tgt := 56) (by decide) (fun h43 => ?_) (fun k43 h43 => ?_)
            · refine lv_iconst (v := nI 1) E.1.1 E.1.2.1 dX4_call_56 rfl ?_
              refine lv_goto (tgt := 61) E.1.1 E.1.2.1 dX4_call_57 (by decide) ?_
              refine lv_istore_n (lv' := [(3, .int (nI 1)), (5, .int (oI (tgM σ k q))), (0, .ref (ad 0)), (1, .int (nI q)), (2, .int (oI o)), (4, .int (nI k))]) E.1.1 E.1.2.1 dX4_call_61 rfl hl (by decide) rfl (fun ls hl => ?_)
              refine lv_iload E.1.1 E.1.2.1 dX4_call_62 (lv_at hl 1 rfl) ?_
              refine ov_ge0 (o := tgM σ k q) (by first | omega | (intro j hj; first | (cases hj; done) | (have := tgM_lt hK.1.1 (by omega) hq hj; omega))) E dX4_call_64 (tgt := 71) (by decide) (fun k64 h64 => ?_) (fun h64 => ?_)
              · exact absurd (h43.symm.trans h64) (by simp)
              · refine lv_iload_n E.1.1 E.1.2.1 dX4_call_67 rfl (lv_at hl 4 rfl) ?_
                refine lv_goto (tgt := 73) E.1.1 E.1.2.1 dX4_call_68 (by decide) ?_
                refine lv_istore_n (lv' := [(2, .int (oI o)), (3, .int (nI 1)), (5, .int (oI (tgM σ k q))), (0, .ref (ad 0)), (1, .int (nI q)), (4, .int (nI k))]) E.1.1 E.1.2.1 dX4_call_73 rfl hl (by decide) rfl (fun ls hl => ?_)
                refine lv_iinc (v := nI (k + 1)) (lv' := [(4, .int (nI (k + 1))), (2, .int (oI o)), (3, .int (nI 1)), (5, .int (oI (tgM σ k q))), (0, .ref (ad 0)), (1, .int (nI q))]) E.1.1 E.1.2.1 dX4_call_74 hl (k := 5) rfl (nI_add k 1) (by decide) rfl (fun ls hl => ?_)
                refine lv_goto (tgt := 7) E.1.1 E.1.2.1 dX4_call_77 (by decide) ?_
                exact ih7 (k + 1) o true _ _ _ (by omega) (by intro j hj; first | exact ho j hj | (cases hj; first | exact hk43 | exact hk64 | (exact ho _ h47))) (by first | (exfalso; omega) | (rw [hv, itN]; cases o <;> simp [clS, h21, h38, h64]; done) | (rw [hv, itN]; simp [clS, h21]; done) | (rw [hv, itN]; simp [clS, h21, h38]; done) | (rw [hv, itN]; simp [clS, h21, h43]; done) | (rw [hv, itN]; simp [clS, h21, h38, h43]; done) | (rw [hv, itN]; simp [clS, h21, h38, h64]; done) | (rw [hv, itN]; simp [clS, h21, h43, h47]; done) | (rw [hv, itN]; simp [clS, h21, h38, h43, h47]; done) | (rw [hv, itN]; simp [clS, h21, h38, h43, h47, h53]; done)) hP hS (lv_sub hl [4, 5, 1, 2, 0] rfl)
            · have hk43 := tgM_lt hK.1.1 (by omega) hq h43
              have hl : lv_has ls 6 [(5, .int (nI k43)), (0, .ref (ad 0)), (1, .int (nI q)), (2, .int (oI o)), (3, .int (bI x)), (4, .int (nI k))] := by have q9 := hl; rw [h43] at q9; exact q9
              refine lv_iload_n E.1.1 E.1.2.1 dX4_call_46 rfl (lv_at hl 3 rfl) ?_
              refine ov_lt0 (o := o) (by intro j hj; have := ho j hj; omega) E dX4_call_47 (tgt := 56) (by decide) (fun h47 => ?_) (fun k47 h47 => ?_)
              · refine lv_iconst (v := nI 1) E.1.1 E.1.2.1 dX4_call_56 rfl ?_
                refine lv_goto (tgt := 61) E.1.1 E.1.2.1 dX4_call_57 (by decide) ?_
                refine lv_istore_n (lv' := [(3, .int (nI 1)), (5, .int (nI k43)), (0, .ref (ad 0)), (1, .int (nI q)), (2, .int (oI o)), (4, .int (nI k))]) E.1.1 E.1.2.1 dX4_call_61 rfl hl (by decide) rfl (fun ls hl => ?_)
                refine lv_iload E.1.1 E.1.2.1 dX4_call_62 (lv_at hl 1 rfl) ?_
                refine nv_if_ge (by first | omega | (intro j hj; first | (cases hj; done) | (have := tgM_lt hK.1.1 (by omega) hq hj; omega))) E dX4_call_64 (tgt := 71) (by decide) ?_
                refine lv_iload E.1.1 E.1.2.1 dX4_call_71 (lv_at hl 1 rfl) ?_
                refine lv_istore_n (lv' := [(2, .int (nI k43)), (3, .int (nI 1)), (5, .int (nI k43)), (0, .ref (ad 0)), (1, .int (nI q)), (4, .int (nI k))]) E.1.1 E.1.2.1 dX4_call_73 rfl hl (by decide) rfl (fun ls hl => ?_)
                refine lv_iinc (v := nI (k + 1)) (lv' := [(4, .int (nI (k + 1))), (2, .int (nI k43)), (3, .int (nI 1)), (5, .int (nI k43)), (0, .ref (ad 0)), (1, .int (nI q))]) E.1.1 E.1.2.1 dX4_call_74 hl (k := 5) rfl (nI_add k 1) (by decide) rfl (fun ls hl => ?_)
                refine lv_goto (tgt := 7) E.1.1 E.1.2.1 dX4_call_77 (by decide) ?_
                exact ih7 (k + 1) (some k43) true _ _ _ (by omega) (by intro j hj; first | exact ho j hj | (cases hj; first | exact hk43 | exact hk64 | (exact ho _ h47))) (by first | (exfalso; omega) | (rw [hv, itN]; cases o <;> simp [clS, h21, h38, h64]; done) | (rw [hv, itN]; simp [clS, h21]; done) | (rw [hv, itN]; simp [clS, h21, h38]; done) | (rw [hv, itN]; simp [clS, h21, h43]; done) | (rw [hv, itN]; simp [clS, h21, h38, h43]; done) | (rw [hv, itN]; simp [clS, h21, h38, h64]; done) | (rw [hv, itN]; simp [clS, h21, h43, h47]; done) | (rw [hv, itN]; simp [clS, h21, h38, h43, h47]; done) | (rw [hv, itN]; simp [clS, h21, h38, h43, h47, h53]; done)) hP hS (lv_sub hl [4, 5, 1, 2, 0] rfl)
              · have hk47 := ho _ h47
                have hl : lv_has ls 6 [(5, .int (nI k43)), (0, .ref (ad 0)), (1, .int (nI q)), (2, .int (nI k47)), (3, .int (bI x)), (4, .int (nI k))] := by have q9 := hl; rw [h47] at q9; exact q9
                refine lv_iload E.1.1 E.1.2.1 dX4_call_50 (lv_at hl 0 rfl) ?_
                refine lv_iload_n E.1.1 E.1.2.1 dX4_call_52 rfl (lv_at hl 3 rfl) ?_
                refine nv_icmp_ne (by omega) (by omega) E dX4_call_53 (tgt := 60) (by decide) (fun h53 => ?_) (fun h53 => ?_)
                · refine lv_iconst (v := nI 0) E.1.1 E.1.2.1 dX4_call_60 rfl ?_
                  refine lv_istore_n (lv' := [(3, .int (nI 0)), (5, .int (nI k43)), (0, .ref (ad 0)), (1, .int (nI q)), (2, .int (nI k47)), (4, .int (nI k))]) E.1.1 E.1.2.1 dX4_call_61 rfl hl (by decide) rfl (fun ls hl => ?_)
                  refine lv_iload E.1.1 E.1.2.1 dX4_call_62 (lv_at hl 1 rfl) ?_
                  refine nv_if_ge (by first | omega | (intro j hj; first | (cases hj; done) | (have := tgM_lt hK.1.1 (by omega) hq hj; omega))) E dX4_call_64 (tgt := 71) (by decide) ?_
                  refine lv_iload E.1.1 E.1.2.1 dX4_call_71 (lv_at hl 1 rfl) ?_
                  refine lv_istore_n (lv' := [(2, .int (nI k43)), (3, .int (nI 0)), (5, .int (nI k43)), (0, .ref (ad 0)), (1, .int (nI q)), (4, .int (nI k))]) E.1.1 E.1.2.1 dX4_call_73 rfl hl (by decide) rfl (fun ls hl => ?_)
                  refine lv_iinc (v := nI (k + 1)) (lv' := [(4, .int (nI (k + 1))), (2, .int (nI k43)), (3, .int (nI 0)), (5, .int (nI k43)), (0, .ref (ad 0)), (1, .int (nI q))]) E.1.1 E.1.2.1 dX4_call_74 hl (k := 5) rfl (nI_add k 1) (by decide) rfl (fun ls hl => ?_)
                  refine lv_goto (tgt := 7) E.1.1 E.1.2.1 dX4_call_77 (by decide) ?_
                  exact ih7 (k + 1) (some k43) false _ _ _ (by omega) (by intro j hj; first | exact ho j hj | (cases hj; first | exact hk43 | exact hk64 | (exact ho _ h47))) (by first | (exfalso; omega) | (rw [hv, itN]; cases o <;> simp [clS, h21, h38, h64]; done) | (rw [hv, itN]; simp [clS, h21]; done) | (rw [hv, itN]; simp [clS, h21, h38]; done) | (rw [hv, itN]; simp [clS, h21, h43]; done) | (rw [hv, itN]; simp [clS, h21, h38, h43]; done) | (rw [hv, itN]; simp [clS, h21, h38, h64]; done) | (rw [hv, itN]; simp [clS, h21, h43, h47]; done) | (rw [hv, itN]; simp [clS, h21, h38, h43, h47]; done) | (rw [hv, itN]; simp [clS, h21, h38, h43, h47, h53]; done)) hP hS (lv_sub hl [4, 5, 1, 2, 0] rfl)
                · refine lv_iconst (v := nI 1) E.1.1 E.1.2.1 dX4_call_56 rfl ?_
                  refine lv_goto (tgt := 61) E.1.1 E.1.2.1 dX4_call_57 (by decide) ?_
                  refine lv_istore_n (lv' := [(3, .int (nI 1)), (5, .int (nI k43)), (0, .ref (ad 0)), (1, .int (nI q)), (2, .int (nI k47)), (4, .int (nI k))]) E.1.1 E.1.2.1 dX4_call_61 rfl hl (by decide) rfl (fun ls hl => ?_)
                  refine lv_iload E.1.1 E.1.2.1 dX4_call_62 (lv_at hl 1 rfl) ?_
                  refine nv_if_ge (by first | omega | (intro j hj; first | (cases hj; done) | (have := tgM_lt hK.1.1 (by omega) hq hj; omega))) E dX4_call_64 (tgt := 71) (by decide) ?_
                  refine lv_iload E.1.1 E.1.2.1 dX4_call_71 (lv_at hl 1 rfl) ?_
                  refine lv_istore_n (lv' := [(2, .int (nI k43)), (3, .int (nI 1)), (5, .int (nI k43)), (0, .ref (ad 0)), (1, .int (nI q)), (4, .int (nI k))]) E.1.1 E.1.2.1 dX4_call_73 rfl hl (by decide) rfl (fun ls hl => ?_)
                  refine lv_iinc (v := nI (k + 1)) (lv' := [(4, .int (nI (k + 1))), (2, .int (nI k43)), (3, .int (nI 1)), (5, .int (nI k43)), (0, .ref (ad 0)), (1, .int (nI q))]) E.1.1 E.1.2.1 dX4_call_74 hl (k := 5) rfl (nI_add k 1) (by decide) rfl (fun ls hl => ?_)
                  refine lv_goto (tgt := 7) E.1.1 E.1.2.1 dX4_call_77 (by decide) ?_
                  exact ih7 (k + 1) (some k43) true _ _ _ (by omega) (by intro j hj; first | exact ho j hj | (cases hj; first | exact hk43 | exact hk64 | (exact ho _ h47))) (by first | (exfalso; omega) | (rw [hv, itN]; cases o <;> simp [clS, h21, h38, h64]; done) | (rw [hv, itN]; simp [clS, h21]; done) | (rw [hv, itN]; simp [clS, h21, h38]; done) | (rw [hv, itN]; simp [clS, h21, h43]; done) | (rw [hv, itN]; simp [clS, h21, h38, h43]; done) | (rw [hv, itN]; simp [clS, h21, h38, h64]; done) | (rw [hv, itN]; simp [clS, h21, h43, h47]; done) | (rw [hv, itN]; simp [clS, h21, h38, h43, h47]; done) | (rw [hv, itN]; simp [clS, h21, h38, h43, h47, h53]; done)) hP hS (lv_sub hl [4, 5, 1, 2, 0] rfl)
  exact LP7 6 0 none true _ _ _ (by omega) (by intro j hj; cases hj) rfl hP hS (lv_sub hl [3, 4, 2, 1, 0] rfl)
set_option maxRecDepth 100000 in
set_option maxHeartbeats 400000 in
theorem c_X4_stays (l : Launch) (D : va_G) (cI cJ cZ : ClassId) (ad : Nat → Nat) (σ : MS) (b : Nat) (j : Nat)  (hb : b < 24) (hj : j < 10) (hK : Kr σ σ) : CM l D (t3 cI cJ cZ) yX4_stays cX4_stays 6 (some .boolean) 1 [.ref (ad 0), .int (nI b), .int (nI j)] (wR ad cI cJ cZ σ) (some (.int (bI (saB b j σ)))) (wR ad cI cJ cZ (saG b j σ)) := by
  refine CM.of (by decide) (Nat.le_of_ble_eq_true rfl) ?_
  intro p e s m below meth c A ls E hr hlk hP hD0 hA hA2 hS hl
  have hD := wR_D hD0
  have hl : lv_has ls 6 [(0, .ref (ad 0)), (1, .int (nI b)), (2, .int (nI j))] := hl
  refine lv_iconst (v := nI 0) E.1.1 E.1.2.1 dX4_stays_0 rfl ?_
  refine lv_istore_n (lv' := [(3, .int (nI 0)), (0, .ref (ad 0)), (1, .int (nI b)), (2, .int (nI j))]) E.1.1 E.1.2.1 dX4_stays_1 rfl hl (by decide) rfl (fun ls hl => ?_)
  have LP2 : ∀ (n : Nat) (k : Nat) (τ : MS) (H : Heap) (locs : List Loc) (ls : Array Slot), (Kr σ τ) → (k + n = 6) → (sa1 b j σ = itN (s1S b j) n k τ) → va_P D vwCl (wR ad cI cJ cZ τ) H → va_S A s.heap H locs → lv_has ls 6 [(0, .ref (ad 0)), (1, .int (nI b)), (2, .int (nI j)), (3, .int (nI k))] → W p l e { frames := 1, cells := 0, slots := 0, locals := 40 * 1 } s m [.ref (ad 0), .int (nI b), .int (nI j)].toArray below meth c H locs 0 0 (MQ below (Qcm D (wR ad cI cJ cZ σ) s.heap.size (some (.int (bI (saB b j σ)))) (wR ad cI cJ cZ (saG b j σ))) [.ref (ad 0), .int (nI b), .int (nI j)].toArray s 0 0 A) (F0 m 2 ls []) := by
    intro n
    induction n with
    | zero =>
      intro k τ H locs ls hT hk hv hP hS hl
      refine lv_iload_n E.1.1 E.1.2.1 dX4_stays_2 rfl (lv_at hl 3 rfl) ?_
      refine lv_bipush (v := nI 6) E.1.1 E.1.2.1 dX4_stays_3 rfl ?_
      refine nv_icmp_ge (by omega) (by omega) E dX4_stays_5 (tgt := 36) (by decide) (fun h5 => ?_) (fun h5 => ?_)
      · refine lv_iconst (v := nI 0) E.1.1 E.1.2.1 dX4_stays_36 rfl ?_
        refine lv_istore_n (lv' := [(3, .int (nI 0)), (0, .ref (ad 0)), (1, .int (nI b)), (2, .int (nI j))]) E.1.1 E.1.2.1 dX4_stays_37 rfl hl (by decide) rfl (fun ls hl => ?_)
        have LP38 : ∀ (n : Nat) (r : Nat) (τ : MS) (H : Heap) (locs : List Loc) (ls : Array Slot), (Kr σ τ) → (r + n = 6) → (saG b j σ = itN (s2R b) n r τ) → va_P D vwCl (wR ad cI cJ cZ τ) H → va_S A s.heap H locs → lv_has ls 6 [(0, .ref (ad 0)), (1, .int (nI b)), (2, .int (nI j)), (3, .int (nI r))] → W p l e { frames := 1, cells := 0, slots := 0, locals := 40 * 1 } s m [.ref (ad 0), .int (nI b), .int (nI j)].toArray below meth c H locs 0 0 (MQ below (Qcm D (wR ad cI cJ cZ σ) s.heap.size (some (.int (bI (saB b j σ)))) (wR ad cI cJ cZ (saG b j σ))) [.ref (ad 0), .int (nI b), .int (nI j)].toArray s 0 0 A) (F0 m 38 ls []) := by
          intro n
          induction n with
          | zero =>
            intro r τ H locs ls hT hk hv hP hS hl
            refine lv_iload_n E.1.1 E.1.2.1 dX4_stays_38 rfl (lv_at hl 3 rfl) ?_
            refine lv_bipush (v := nI 6) E.1.1 E.1.2.1 dX4_stays_39 rfl ?_
            refine nv_icmp_ge (by omega) (by omega) E dX4_stays_41 (tgt := 112) (by decide) (fun h41 => ?_) (fun h41 => ?_)
            · have hG9 : saG b j σ = τ := by rw [hv]; rfl
              refine lv_iconst (v := nI 1) E.1.1 E.1.2.1 dX4_stays_112 rfl ?_
              refine lv_istore_n (lv' := [(3, .int (nI 1)), (0, .ref (ad 0)), (1, .int (nI b)), (2, .int (nI j))]) E.1.1 E.1.2.1 dX4_stays_113 rfl hl (by decide) rfl (fun ls hl => ?_)
              refine lv_iconst (v := nI 0) E.1.1 E.1.2.1 dX4_stays_114 rfl ?_
              refine lv_istore (lv' := [(4, .int (nI 0)), (3, .int (nI 1)), (0, .ref (ad 0)), (1, .int (nI b)), (2, .int (nI j))]) E.1.1 E.1.2.1 dX4_stays_115 hl (by decide) rfl (fun ls hl => ?_)
              have LP117 : ∀ (n3 : Nat) (k : Nat) (x : Bool) (H : Heap) (locs : List Loc) (ls : Array Slot), (k + n3 = gmmy τ b) → (itN (s3S τ b) (gmmy τ b) 0 true = itN (s3S τ b) n3 k x) → va_P D vwCl (wR ad cI cJ cZ τ) H → va_S A s.heap H locs → lv_has ls 6 [(0, .ref (ad 0)), (1, .int (nI b)), (2, .int (nI j)), (3, .int (bI x)), (4, .int (nI k))] → W p l e { frames := 1, cells := 0, slots := 0, locals := 40 * 1 } s m [.ref (ad 0), .int (nI b), .int (nI j)].toArray below meth c H locs 0 0 (MQ below (Qcm D (wR ad cI cJ cZ σ) s.heap.size (some (.int (bI (saB b j σ)))) (wR ad cI cJ cZ (saG b j σ))) [.ref (ad 0), .int (nI b), .int (nI j)].toArray s 0 0 A) (F0 m 117 ls []) := by
                intro n3
                induction n3 with
                | zero =>
                  intro k x H locs ls hk3 hv3 hP hS hl
                  have hL := hT.1.1.2.1 b
                  refine lv_iload E.1.1 E.1.2.1 dX4_stays_117 (lv_at hl 4 rfl) ?_
                  refine lv_aload_n E.1.1 E.1.2.1 dX4_stays_119 rfl (lv_at hl 0 rfl) ?_
                  refine gt_X4_many E fl_X4_17 hP dX4_stays_120 ?_
                  refine lv_iload_n E.1.1 E.1.2.1 dX4_stays_123 rfl (lv_at hl 1 rfl) ?_
                  refine ld_MS_my (i := b) E hP (by omega) dX4_stays_124 ?_
                  refine nv_icmp_ge (by omega) (by omega) E dX4_stays_125 (tgt := 243) (by decide) (fun h125 => ?_) (fun h125 => ?_)
                  · refine lv_iload_n E.1.1 E.1.2.1 dX4_stays_243 rfl (lv_at hl 3 rfl) ?_
                    exact CM.retz E hr hlk hA (by rw [hG9]; exact hP) hS (by unfold saB; rw [hG9, hv3]; rfl) (bI_n _) dX4_stays_244
                  · exact absurd h125 (by omega)
                | succ n3 ih117 =>
                  intro k x H locs ls hk3 hv3 hP hS hl
                  have hL := hT.1.1.2.1 b
                  refine lv_iload E.1.1 E.1.2.1 dX4_stays_117 (lv_at hl 4 rfl) ?_
                  refine lv_aload_n E.1.1 E.1.2.1 dX4_stays_119 rfl (lv_at hl 0 rfl) ?_
                  refine gt_X4_many E fl_X4_17 hP dX4_stays_120 ?_
                  refine lv_iload_n E.1.1 E.1.2.1 dX4_stays_123 rfl (lv_at hl 1 rfl) ?_
                  refine ld_MS_my (i := b) E hP (by omega) dX4_stays_124 ?_
                  refine nv_icmp_ge (by omega) (by omega) E dX4_stays_125 (tgt := 243) (by decide) (fun h125 => ?_) (fun h125 => ?_)
                  · exact absurd h125 (by omega)
                  · refine lv_aload_n E.1.1 E.1.2.1 dX4_stays_128 rfl (lv_at hl 0 rfl) ?_
                    refine lv_iload_n E.1.1 E.1.2.1 dX4_stays_129 rfl (lv_at hl 1 rfl) ?_
                    refine lv_iload E.1.1 E.1.2.1 dX4_stays_130 (lv_at hl 4 rfl) ?_
                    refine lv_iconst (v := nI 0) E.1.1 E.1.2.1 dX4_stays_132 rfl ?_
                    refine CM.callVi (n := 3) E (c_X4_at l D cI cJ cZ ad τ b k 0 (by omega)) ml_X4_99 im_X4_at se_X4_at ini_X4 co_X4_at hd_X4_at ⟨Nat.le_of_ble_eq_true rfl, Nat.le_of_ble_eq_true rfl⟩ ⟨Nat.le_refl _, Nat.le_refl _⟩ 0 rfl rfl hP (hD _) hS hA2 rfl hl.1 (Nat.le_of_ble_eq_true rfl) dX4_stays_133 rfl (fun H locs hP hS => ?_)
                    refine tpi (y := nI (kM τ (10 * b + k))) (at0 hT.1.2 b k) ?_
                    have hkk := (hT.1.2 (10 * b + k)).1.2
                    refine lv_istore (lv' := [(5, .int (nI (kM τ (10 * b + k)))), (0, .ref (ad 0)), (1, .int (nI b)), (2, .int (nI j)), (3, .int (bI x)), (4, .int (nI k))]) E.1.1 E.1.2.1 dX4_stays_136 hl (by decide) rfl (fun ls hl => ?_)
                    refine lv_iload E.1.1 E.1.2.1 dX4_stays_138 (lv_at hl 0 rfl) ?_
                    refine lv_bipush (v := nI 6) E.1.1 E.1.2.1 dX4_stays_140 rfl ?_
                    refine nv_icmp_eq (by omega) (by omega) E dX4_stays_142 (tgt := 152) (by decide) (fun h142 => ?_) (fun h142 => ?_)
                    · refine lv_iload_n E.1.1 E.1.2.1 dX4_stays_152 rfl (lv_at hl 4 rfl) ?_
                      refine bv_if_eq (x := x) E dX4_stays_153 (tgt := 176) (by decide) (fun h153 => ?_) (fun h153 => ?_)
                      · refine lv_iconst (v := nI 0) E.1.1 E.1.2.1 dX4_stays_176 rfl ?_
                        refine lv_istore_n (lv' := [(3, .int (nI 0)), (5, .int (nI (kM τ (10 * b + k)))), (0, .ref (ad 0)), (1, .int (nI b)), (2, .int (nI j)), (4, .int (nI k))]) E.1.1 E.1.2.1 dX4_stays_177 rfl hl (by decide) rfl (fun ls hl => ?_)
                        refine lv_iload E.1.1 E.1.2.1 dX4_stays_178 (lv_at hl 1 rfl) ?_
                        refine lv_bipush (v := nI 7) E.1.1 E.1.2.1 dX4_stays_180 rfl ?_
                        refine nv_icmp_ne (by omega) (by omega) E dX4_stays_182 (tgt := 204) (by decide) (fun h182 => ?_) (fun h182 => ?_)
                        · refine lv_iload E.1.1 E.1.2.1 dX4_stays_204 (lv_at hl 1 rfl) ?_
                          refine lv_bipush (v := nI 11) E.1.1 E.1.2.1 dX4_stays_206 rfl ?_
                          refine nv_icmp_ne (by omega) (by omega) E dX4_stays_208 (tgt := 237) (by decide) (fun h208 => ?_) (fun h208 => ?_)
                          · refine lv_iinc (v := nI (k + 1)) (lv' := [(4, .int (nI (k + 1))), (3, .int (nI 0)), (5, .int (nI (kM τ (10 * b + k)))), (0, .ref (ad 0)), (1, .int (nI b)), (2, .int (nI j))]) E.1.1 E.1.2.1 dX4_stays_237 hl (k := 5) rfl (nI_add k 1) (by decide) rfl (fun ls hl => ?_)
                            refine lv_goto (tgt := 117) E.1.1 E.1.2.1 dX4_stays_240 (by decide) ?_
                            exact ih117 (k + 1) false _ _ _ (by omega) (by first | (exfalso; omega) | (rw [hv3, itN]; simp [s3S, *]; done)) hP hS (lv_sub hl [3, 4, 5, 1, 0] rfl)
                          · refine lv_iload_n E.1.1 E.1.2.1 dX4_stays_211 rfl (lv_at hl 0 rfl) ?_
                            refine nv_if_eq (by omega) E dX4_stays_212 (tgt := 235) (by decide) (fun h212 => ?_) (fun h212 => ?_)
                            · refine lv_iconst (v := nI 0) E.1.1 E.1.2.1 dX4_stays_235 rfl ?_
                              refine lv_istore_n (lv' := [(3, .int (nI 0)), (5, .int (nI (kM τ (10 * b + k)))), (0, .ref (ad 0)), (1, .int (nI b)), (2, .int (nI j)), (4, .int (nI k))]) E.1.1 E.1.2.1 dX4_stays_236 rfl hl (by decide) rfl (fun ls hl => ?_)
                              refine lv_iinc (v := nI (k + 1)) (lv' := [(4, .int (nI (k + 1))), (3, .int (nI 0)), (5, .int (nI (kM τ (10 * b + k)))), (0, .ref (ad 0)), (1, .int (nI b)), (2, .int (nI j))]) E.1.1 E.1.2.1 dX4_stays_237 hl (k := 5) rfl (nI_add k 1) (by decide) rfl (fun ls hl => ?_)
                              refine lv_goto (tgt := 117) E.1.1 E.1.2.1 dX4_stays_240 (by decide) ?_
                              exact ih117 (k + 1) false _ _ _ (by omega) (by first | (exfalso; omega) | (rw [hv3, itN]; simp [s3S, *]; done)) hP hS (lv_sub hl [3, 4, 5, 1, 0] rfl)
                            · exact absurd h212 (by omega)
                        · refine lv_iload_n E.1.1 E.1.2.1 dX4_stays_185 rfl (lv_at hl 0 rfl) ?_
                          refine nv_if_eq (by omega) E dX4_stays_186 (tgt := 202) (by decide) (fun h186 => ?_) (fun h186 => ?_)
                          · refine lv_iconst (v := nI 0) E.1.1 E.1.2.1 dX4_stays_202 rfl ?_
                            refine lv_istore_n (lv' := [(3, .int (nI 0)), (5, .int (nI (kM τ (10 * b + k)))), (0, .ref (ad 0)), (1, .int (nI b)), (2, .int (nI j)), (4, .int (nI k))]) E.1.1 E.1.2.1 dX4_stays_203 rfl hl (by decide) rfl (fun ls hl => ?_)
                            refine lv_iload E.1.1 E.1.2.1 dX4_stays_204 (lv_at hl 1 rfl) ?_
                            refine lv_bipush (v := nI 11) E.1.1 E.1.2.1 dX4_stays_206 rfl ?_
                            refine nv_icmp_ne (by omega) (by omega) E dX4_stays_208 (tgt := 237) (by decide) (fun h208 => ?_) (fun h208 => ?_)
                            · refine lv_iinc (v := nI (k + 1)) (lv' := [(4, .int (nI (k + 1))), (3, .int (nI 0)), (5, .int (nI (kM τ (10 * b + k)))), (0, .ref (ad 0)), (1, .int (nI b)), (2, .int (nI j))]) E.1.1 E.1.2.1 dX4_stays_237 hl (k := 5) rfl (nI_add k 1) (by decide) rfl (fun ls hl => ?_)
                              refine lv_goto (tgt := 117) E.1.1 E.1.2.1 dX4_stays_240 (by decide) ?_
                              exact ih117 (k + 1) false _ _ _ (by omega) (by first | (exfalso; omega) | (rw [hv3, itN]; simp [s3S, *]; done)) hP hS (lv_sub hl [3, 4, 5, 1, 0] rfl)
                            · refine lv_iload_n E.1.1 E.1.2.1 dX4_stays_211 rfl (lv_at hl 0 rfl) ?_
                              refine nv_if_eq (by omega) E dX4_stays_212 (tgt := 235) (by decide) (fun h212 => ?_) (fun h212 => ?_)
                              · refine lv_iconst (v := nI 0) E.1.1 E.1.2.1 dX4_stays_235 rfl ?_
                                refine lv_istore_n (lv' := [(3, .int (nI 0)), (5, .int (nI (kM τ (10 * b + k)))), (0, .ref (ad 0)), (1, .int (nI b)), (2, .int (nI j)), (4, .int (nI k))]) E.1.1 E.1.2.1 dX4_stays_236 rfl hl (by decide) rfl (fun ls hl => ?_)
                                refine lv_iinc (v := nI (k + 1)) (lv' := [(4, .int (nI (k + 1))), (3, .int (nI 0)), (5, .int (nI (kM τ (10 * b + k)))), (0, .ref (ad 0)), (1, .int (nI b)), (2, .int (nI j))]) E.1.1 E.1.2.1 dX4_stays_237 hl (k := 5) rfl (nI_add k 1) (by decide) rfl (fun ls hl => ?_)
                                refine lv_goto (tgt := 117) E.1.1 E.1.2.1 dX4_stays_240 (by decide) ?_
                                exact ih117 (k + 1) false _ _ _ (by omega) (by first | (exfalso; omega) | (rw [hv3, itN]; simp [s3S, *]; done)) hP hS (lv_sub hl [3, 4, 5, 1, 0] rfl)
                              · exact absurd h212 (by omega)
                          · exact absurd h186 (by omega)
                      · refine lv_aload_n E.1.1 E.1.2.1 dX4_stays_156 rfl (lv_at hl 1 rfl) ?_
                        refine gt_X4_holder E fl_X4_36 hP dX4_stays_157 ?_
                        refine lv_aload_n E.1.1 E.1.2.1 dX4_stays_160 rfl (lv_at hl 1 rfl) ?_
                        refine lv_iload_n E.1.1 E.1.2.1 dX4_stays_161 rfl (lv_at hl 2 rfl) ?_
                        refine lv_iload E.1.1 E.1.2.1 dX4_stays_162 (lv_at hl 5 rfl) ?_
                        refine lv_iconst (v := nI 2) E.1.1 E.1.2.1 dX4_stays_164 rfl ?_
                        refine CM.callVi (n := 3) E (c_X4_at l D cI cJ cZ ad τ b k 2 (by omega)) ml_X4_99 im_X4_at se_X4_at ini_X4 co_X4_at hd_X4_at ⟨Nat.le_of_ble_eq_true rfl, Nat.le_of_ble_eq_true rfl⟩ ⟨Nat.le_refl _, Nat.le_refl _⟩ 0 rfl rfl hP (hD _) hS hA2 rfl hl.1 (Nat.le_of_ble_eq_true rfl) dX4_stays_165 rfl (fun H locs hP hS => ?_)
                        refine tpi (y := nI (yM τ (10 * b + k))) (by rw [at2]; exact (CI_y hT.1.2 (by omega)).1) ?_
                        refine ld_MS_ho (i := yM τ (10 * b + k)) E hP (by have := (CI_y hT.1.2 (p := 10 * b + k) (by omega)).2; omega) dX4_stays_168 ?_
                        refine bv_if_ne (x := gmho τ (yM τ (10 * b + k))) E dX4_stays_169 (tgt := 176) (by decide) (fun h169 => ?_) (fun h169 => ?_)
                        · refine lv_iconst (v := nI 0) E.1.1 E.1.2.1 dX4_stays_176 rfl ?_
                          refine lv_istore_n (lv' := [(3, .int (nI 0)), (5, .int (nI (kM τ (10 * b + k)))), (0, .ref (ad 0)), (1, .int (nI b)), (2, .int (nI j)), (4, .int (nI k))]) E.1.1 E.1.2.1 dX4_stays_177 rfl hl (by decide) rfl (fun ls hl => ?_)
                          refine lv_iload E.1.1 E.1.2.1 dX4_stays_178 (lv_at hl 1 rfl) ?_
                          refine lv_bipush (v := nI 7) E.1.1 E.1.2.1 dX4_stays_180 rfl ?_
                          refine nv_icmp_ne (by omega) (by omega) E dX4_stays_182 (tgt := 204) (by decide) (fun h182 => ?_) (fun h182 => ?_)
                          · refine lv_iload E.1.1 E.1.2.1 dX4_stays_204 (lv_at hl 1 rfl) ?_
                            refine lv_bipush (v := nI 11) E.1.1 E.1.2.1 dX4_stays_206 rfl ?_
                            refine nv_icmp_ne (by omega) (by omega) E dX4_stays_208 (tgt := 237) (by decide) (fun h208 => ?_) (fun h208 => ?_)
                            · refine lv_iinc (v := nI (k + 1)) (lv' := [(4, .int (nI (k + 1))), (3, .int (nI 0)), (5, .int (nI (kM τ (10 * b + k)))), (0, .ref (ad 0)), (1, .int (nI b)), (2, .int (nI j))]) E.1.1 E.1.2.1 dX4_stays_237 hl (k := 5) rfl (nI_add k 1) (by decide) rfl (fun ls hl => ?_)
                              refine lv_goto (tgt := 117) E.1.1 E.1.2.1 dX4_stays_240 (by decide) ?_
                              exact ih117 (k + 1) false _ _ _ (by omega) (by first | (exfalso; omega) | (rw [hv3, itN]; simp [s3S, *]; done)) hP hS (lv_sub hl [3, 4, 5, 1, 0] rfl)
                            · refine lv_iload_n E.1.1 E.1.2.1 dX4_stays_211 rfl (lv_at hl 0 rfl) ?_
                              refine nv_if_eq (by omega) E dX4_stays_212 (tgt := 235) (by decide) (fun h212 => ?_) (fun h212 => ?_)
                              · refine lv_iconst (v := nI 0) E.1.1 E.1.2.1 dX4_stays_235 rfl ?_
                                refine lv_istore_n (lv' := [(3, .int (nI 0)), (5, .int (nI (kM τ (10 * b + k)))), (0, .ref (ad 0)), (1, .int (nI b)), (2, .int (nI j)), (4, .int (nI k))]) E.1.1 E.1.2.1 dX4_stays_236 rfl hl (by decide) rfl (fun ls hl => ?_)
                                refine lv_iinc (v := nI (k + 1)) (lv' := [(4, .int (nI (k + 1))), (3, .int (nI 0)), (5, .int (nI (kM τ (10 * b + k)))), (0, .ref (ad 0)), (1, .int (nI b)), (2, .int (nI j))]) E.1.1 E.1.2.1 dX4_stays_237 hl (k := 5) rfl (nI_add k 1) (by decide) rfl (fun ls hl => ?_)
                                refine lv_goto (tgt := 117) E.1.1 E.1.2.1 dX4_stays_240 (by decide) ?_
                                exact ih117 (k + 1) false _ _ _ (by omega) (by first | (exfalso; omega) | (rw [hv3, itN]; simp [s3S, *]; done)) hP hS (lv_sub hl [3, 4, 5, 1, 0] rfl)
                              · exact absurd h212 (by omega)
                          · refine lv_iload_n E.1.1 E.1.2.1 dX4_stays_185 rfl (lv_at hl 0 rfl) ?_
                            refine nv_if_eq (by omega) E dX4_stays_186 (tgt := 202) (by decide) (fun h186 => ?_) (fun h186 => ?_)
                            · refine lv_iconst (v := nI 0) E.1.1 E.1.2.1 dX4_stays_202 rfl ?_
                              refine lv_istore_n (lv' := [(3, .int (nI 0)), (5, .int (nI (kM τ (10 * b + k)))), (0, .ref (ad 0)), (1, .int (nI b)), (2, .int (nI j)), (4, .int (nI k))]) E.1.1 E.1.2.1 dX4_stays_203 rfl hl (by decide) rfl (fun ls hl => ?_)
                              refine lv_iload E.1.1 E.1.2.1 dX4_stays_204 (lv_at hl 1 rfl) ?_
                              refine lv_bipush (v := nI 11) E.1.1 E.1.2.1 dX4_stays_206 rfl ?_
                              refine nv_icmp_ne (by omega) (by omega) E dX4_stays_208 (tgt := 237) (by decide) (fun h208 => ?_) (fun h208 => ?_)
                              · refine lv_iinc (v := nI (k + 1)) (lv' := [(4, .int (nI (k + 1))), (3, .int (nI 0)), (5, .int (nI (kM τ (10 * b + k)))), (0, .ref (ad 0)), (1, .int (nI b)), (2, .int (nI j))]) E.1.1 E.1.2.1 dX4_stays_237 hl (k := 5) rfl (nI_add k 1) (by decide) rfl (fun ls hl => ?_)
                                refine lv_goto (tgt := 117) E.1.1 E.1.2.1 dX4_stays_240 (by decide) ?_
                                exact ih117 (k + 1) false _ _ _ (by omega) (by first | (exfalso; omega) | (rw [hv3, itN]; simp [s3S, *]; done)) hP hS (lv_sub hl [3, 4, 5, 1, 0] rfl)
                              · refine lv_iload_n E.1.1 E.1.2.1 dX4_stays_211 rfl (lv_at hl 0 rfl) ?_
                                refine nv_if_eq (by omega) E dX4_stays_212 (tgt := 235) (by decide) (fun h212 => ?_) (fun h212 => ?_)
                                · refine lv_iconst (v := nI 0) E.1.1 E.1.2.1 dX4_stays_235 rfl ?_
                                  refine lv_istore_n (lv' := [(3, .int (nI 0)), (5, .int (nI (kM τ (10 * b + k)))), (0, .ref (ad 0)), (1, .int (nI b)), (2, .int (nI j)), (4, .int (nI k))]) E.1.1 E.1.2.1 dX4_stays_236 rfl hl (by decide) rfl (fun ls hl => ?_)
                                  refine lv_iinc (v := nI (k + 1)) (lv' := [(4, .int (nI (k + 1))), (3, .int (nI 0)), (5, .int (nI (kM τ (10 * b + k)))), (0, .ref (ad 0)), (1, .int (nI b)), (2, .int (nI j))]) E.1.1 E.1.2.1 dX4_stays_237 hl (k := 5) rfl (nI_add k 1) (by decide) rfl (fun ls hl => ?_)
                                  refine lv_goto (tgt := 117) E.1.1 E.1.2.1 dX4_stays_240 (by decide) ?_
                                  exact ih117 (k + 1) false _ _ _ (by omega) (by first | (exfalso; omega) | (rw [hv3, itN]; simp [s3S, *]; done)) hP hS (lv_sub hl [3, 4, 5, 1, 0] rfl)
                                · exact absurd h212 (by omega)
                            · exact absurd h186 (by omega)
                        · refine lv_iconst (v := nI 1) E.1.1 E.1.2.1 dX4_stays_172 rfl ?_
                          refine lv_goto (tgt := 177) E.1.1 E.1.2.1 dX4_stays_173 (by decide) ?_
                          refine lv_istore_n (lv' := [(3, .int (nI 1)), (5, .int (nI (kM τ (10 * b + k)))), (0, .ref (ad 0)), (1, .int (nI b)), (2, .int (nI j)), (4, .int (nI k))]) E.1.1 E.1.2.1 dX4_stays_177 rfl hl (by decide) rfl (fun ls hl => ?_)
                          refine lv_iload E.1.1 E.1.2.1 dX4_stays_178 (lv_at hl 1 rfl) ?_
                          refine lv_bipush (v := nI 7) E.1.1 E.1.2.1 dX4_stays_180 rfl ?_
                          refine nv_icmp_ne (by omega) (by omega) E dX4_stays_182 (tgt := 204) (by decide) (fun h182 => ?_) (fun h182 => ?_)
                          · refine lv_iload E.1.1 E.1.2.1 dX4_stays_204 (lv_at hl 1 rfl) ?_
                            refine lv_bipush (v := nI 11) E.1.1 E.1.2.1 dX4_stays_206 rfl ?_
                            refine nv_icmp_ne (by omega) (by omega) E dX4_stays_208 (tgt := 237) (by decide) (fun h208 => ?_) (fun h208 => ?_)
                            · refine lv_iinc (v := nI (k + 1)) (lv' := [(4, .int (nI (k + 1))), (3, .int (nI 1)), (5, .int (nI (kM τ (10 * b + k)))), (0, .ref (ad 0)), (1, .int (nI b)), (2, .int (nI j))]) E.1.1 E.1.2.1 dX4_stays_237 hl (k := 5) rfl (nI_add k 1) (by decide) rfl (fun ls hl => ?_)
                              refine lv_goto (tgt := 117) E.1.1 E.1.2.1 dX4_stays_240 (by decide) ?_
                              exact ih117 (k + 1) true _ _ _ (by omega) (by first | (exfalso; omega) | (rw [hv3, itN]; simp [s3S, *]; done)) hP hS (lv_sub hl [3, 4, 5, 1, 0] rfl)
                            · refine lv_iload_n E.1.1 E.1.2.1 dX4_stays_211 rfl (lv_at hl 0 rfl) ?_
                              refine nv_if_eq (by omega) E dX4_stays_212 (tgt := 235) (by decide) (fun h212 => ?_) (fun h212 => ?_)
                              · exact absurd h212 (by omega)
                              · refine lv_aload_n E.1.1 E.1.2.1 dX4_stays_215 rfl (lv_at hl 2 rfl) ?_
                                refine gt_X4_holder E fl_X4_36 hP dX4_stays_216 ?_
                                refine lv_aload_n E.1.1 E.1.2.1 dX4_stays_219 rfl (lv_at hl 2 rfl) ?_
                                refine lv_iload_n E.1.1 E.1.2.1 dX4_stays_220 rfl (lv_at hl 3 rfl) ?_
                                refine lv_iload E.1.1 E.1.2.1 dX4_stays_221 (lv_at hl 5 rfl) ?_
                                refine lv_iconst (v := nI 1) E.1.1 E.1.2.1 dX4_stays_223 rfl ?_
                                refine CM.callVi (n := 3) E (c_X4_at l D cI cJ cZ ad τ b k 1 (by omega)) ml_X4_99 im_X4_at se_X4_at ini_X4 co_X4_at hd_X4_at ⟨Nat.le_of_ble_eq_true rfl, Nat.le_of_ble_eq_true rfl⟩ ⟨Nat.le_refl _, Nat.le_refl _⟩ 0 rfl rfl hP (hD _) hS hA2 rfl hl.1 (Nat.le_of_ble_eq_true rfl) dX4_stays_224 rfl (fun H locs hP hS => ?_)
                                refine tpi (y := nI (xM τ (10 * b + k))) (at1 hT.1.2 b k) ?_
                                refine ld_MS_ho (i := xM τ (10 * b + k)) E hP (by have := (hT.1.2 (10 * b + k)).2.1.2; omega) dX4_stays_227 ?_
                                refine bv_if_ne (x := gmho τ (xM τ (10 * b + k))) E dX4_stays_228 (tgt := 235) (by decide) (fun h228 => ?_) (fun h228 => ?_)
                                · refine lv_iconst (v := nI 0) E.1.1 E.1.2.1 dX4_stays_235 rfl ?_
                                  refine lv_istore_n (lv' := [(3, .int (nI 0)), (5, .int (nI (kM τ (10 * b + k)))), (0, .ref (ad 0)), (1, .int (nI b)), (2, .int (nI j)), (4, .int (nI k))]) E.1.1 E.1.2.1 dX4_stays_236 rfl hl (by decide) rfl (fun ls hl => ?_)
                                  refine lv_iinc (v := nI (k + 1)) (lv' := [(4, .int (nI (k + 1))), (3, .int (nI 0)), (5, .int (nI (kM τ (10 * b + k)))), (0, .ref (ad 0)), (1, .int (nI b)), (2, .int (nI j))]) E.1.1 E.1.2.1 dX4_stays_237 hl (k := 5) rfl (nI_add k 1) (by decide) rfl (fun ls hl => ?_)
                                  refine lv_goto (tgt := 117) E.1.1 E.1.2.1 dX4_stays_240 (by decide) ?_
                                  exact ih117 (k + 1) false _ _ _ (by omega) (by first | (exfalso; omega) | (rw [hv3, itN]; simp [s3S, *]; done)) hP hS (lv_sub hl [3, 4, 5, 1, 0] rfl)
                                · refine lv_iconst (v := nI 1) E.1.1 E.1.2.1 dX4_stays_231 rfl ?_
                                  refine lv_goto (tgt := 236) E.1.1 E.1.2.1 dX4_stays_232 (by decide) ?_
                                  refine lv_istore_n (lv' := [(3, .int (nI 1)), (5, .int (nI (kM τ (10 * b + k)))), (0, .ref (ad 0)), (1, .int (nI b)), (2, .int (nI j)), (4, .int (nI k))]) E.1.1 E.1.2.1 dX4_stays_236 rfl hl (by decide) rfl (fun ls hl => ?_)
                                  refine lv_iinc (v := nI (k + 1)) (lv' := [(4, .int (nI (k + 1))), (3, .int (nI 1)), (5, .int (nI (kM τ (10 * b + k)))), (0, .ref (ad 0)), (1, .int (nI b)), (2, .int (nI j))]) E.1.1 E.1.2.1 dX4_stays_237 hl (k := 5) rfl (nI_add k 1) (by decide) rfl (fun ls hl => ?_)
                                  refine lv_goto (tgt := 117) E.1.1 E.1.2.1 dX4_stays_240 (by decide) ?_
                                  exact ih117 (k + 1) true _ _ _ (by omega) (by first | (exfalso; omega) | (rw [hv3, itN]; simp [s3S, *]; done)) hP hS (lv_sub hl [3, 4, 5, 1, 0] rfl)
                          · refine lv_iload_n E.1.1 E.1.2.1 dX4_stays_185 rfl (lv_at hl 0 rfl) ?_
                            refine nv_if_eq (by omega) E dX4_stays_186 (tgt := 202) (by decide) (fun h186 => ?_) (fun h186 => ?_)
                            · exact absurd h186 (by omega)
                            · refine lv_aload_n E.1.1 E.1.2.1 dX4_stays_189 rfl (lv_at hl 2 rfl) ?_
                              refine gt_X4_holder E fl_X4_36 hP dX4_stays_190 ?_
                              refine lv_iconst (v := nI 5) E.1.1 E.1.2.1 dX4_stays_193 rfl ?_
                              refine ld_MS_ho (i := 5) E hP (by omega) dX4_stays_194 ?_
                              refine bv_if_ne (x := gmho τ 5) E dX4_stays_195 (tgt := 202) (by decide) (fun h195 => ?_) (fun h195 => ?_)
                              · refine lv_iconst (v := nI 0) E.1.1 E.1.2.1 dX4_stays_202 rfl ?_
                                refine lv_istore_n (lv' := [(3, .int (nI 0)), (5, .int (nI (kM τ (10 * b + k)))), (0, .ref (ad 0)), (1, .int (nI b)), (2, .int (nI j)), (4, .int (nI k))]) E.1.1 E.1.2.1 dX4_stays_203 rfl hl (by decide) rfl (fun ls hl => ?_)
                                refine lv_iload E.1.1 E.1.2.1 dX4_stays_204 (lv_at hl 1 rfl) ?_
                                refine lv_bipush (v := nI 11) E.1.1 E.1.2.1 dX4_stays_206 rfl ?_
                                refine nv_icmp_ne (by omega) (by omega) E dX4_stays_208 (tgt := 237) (by decide) (fun h208 => ?_) (fun h208 => ?_)
                                · refine lv_iinc (v := nI (k + 1)) (lv' := [(4, .int (nI (k + 1))), (3, .int (nI 0)), (5, .int (nI (kM τ (10 * b + k)))), (0, .ref (ad 0)), (1, .int (nI b)), (2, .int (nI j))]) E.1.1 E.1.2.1 dX4_stays_237 hl (k := 5) rfl (nI_add k 1) (by decide) rfl (fun ls hl => ?_)
                                  refine lv_goto (tgt := 117) E.1.1 E.1.2.1 dX4_stays_240 (by decide) ?_
                                  exact ih117 (k + 1) false _ _ _ (by omega) (by first | (exfalso; omega) | (rw [hv3, itN]; simp [s3S, *]; done)) hP hS (lv_sub hl [3, 4, 5, 1, 0] rfl)
                                · refine lv_iload_n E.1.1 E.1.2.1 dX4_stays_211 rfl (lv_at hl 0 rfl) ?_
                                  refine nv_if_eq (by omega) E dX4_stays_212 (tgt := 235) (by decide) (fun h212 => ?_) (fun h212 => ?_)
                                  · refine lv_iconst (v := nI 0) E.1.1 E.1.2.1 dX4_stays_235 rfl ?_
                                    refine lv_istore_n (lv' := [(3, .int (nI 0)), (5, .int (nI (kM τ (10 * b + k)))), (0, .ref (ad 0)), (1, .int (nI b)), (2, .int (nI j)), (4, .int (nI k))]) E.1.1 E.1.2.1 dX4_stays_236 rfl hl (by decide) rfl (fun ls hl => ?_)
                                    refine lv_iinc (v := nI (k + 1)) (lv' := [(4, .int (nI (k + 1))), (3, .int (nI 0)), (5, .int (nI (kM τ (10 * b + k)))), (0, .ref (ad 0)), (1, .int (nI b)), (2, .int (nI j))]) E.1.1 E.1.2.1 dX4_stays_237 hl (k := 5) rfl (nI_add k 1) (by decide) rfl (fun ls hl => ?_)
                                    refine lv_goto (tgt := 117) E.1.1 E.1.2.1 dX4_stays_240 (by decide) ?_
                                    exact ih117 (k + 1) false _ _ _ (by omega) (by first | (exfalso; omega) | (rw [hv3, itN]; simp [s3S, *]; done)) hP hS (lv_sub hl [3, 4, 5, 1, 0] rfl)
                                  · exact absurd h212 (by omega)
                              · refine lv_iconst (v := nI 1) E.1.1 E.1.2.1 dX4_stays_198 rfl ?_
                                refine lv_goto (tgt := 203) E.1.1 E.1.2.1 dX4_stays_199 (by decide) ?_
                                refine lv_istore_n (lv' := [(3, .int (nI 1)), (5, .int (nI (kM τ (10 * b + k)))), (0, .ref (ad 0)), (1, .int (nI b)), (2, .int (nI j)), (4, .int (nI k))]) E.1.1 E.1.2.1 dX4_stays_203 rfl hl (by decide) rfl (fun ls hl => ?_)
                                refine lv_iload E.1.1 E.1.2.1 dX4_stays_204 (lv_at hl 1 rfl) ?_
                                refine lv_bipush (v := nI 11) E.1.1 E.1.2.1 dX4_stays_206 rfl ?_
                                refine nv_icmp_ne (by omega) (by omega) E dX4_stays_208 (tgt := 237) (by decide) (fun h208 => ?_) (fun h208 => ?_)
                                · refine lv_iinc (v := nI (k + 1)) (lv' := [(4, .int (nI (k + 1))), (3, .int (nI 1)), (5, .int (nI (kM τ (10 * b + k)))), (0, .ref (ad 0)), (1, .int (nI b)), (2, .int (nI j))]) E.1.1 E.1.2.1 dX4_stays_237 hl (k := 5) rfl (nI_add k 1) (by decide) rfl (fun ls hl => ?_)
                                  refine lv_goto (tgt := 117) E.1.1 E.1.2.1 dX4_stays_240 (by decide) ?_
                                  exact ih117 (k + 1) true _ _ _ (by omega) (by first | (exfalso; omega) | (rw [hv3, itN]; simp [s3S, *]; done)) hP hS (lv_sub hl [3, 4, 5, 1, 0] rfl)
                                · refine lv_iload_n E.1.1 E.1.2.1 dX4_stays_211 rfl (lv_at hl 0 rfl) ?_
                                  refine nv_if_eq (by omega) E dX4_stays_212 (tgt := 235) (by decide) (fun h212 => ?_) (fun h212 => ?_)
                                  · exact absurd h212 (by omega)
                                  · refine lv_aload_n E.1.1 E.1.2.1 dX4_stays_215 rfl (lv_at hl 2 rfl) ?_
                                    refine gt_X4_holder E fl_X4_36 hP dX4_stays_216 ?_
                                    refine lv_aload_n E.1.1 E.1.2.1 dX4_stays_219 rfl (lv_at hl 2 rfl) ?_
                                    refine lv_iload_n E.1.1 E.1.2.1 dX4_stays_220 rfl (lv_at hl 3 rfl) ?_
                                    refine lv_iload E.1.1 E.1.2.1 dX4_stays_221 (lv_at hl 5 rfl) ?_
                                    refine lv_iconst (v := nI 1) E.1.1 E.1.2.1 dX4_stays_223 rfl ?_
                                    refine CM.callVi (n := 3) E (c_X4_at l D cI cJ cZ ad τ b k 1 (by omega)) ml_X4_99 im_X4_at se_X4_at ini_X4 co_X4_at hd_X4_at ⟨Nat.le_of_ble_eq_true rfl, Nat.le_of_ble_eq_true rfl⟩ ⟨Nat.le_refl _, Nat.le_refl _⟩ 0 rfl rfl hP (hD _) hS hA2 rfl hl.1 (Nat.le_of_ble_eq_true rfl) dX4_stays_224 rfl (fun H locs hP hS => ?_)
                                    refine tpi (y := nI (xM τ (10 * b + k))) (at1 hT.1.2 b k) ?_
                                    refine ld_MS_ho (i := xM τ (10 * b + k)) E hP (by have := (hT.1.2 (10 * b + k)).2.1.2; omega) dX4_stays_227 ?_
                                    refine bv_if_ne (x := gmho τ (xM τ (10 * b + k))) E dX4_stays_228 (tgt := 235) (by decide) (fun h228 => ?_) (fun h228 => ?_)
                                    · refine lv_iconst (v := nI 0) E.1.1 E.1.2.1 dX4_stays_235 rfl ?_
                                      refine lv_istore_n (lv' := [(3, .int (nI 0)), (5, .int (nI (kM τ (10 * b + k)))), (0, .ref (ad 0)), (1, .int (nI b)), (2, .int (nI j)), (4, .int (nI k))]) E.1.1 E.1.2.1 dX4_stays_236 rfl hl (by decide) rfl (fun ls hl => ?_)
                                      refine lv_iinc (v := nI (k + 1)) (lv' := [(4, .int (nI (k + 1))), (3, .int (nI 0)), (5, .int (nI (kM τ (10 * b + k)))), (0, .ref (ad 0)), (1, .int (nI b)), (2, .int (nI j))]) E.1.1 E.1.2.1 dX4_stays_237 hl (k := 5) rfl (nI_add k 1) (by decide) rfl (fun ls hl => ?_)
                                      refine lv_goto (tgt := 117) E.1.1 E.1.2.1 dX4_stays_240 (by decide) ?_
                                      exact ih117 (k + 1) false _ _ _ (by omega) (by first | (exfalso; omega) | (rw [hv3, itN]; simp [s3S, *]; done)) hP hS (lv_sub hl [3, 4, 5, 1, 0] rfl)
                                    · refine lv_iconst (v := nI 1) E.1.1 E.1.2.1 dX4_stays_231 rfl ?_
                                      refine lv_goto (tgt := 236) E.1.1 E.1.2.1 dX4_stays_232 (by decide) ?_
                                      refine lv_istore_n (lv' := [(3, .int (nI 1)), (5, .int (nI (kM τ (10 * b + k)))), (0, .ref (ad 0)), (1, .int (nI b)), (2, .int (nI j)), (4, .int (nI k))]) E.1.1 E.1.2.1 dX4_stays_236 rfl hl (by decide) rfl (fun ls hl => ?_)
                                      refine lv_iinc (v := nI (k + 1)) (lv' := [(4, .int (nI (k + 1))), (3, .int (nI 1)), (5, .int (nI (kM τ (10 * b + k)))), (0, .ref (ad 0)), (1, .int (nI b)), (2, .int (nI j))]) E.1.1 E.1.2.1 dX4_stays_237 hl (k := 5) rfl (nI_add k 1) (by decide) rfl (fun ls hl => ?_)
                                      refine lv_goto (tgt := 117) E.1.1 E.1.2.1 dX4_stays_240 (by decide) ?_
                                      exact ih117 (k + 1) true _ _ _ (by omega) (by first | (exfalso; omega) | (rw [hv3, itN]; simp [s3S, *]; done)) hP hS (lv_sub hl [3, 4, 5, 1, 0] rfl)
                    · refine lv_iload E.1.1 E.1.2.1 dX4_stays_145 (lv_at hl 0 rfl) ?_
                      refine lv_bipush (v := nI 7) E.1.1 E.1.2.1 dX4_stays_147 rfl ?_
                      refine nv_icmp_ne (by omega) (by omega) E dX4_stays_149 (tgt := 178) (by decide) (fun h149 => ?_) (fun h149 => ?_)
                      · refine lv_iload E.1.1 E.1.2.1 dX4_stays_178 (lv_at hl 0 rfl) ?_
                        refine lv_bipush (v := nI 7) E.1.1 E.1.2.1 dX4_stays_180 rfl ?_
                        refine nv_icmp_ne (by omega) (by omega) E dX4_stays_182 (tgt := 204) (by decide) (fun h182 => ?_) (fun h182 => ?_)
                        · refine lv_iload E.1.1 E.1.2.1 dX4_stays_204 (lv_at hl 0 rfl) ?_
                          refine lv_bipush (v := nI 11) E.1.1 E.1.2.1 dX4_stays_206 rfl ?_
                          refine nv_icmp_ne (by omega) (by omega) E dX4_stays_208 (tgt := 237) (by decide) (fun h208 => ?_) (fun h208 => ?_)
                          · refine lv_iinc (v := nI (k + 1)) (lv' := [(4, .int (nI (k + 1))), (5, .int (nI (kM τ (10 * b + k)))), (0, .ref (ad 0)), (1, .int (nI b)), (2, .int (nI j)), (3, .int (bI x))]) E.1.1 E.1.2.1 dX4_stays_237 hl (k := 5) rfl (nI_add k 1) (by decide) rfl (fun ls hl => ?_)
                            refine lv_goto (tgt := 117) E.1.1 E.1.2.1 dX4_stays_240 (by decide) ?_
                            exact ih117 (k + 1) x _ _ _ (by omega) (by first | (exfalso; omega) | (rw [hv3, itN]; simp [s3S, *]; done)) hP hS (lv_sub hl [2, 3, 4, 5, 0] rfl)
                          · refine lv_iload_n E.1.1 E.1.2.1 dX4_stays_211 rfl (lv_at hl 4 rfl) ?_
                            refine bv_if_eq (x := x) E dX4_stays_212 (tgt := 235) (by decide) (fun h212 => ?_) (fun h212 => ?_)
                            · refine lv_iconst (v := nI 0) E.1.1 E.1.2.1 dX4_stays_235 rfl ?_
                              refine lv_istore_n (lv' := [(3, .int (nI 0)), (5, .int (nI (kM τ (10 * b + k)))), (0, .ref (ad 0)), (1, .int (nI b)), (2, .int (nI j)), (4, .int (nI k))]) E.1.1 E.1.2.1 dX4_stays_236 rfl hl (by decide) rfl (fun ls hl => ?_)
                              refine lv_iinc (v := nI (k + 1)) (lv' := [(4, .int (nI (k + 1))), (3, .int (nI 0)), (5, .int (nI (kM τ (10 * b + k)))), (0, .ref (ad 0)), (1, .int (nI b)), (2, .int (nI j))]) E.1.1 E.1.2.1 dX4_stays_237 hl (k := 5) rfl (nI_add k 1) (by decide) rfl (fun ls hl => ?_)
                              refine lv_goto (tgt := 117) E.1.1 E.1.2.1 dX4_stays_240 (by decide) ?_
                              exact ih117 (k + 1) false _ _ _ (by omega) (by first | (exfalso; omega) | (rw [hv3, itN]; simp [s3S, *]; done)) hP hS (lv_sub hl [3, 4, 5, 1, 0] rfl)
                            · refine lv_aload_n E.1.1 E.1.2.1 dX4_stays_215 rfl (lv_at hl 1 rfl) ?_
                              refine gt_X4_holder E fl_X4_36 hP dX4_stays_216 ?_
                              refine lv_aload_n E.1.1 E.1.2.1 dX4_stays_219 rfl (lv_at hl 1 rfl) ?_
                              refine lv_iload_n E.1.1 E.1.2.1 dX4_stays_220 rfl (lv_at hl 2 rfl) ?_
                              refine lv_iload E.1.1 E.1.2.1 dX4_stays_221 (lv_at hl 5 rfl) ?_
                              refine lv_iconst (v := nI 1) E.1.1 E.1.2.1 dX4_stays_223 rfl ?_
                              refine CM.callVi (n := 3) E (c_X4_at l D cI cJ cZ ad τ b k 1 (by omega)) ml_X4_99 im_X4_at se_X4_at ini_X4 co_X4_at hd_X4_at ⟨Nat.le_of_ble_eq_true rfl, Nat.le_of_ble_eq_true rfl⟩ ⟨Nat.le_refl _, Nat.le_refl _⟩ 0 rfl rfl hP (hD _) hS hA2 rfl hl.1 (Nat.le_of_ble_eq_true rfl) dX4_stays_224 rfl (fun H locs hP hS => ?_)
                              refine tpi (y := nI (xM τ (10 * b + k))) (at1 hT.1.2 b k) ?_
                              refine ld_MS_ho (i := xM τ (10 * b + k)) E hP (by have := (hT.1.2 (10 * b + k)).2.1.2; omega) dX4_stays_227 ?_
                              refine bv_if_ne (x := gmho τ (xM τ (10 * b + k))) E dX4_stays_228 (tgt := 235) (by decide) (fun h228 => ?_) (fun h228 => ?_)
                              · refine lv_iconst (v := nI 0) E.1.1 E.1.2.1 dX4_stays_235 rfl ?_
                                refine lv_istore_n (lv' := [(3, .int (nI 0)), (5, .int (nI (kM τ (10 * b + k)))), (0, .ref (ad 0)), (1, .int (nI b)), (2, .int (nI j)), (4, .int (nI k))]) E.1.1 E.1.2.1 dX4_stays_236 rfl hl (by decide) rfl (fun ls hl => ?_)
                                refine lv_iinc (v := nI (k + 1)) (lv' := [(4, .int (nI (k + 1))), (3, .int (nI 0)), (5, .int (nI (kM τ (10 * b + k)))), (0, .ref (ad 0)), (1, .int (nI b)), (2, .int (nI j))]) E.1.1 E.1.2.1 dX4_stays_237 hl (k := 5) rfl (nI_add k 1) (by decide) rfl (fun ls hl => ?_)
                                refine lv_goto (tgt := 117) E.1.1 E.1.2.1 dX4_stays_240 (by decide) ?_
                                exact ih117 (k + 1) false _ _ _ (by omega) (by first | (exfalso; omega) | (rw [hv3, itN]; simp [s3S, *]; done)) hP hS (lv_sub hl [3, 4, 5, 1, 0] rfl)
                              · refine lv_iconst (v := nI 1) E.1.1 E.1.2.1 dX4_stays_231 rfl ?_
                                refine lv_goto (tgt := 236) E.1.1 E.1.2.1 dX4_stays_232 (by decide) ?_
                                refine lv_istore_n (lv' := [(3, .int (nI 1)), (5, .int (nI (kM τ (10 * b + k)))), (0, .ref (ad 0)), (1, .int (nI b)), (2, .int (nI j)), (4, .int (nI k))]) E.1.1 E.1.2.1 dX4_stays_236 rfl hl (by decide) rfl (fun ls hl => ?_)
                                refine lv_iinc (v := nI (k + 1)) (lv' := [(4, .int (nI (k + 1))), (3, .int (nI 1)), (5, .int (nI (kM τ (10 * b + k)))), (0, .ref (ad 0)), (1, .int (nI b)), (2, .int (nI j))]) E.1.1 E.1.2.1 dX4_stays_237 hl (k := 5) rfl (nI_add k 1) (by decide) rfl (fun ls hl => ?_)
                                refine lv_goto (tgt := 117) E.1.1 E.1.2.1 dX4_stays_240 (by decide) ?_
                                exact ih117 (k + 1) true _ _ _ (by omega) (by first | (exfalso; omega) | (rw [hv3, itN]; simp [s3S, *]; done)) hP hS (lv_sub hl [3, 4, 5, 1, 0] rfl)
                        · refine lv_iload_n E.1.1 E.1.2.1 dX4_stays_185 rfl (lv_at hl 4 rfl) ?_
                          refine bv_if_eq (x := x) E dX4_stays_186 (tgt := 202) (by decide) (fun h186 => ?_) (fun h186 => ?_)
                          · refine lv_iconst (v := nI 0) E.1.1 E.1.2.1 dX4_stays_202 rfl ?_
                            refine lv_istore_n (lv' := [(3, .int (nI 0)), (5, .int (nI (kM τ (10 * b + k)))), (0, .ref (ad 0)), (1, .int (nI b)), (2, .int (nI j)), (4, .int (nI k))]) E.1.1 E.1.2.1 dX4_stays_203 rfl hl (by decide) rfl (fun ls hl => ?_)
                            refine lv_iload E.1.1 E.1.2.1 dX4_stays_204 (lv_at hl 1 rfl) ?_
                            refine lv_bipush (v := nI 11) E.1.1 E.1.2.1 dX4_stays_206 rfl ?_
                            refine nv_icmp_ne (by omega) (by omega) E dX4_stays_208 (tgt := 237) (by decide) (fun h208 => ?_) (fun h208 => ?_)
                            · refine lv_iinc (v := nI (k + 1)) (lv' := [(4, .int (nI (k + 1))), (3, .int (nI 0)), (5, .int (nI (kM τ (10 * b + k)))), (0, .ref (ad 0)), (1, .int (nI b)), (2, .int (nI j))]) E.1.1 E.1.2.1 dX4_stays_237 hl (k := 5) rfl (nI_add k 1) (by decide) rfl (fun ls hl => ?_)
                              refine lv_goto (tgt := 117) E.1.1 E.1.2.1 dX4_stays_240 (by decide) ?_
                              exact ih117 (k + 1) false _ _ _ (by omega) (by first | (exfalso; omega) | (rw [hv3, itN]; simp [s3S, *]; done)) hP hS (lv_sub hl [3, 4, 5, 1, 0] rfl)
                            · refine lv_iload_n E.1.1 E.1.2.1 dX4_stays_211 rfl (lv_at hl 0 rfl) ?_
                              refine nv_if_eq (by omega) E dX4_stays_212 (tgt := 235) (by decide) (fun h212 => ?_) (fun h212 => ?_)
                              · refine lv_iconst (v := nI 0) E.1.1 E.1.2.1 dX4_stays_235 rfl ?_
                                refine lv_istore_n (lv' := [(3, .int (nI 0)), (5, .int (nI (kM τ (10 * b + k)))), (0, .ref (ad 0)), (1, .int (nI b)), (2, .int (nI j)), (4, .int (nI k))]) E.1.1 E.1.2.1 dX4_stays_236 rfl hl (by decide) rfl (fun ls hl => ?_)
                                refine lv_iinc (v := nI (k + 1)) (lv' := [(4, .int (nI (k + 1))), (3, .int (nI 0)), (5, .int (nI (kM τ (10 * b + k)))), (0, .ref (ad 0)), (1, .int (nI b)), (2, .int (nI j))]) E.1.1 E.1.2.1 dX4_stays_237 hl (k := 5) rfl (nI_add k 1) (by decide) rfl (fun ls hl => ?_)
                                refine lv_goto (tgt := 117) E.1.1 E.1.2.1 dX4_stays_240 (by decide) ?_
                                exact ih117 (k + 1) false _ _ _ (by omega) (by first | (exfalso; omega) | (rw [hv3, itN]; simp [s3S, *]; done)) hP hS (lv_sub hl [3, 4, 5, 1, 0] rfl)
                              · exact absurd h212 (by omega)
                          · refine lv_aload_n E.1.1 E.1.2.1 dX4_stays_189 rfl (lv_at hl 1 rfl) ?_
                            refine gt_X4_holder E fl_X4_36 hP dX4_stays_190 ?_
                            refine lv_iconst (v := nI 5) E.1.1 E.1.2.1 dX4_stays_193 rfl ?_
                            refine ld_MS_ho (i := 5) E hP (by omega) dX4_stays_194 ?_
                            refine bv_if_ne (x := gmho τ 5) E dX4_stays_195 (tgt := 202) (by decide) (fun h195 => ?_) (fun h195 => ?_)
                            · refine lv_iconst (v := nI 0) E.1.1 E.1.2.1 dX4_stays_202 rfl ?_
                              refine lv_istore_n (lv' := [(3, .int (nI 0)), (5, .int (nI (kM τ (10 * b + k)))), (0, .ref (ad 0)), (1, .int (nI b)), (2, .int (nI j)), (4, .int (nI k))]) E.1.1 E.1.2.1 dX4_stays_203 rfl hl (by decide) rfl (fun ls hl => ?_)
                              refine lv_iload E.1.1 E.1.2.1 dX4_stays_204 (lv_at hl 1 rfl) ?_
                              refine lv_bipush (v := nI 11) E.1.1 E.1.2.1 dX4_stays_206 rfl ?_
                              refine nv_icmp_ne (by omega) (by omega) E dX4_stays_208 (tgt := 237) (by decide) (fun h208 => ?_) (fun h208 => ?_)
                              · refine lv_iinc (v := nI (k + 1)) (lv' := [(4, .int (nI (k + 1))), (3, .int (nI 0)), (5, .int (nI (kM τ (10 * b + k)))), (0, .ref (ad 0)), (1, .int (nI b)), (2, .int (nI j))]) E.1.1 E.1.2.1 dX4_stays_237 hl (k := 5) rfl (nI_add k 1) (by decide) rfl (fun ls hl => ?_)
                                refine lv_goto (tgt := 117) E.1.1 E.1.2.1 dX4_stays_240 (by decide) ?_
                                exact ih117 (k + 1) false _ _ _ (by omega) (by first | (exfalso; omega) | (rw [hv3, itN]; simp [s3S, *]; done)) hP hS (lv_sub hl [3, 4, 5, 1, 0] rfl)
                              · refine lv_iload_n E.1.1 E.1.2.1 dX4_stays_211 rfl (lv_at hl 0 rfl) ?_
                                refine nv_if_eq (by omega) E dX4_stays_212 (tgt := 235) (by decide) (fun h212 => ?_) (fun h212 => ?_)
                                · refine lv_iconst (v := nI 0) E.1.1 E.1.2.1 dX4_stays_235 rfl ?_
                                  refine lv_istore_n (lv' := [(3, .int (nI 0)), (5, .int (nI (kM τ (10 * b + k)))), (0, .ref (ad 0)), (1, .int (nI b)), (2, .int (nI j)), (4, .int (nI k))]) E.1.1 E.1.2.1 dX4_stays_236 rfl hl (by decide) rfl (fun ls hl => ?_)
                                  refine lv_iinc (v := nI (k + 1)) (lv' := [(4, .int (nI (k + 1))), (3, .int (nI 0)), (5, .int (nI (kM τ (10 * b + k)))), (0, .ref (ad 0)), (1, .int (nI b)), (2, .int (nI j))]) E.1.1 E.1.2.1 dX4_stays_237 hl (k := 5) rfl (nI_add k 1) (by decide) rfl (fun ls hl => ?_)
                                  refine lv_goto (tgt := 117) E.1.1 E.1.2.1 dX4_stays_240 (by decide) ?_
                                  exact ih117 (k + 1) false _ _ _ (by omega) (by first | (exfalso; omega) | (rw [hv3, itN]; simp [s3S, *]; done)) hP hS (lv_sub hl [3, 4, 5, 1, 0] rfl)
                                · exact absurd h212 (by omega)
                            · refine lv_iconst (v := nI 1) E.1.1 E.1.2.1 dX4_stays_198 rfl ?_
                              refine lv_goto (tgt := 203) E.1.1 E.1.2.1 dX4_stays_199 (by decide) ?_
                              refine lv_istore_n (lv' := [(3, .int (nI 1)), (5, .int (nI (kM τ (10 * b + k)))), (0, .ref (ad 0)), (1, .int (nI b)), (2, .int (nI j)), (4, .int (nI k))]) E.1.1 E.1.2.1 dX4_stays_203 rfl hl (by decide) rfl (fun ls hl => ?_)
                              refine lv_iload E.1.1 E.1.2.1 dX4_stays_204 (lv_at hl 1 rfl) ?_
                              refine lv_bipush (v := nI 11) E.1.1 E.1.2.1 dX4_stays_206 rfl ?_
                              refine nv_icmp_ne (by omega) (by omega) E dX4_stays_208 (tgt := 237) (by decide) (fun h208 => ?_) (fun h208 => ?_)
                              · refine lv_iinc (v := nI (k + 1)) (lv' := [(4, .int (nI (k + 1))), (3, .int (nI 1)), (5, .int (nI (kM τ (10 * b + k)))), (0, .ref (ad 0)), (1, .int (nI b)), (2, .int (nI j))]) E.1.1 E.1.2.1 dX4_stays_237 hl (k := 5) rfl (nI_add k 1) (by decide) rfl (fun ls hl => ?_)
                                refine lv_goto (tgt := 117) E.1.1 E.1.2.1 dX4_stays_240 (by decide) ?_
                                exact ih117 (k + 1) true _ _ _ (by omega) (by first | (exfalso; omega) | (rw [hv3, itN]; simp [s3S, *]; done)) hP hS (lv_sub hl [3, 4, 5, 1, 0] rfl)
                              · refine lv_iload_n E.1.1 E.1.2.1 dX4_stays_211 rfl (lv_at hl 0 rfl) ?_
                                refine nv_if_eq (by omega) E dX4_stays_212 (tgt := 235) (by decide) (fun h212 => ?_) (fun h212 => ?_)
                                · exact absurd h212 (by omega)
                                · refine lv_aload_n E.1.1 E.1.2.1 dX4_stays_215 rfl (lv_at hl 2 rfl) ?_
                                  refine gt_X4_holder E fl_X4_36 hP dX4_stays_216 ?_
                                  refine lv_aload_n E.1.1 E.1.2.1 dX4_stays_219 rfl (lv_at hl 2 rfl) ?_
                                  refine lv_iload_n E.1.1 E.1.2.1 dX4_stays_220 rfl (lv_at hl 3 rfl) ?_
                                  refine lv_iload E.1.1 E.1.2.1 dX4_stays_221 (lv_at hl 5 rfl) ?_
                                  refine lv_iconst (v := nI 1) E.1.1 E.1.2.1 dX4_stays_223 rfl ?_
                                  refine CM.callVi (n := 3) E (c_X4_at l D cI cJ cZ ad τ b k 1 (by omega)) ml_X4_99 im_X4_at se_X4_at ini_X4 co_X4_at hd_X4_at ⟨Nat.le_of_ble_eq_true rfl, Nat.le_of_ble_eq_true rfl⟩ ⟨Nat.le_refl _, Nat.le_refl _⟩ 0 rfl rfl hP (hD _) hS hA2 rfl hl.1 (Nat.le_of_ble_eq_true rfl) dX4_stays_224 rfl (fun H locs hP hS => ?_)
                                  refine tpi (y := nI (xM τ (10 * b + k))) (at1 hT.1.2 b k) ?_
                                  refine ld_MS_ho (i := xM τ (10 * b + k)) E hP (by have := (hT.1.2 (10 * b + k)).2.1.2; omega) dX4_stays_227 ?_
                                  refine bv_if_ne (x := gmho τ (xM τ (10 * b + k))) E dX4_stays_228 (tgt := 235) (by decide) (fun h228 => ?_) (fun h228 => ?_)
                                  · refine lv_iconst (v := nI 0) E.1.1 E.1.2.1 dX4_stays_235 rfl ?_
                                    refine lv_istore_n (lv' := [(3, .int (nI 0)), (5, .int (nI (kM τ (10 * b + k)))), (0, .ref (ad 0)), (1, .int (nI b)), (2, .int (nI j)), (4, .int (nI k))]) E.1.1 E.1.2.1 dX4_stays_236 rfl hl (by decide) rfl (fun ls hl => ?_)
                                    refine lv_iinc (v := nI (k + 1)) (lv' := [(4, .int (nI (k + 1))), (3, .int (nI 0)), (5, .int (nI (kM τ (10 * b + k)))), (0, .ref (ad 0)), (1, .int (nI b)), (2, .int (nI j))]) E.1.1 E.1.2.1 dX4_stays_237 hl (k := 5) rfl (nI_add k 1) (by decide) rfl (fun ls hl => ?_)
                                    refine lv_goto (tgt := 117) E.1.1 E.1.2.1 dX4_stays_240 (by decide) ?_
                                    exact ih117 (k + 1) false _ _ _ (by omega) (by first | (exfalso; omega) | (rw [hv3, itN]; simp [s3S, *]; done)) hP hS (lv_sub hl [3, 4, 5, 1, 0] rfl)
                                  · refine lv_iconst (v := nI 1) E.1.1 E.1.2.1 dX4_stays_231 rfl ?_
                                    refine lv_goto (tgt := 236) E.1.1 E.1.2.1 dX4_stays_232 (by decide) ?_
                                    refine lv_istore_n (lv' := [(3, .int (nI 1)), (5, .int (nI (kM τ (10 * b + k)))), (0, .ref (ad 0)), (1, .int (nI b)), (2, .int (nI j)), (4, .int (nI k))]) E.1.1 E.1.2.1 dX4_stays_236 rfl hl (by decide) rfl (fun ls hl => ?_)
                                    refine lv_iinc (v := nI (k + 1)) (lv' := [(4, .int (nI (k + 1))), (3, .int (nI 1)), (5, .int (nI (kM τ (10 * b + k)))), (0, .ref (ad 0)), (1, .int (nI b)), (2, .int (nI j))]) E.1.1 E.1.2.1 dX4_stays_237 hl (k := 5) rfl (nI_add k 1) (by decide) rfl (fun ls hl => ?_)
                                    refine lv_goto (tgt := 117) E.1.1 E.1.2.1 dX4_stays_240 (by decide) ?_
                                    exact ih117 (k + 1) true _ _ _ (by omega) (by first | (exfalso; omega) | (rw [hv3, itN]; simp [s3S, *]; done)) hP hS (lv_sub hl [3, 4, 5, 1, 0] rfl)
                      · refine lv_iload_n E.1.1 E.1.2.1 dX4_stays_152 rfl (lv_at hl 4 rfl) ?_
                        refine bv_if_eq (x := x) E dX4_stays_153 (tgt := 176) (by decide) (fun h153 => ?_) (fun h153 => ?_)
                        · refine lv_iconst (v := nI 0) E.1.1 E.1.2.1 dX4_stays_176 rfl ?_
                          refine lv_istore_n (lv' := [(3, .int (nI 0)), (5, .int (nI (kM τ (10 * b + k)))), (0, .ref (ad 0)), (1, .int (nI b)), (2, .int (nI j)), (4, .int (nI k))]) E.1.1 E.1.2.1 dX4_stays_177 rfl hl (by decide) rfl (fun ls hl => ?_)
                          refine lv_iload E.1.1 E.1.2.1 dX4_stays_178 (lv_at hl 1 rfl) ?_
                          refine lv_bipush (v := nI 7) E.1.1 E.1.2.1 dX4_stays_180 rfl ?_
                          refine nv_icmp_ne (by omega) (by omega) E dX4_stays_182 (tgt := 204) (by decide) (fun h182 => ?_) (fun h182 => ?_)
                          · refine lv_iload E.1.1 E.1.2.1 dX4_stays_204 (lv_at hl 1 rfl) ?_
                            refine lv_bipush (v := nI 11) E.1.1 E.1.2.1 dX4_stays_206 rfl ?_
                            refine nv_icmp_ne (by omega) (by omega) E dX4_stays_208 (tgt := 237) (by decide) (fun h208 => ?_) (fun h208 => ?_)
                            · refine lv_iinc (v := nI (k + 1)) (lv' := [(4, .int (nI (k + 1))), (3, .int (nI 0)), (5, .int (nI (kM τ (10 * b + k)))), (0, .ref (ad 0)), (1, .int (nI b)), (2, .int (nI j))]) E.1.1 E.1.2.1 dX4_stays_237 hl (k := 5) rfl (nI_add k 1) (by decide) rfl (fun ls hl => ?_)
                              refine lv_goto (tgt := 117) E.1.1 E.1.2.1 dX4_stays_240 (by decide) ?_
                              exact ih117 (k + 1) false _ _ _ (by omega) (by first | (exfalso; omega) | (rw [hv3, itN]; simp [s3S, *]; done)) hP hS (lv_sub hl [3, 4, 5, 1, 0] rfl)
                            · refine lv_iload_n E.1.1 E.1.2.1 dX4_stays_211 rfl (lv_at hl 0 rfl) ?_
                              refine nv_if_eq (by omega) E dX4_stays_212 (tgt := 235) (by decide) (fun h212 => ?_) (fun h212 => ?_)
                              · refine lv_iconst (v := nI 0) E.1.1 E.1.2.1 dX4_stays_235 rfl ?_
                                refine lv_istore_n (lv' := [(3, .int (nI 0)), (5, .int (nI (kM τ (10 * b + k)))), (0, .ref (ad 0)), (1, .int (nI b)), (2, .int (nI j)), (4, .int (nI k))]) E.1.1 E.1.2.1 dX4_stays_236 rfl hl (by decide) rfl (fun ls hl => ?_)
                                refine lv_iinc (v := nI (k + 1)) (lv' := [(4, .int (nI (k + 1))), (3, .int (nI 0)), (5, .int (nI (kM τ (10 * b + k)))), (0, .ref (ad 0)), (1, .int (nI b)), (2, .int (nI j))]) E.1.1 E.1.2.1 dX4_stays_237 hl (k := 5) rfl (nI_add k 1) (by decide) rfl (fun ls hl => ?_)
                                refine lv_goto (tgt := 117) E.1.1 E.1.2.1 dX4_stays_240 (by decide) ?_
                                exact ih117 (k + 1) false _ _ _ (by omega) (by first | (exfalso; omega) | (rw [hv3, itN]; simp [s3S, *]; done)) hP hS (lv_sub hl [3, 4, 5, 1, 0] rfl)
                              · exact absurd h212 (by omega)
                          · refine lv_iload_n E.1.1 E.1.2.1 dX4_stays_185 rfl (lv_at hl 0 rfl) ?_
                            refine nv_if_eq (by omega) E dX4_stays_186 (tgt := 202) (by decide) (fun h186 => ?_) (fun h186 => ?_)
                            · refine lv_iconst (v := nI 0) E.1.1 E.1.2.1 dX4_stays_202 rfl ?_
                              refine lv_istore_n (lv' := [(3, .int (nI 0)), (5, .int (nI (kM τ (10 * b + k)))), (0, .ref (ad 0)), (1, .int (nI b)), (2, .int (nI j)), (4, .int (nI k))]) E.1.1 E.1.2.1 dX4_stays_203 rfl hl (by decide) rfl (fun ls hl => ?_)
                              refine lv_iload E.1.1 E.1.2.1 dX4_stays_204 (lv_at hl 1 rfl) ?_
                              refine lv_bipush (v := nI 11) E.1.1 E.1.2.1 dX4_stays_206 rfl ?_
                              refine nv_icmp_ne (by omega) (by omega) E dX4_stays_208 (tgt := 237) (by decide) (fun h208 => ?_) (fun h208 => ?_)
                              · refine lv_iinc (v := nI (k + 1)) (lv' := [(4, .int (nI (k + 1))), (3, .int (nI 0)), (5, .int (nI (kM τ (10 * b + k)))), (0, .ref (ad 0)), (1, .int (nI b)), (2, .int (nI j))]) E.1.1 E.1.2.1 dX4_stays_237 hl (k := 5) rfl (nI_add k 1) (by decide) rfl (fun ls hl => ?_)
                                refine lv_goto (tgt := 117) E.1.1 E.1.2.1 dX4_stays_240 (by decide) ?_
                                exact ih117 (k + 1) false _ _ _ (by omega) (by first | (exfalso; omega) | (rw [hv3, itN]; simp [s3S, *]; done)) hP hS (lv_sub hl [3, 4, 5, 1, 0] rfl)
                              · refine lv_iload_n E.1.1 E.1.2.1 dX4_stays_211 rfl (lv_at hl 0 rfl) ?_
                                refine nv_if_eq (by omega) E dX4_stays_212 (tgt := 235) (by decide) (fun h212 => ?_) (fun h212 => ?_)
                                · refine lv_iconst (v := nI 0) E.1.1 E.1.2.1 dX4_stays_235 rfl ?_
                                  refine lv_istore_n (lv' := [(3, .int (nI 0)), (5, .int (nI (kM τ (10 * b + k)))), (0, .ref (ad 0)), (1, .int (nI b)), (2, .int (nI j)), (4, .int (nI k))]) E.1.1 E.1.2.1 dX4_stays_236 rfl hl (by decide) rfl (fun ls hl => ?_)
                                  refine lv_iinc (v := nI (k + 1)) (lv' := [(4, .int (nI (k + 1))), (3, .int (nI 0)), (5, .int (nI (kM τ (10 * b + k)))), (0, .ref (ad 0)), (1, .int (nI b)), (2, .int (nI j))]) E.1.1 E.1.2.1 dX4_stays_237 hl (k := 5) rfl (nI_add k 1) (by decide) rfl (fun ls hl => ?_)
                                  refine lv_goto (tgt := 117) E.1.1 E.1.2.1 dX4_stays_240 (by decide) ?_
                                  exact ih117 (k + 1) false _ _ _ (by omega) (by first | (exfalso; omega) | (rw [hv3, itN]; simp [s3S, *]; done)) hP hS (lv_sub hl [3, 4, 5, 1, 0] rfl)
                                · exact absurd h212 (by omega)
                            · exact absurd h186 (by omega)
                        · refine lv_aload_n E.1.1 E.1.2.1 dX4_stays_156 rfl (lv_at hl 1 rfl) ?_
                          refine gt_X4_holder E fl_X4_36 hP dX4_stays_157 ?_
                          refine lv_aload_n E.1.1 E.1.2.1 dX4_stays_160 rfl (lv_at hl 1 rfl) ?_
                          refine lv_iload_n E.1.1 E.1.2.1 dX4_stays_161 rfl (lv_at hl 2 rfl) ?_
                          refine lv_iload E.1.1 E.1.2.1 dX4_stays_162 (lv_at hl 5 rfl) ?_
                          refine lv_iconst (v := nI 2) E.1.1 E.1.2.1 dX4_stays_164 rfl ?_
                          refine CM.callVi (n := 3) E (c_X4_at l D cI cJ cZ ad τ b k 2 (by omega)) ml_X4_99 im_X4_at se_X4_at ini_X4 co_X4_at hd_X4_at ⟨Nat.le_of_ble_eq_true rfl, Nat.le_of_ble_eq_true rfl⟩ ⟨Nat.le_refl _, Nat.le_refl _⟩ 0 rfl rfl hP (hD _) hS hA2 rfl hl.1 (Nat.le_of_ble_eq_true rfl) dX4_stays_165 rfl (fun H locs hP hS => ?_)
                          refine tpi (y := nI (yM τ (10 * b + k))) (by rw [at2]; exact (CI_y hT.1.2 (by omega)).1) ?_
                          refine ld_MS_ho (i := yM τ (10 * b + k)) E hP (by have := (CI_y hT.1.2 (p := 10 * b + k) (by omega)).2; omega) dX4_stays_168 ?_
                          refine bv_if_ne (x := gmho τ (yM τ (10 * b + k))) E dX4_stays_169 (tgt := 176) (by decide) (fun h169 => ?_) (fun h169 => ?_)
                          · refine lv_iconst (v := nI 0) E.1.1 E.1.2.1 dX4_stays_176 rfl ?_
                            refine lv_istore_n (lv' := [(3, .int (nI 0)), (5, .int (nI (kM τ (10 * b + k)))), (0, .ref (ad 0)), (1, .int (nI b)), (2, .int (nI j)), (4, .int (nI k))]) E.1.1 E.1.2.1 dX4_stays_177 rfl hl (by decide) rfl (fun ls hl => ?_)
                            refine lv_iload E.1.1 E.1.2.1 dX4_stays_178 (lv_at hl 1 rfl) ?_
                            refine lv_bipush (v := nI 7) E.1.1 E.1.2.1 dX4_stays_180 rfl ?_
                            refine nv_icmp_ne (by omega) (by omega) E dX4_stays_182 (tgt := 204) (by decide) (fun h182 => ?_) (fun h182 => ?_)
                            · refine lv_iload E.1.1 E.1.2.1 dX4_stays_204 (lv_at hl 1 rfl) ?_
                              refine lv_bipush (v := nI 11) E.1.1 E.1.2.1 dX4_stays_206 rfl ?_
                              refine nv_icmp_ne (by omega) (by omega) E dX4_stays_208 (tgt := 237) (by decide) (fun h208 => ?_) (fun h208 => ?_)
                              · refine lv_iinc (v := nI (k + 1)) (lv' := [(4, .int (nI (k + 1))), (3, .int (nI 0)), (5, .int (nI (kM τ (10 * b + k)))), (0, .ref (ad 0)), (1, .int (nI b)), (2, .int (nI j))]) E.1.1 E.1.2.1 dX4_stays_237 hl (k := 5) rfl (nI_add k 1) (by decide) rfl (fun ls hl => ?_)
                                refine lv_goto (tgt := 117) E.1.1 E.1.2.1 dX4_stays_240 (by decide) ?_
                                exact ih117 (k + 1) false _ _ _ (by omega) (by first | (exfalso; omega) | (rw [hv3, itN]; simp [s3S, *]; done)) hP hS (lv_sub hl [3, 4, 5, 1, 0] rfl)
                              · refine lv_iload_n E.1.1 E.1.2.1 dX4_stays_211 rfl (lv_at hl 0 rfl) ?_
                                refine nv_if_eq (by omega) E dX4_stays_212 (tgt := 235) (by decide) (fun h212 => ?_) (fun h212 => ?_)
                                · refine lv_iconst (v := nI 0) E.1.1 E.1.2.1 dX4_stays_235 rfl ?_
                                  refine lv_istore_n (lv' := [(3, .int (nI 0)), (5, .int (nI (kM τ (10 * b + k)))), (0, .ref (ad 0)), (1, .int (nI b)), (2, .int (nI j)), (4, .int (nI k))]) E.1.1 E.1.2.1 dX4_stays_236 rfl hl (by decide) rfl (fun ls hl => ?_)
                                  refine lv_iinc (v := nI (k + 1)) (lv' := [(4, .int (nI (k + 1))), (3, .int (nI 0)), (5, .int (nI (kM τ (10 * b + k)))), (0, .ref (ad 0)), (1, .int (nI b)), (2, .int (nI j))]) E.1.1 E.1.2.1 dX4_stays_237 hl (k := 5) rfl (nI_add k 1) (by decide) rfl (fun ls hl => ?_)
                                  refine lv_goto (tgt := 117) E.1.1 E.1.2.1 dX4_stays_240 (by decide) ?_
                                  exact ih117 (k + 1) false _ _ _ (by omega) (by first | (exfalso; omega) | (rw [hv3, itN]; simp [s3S, *]; done)) hP hS (lv_sub hl [3, 4, 5, 1, 0] rfl)
                                · exact absurd h212 (by omega)
                            · refine lv_iload_n E.1.1 E.1.2.1 dX4_stays_185 rfl (lv_at hl 0 rfl) ?_
                              refine nv_if_eq (by omega) E dX4_stays_186 (tgt := 202) (by decide) (fun h186 => ?_) (fun h186 => ?_)
                              · refine lv_iconst (v := nI 0) E.1.1 E.1.2.1 dX4_stays_202 rfl ?_
                                refine lv_istore_n (lv' := [(3, .int (nI 0)), (5, .int (nI (kM τ (10 * b + k)))), (0, .ref (ad 0)), (1, .int (nI b)), (2, .int (nI j)), (4, .int (nI k))]) E.1.1 E.1.2.1 dX4_stays_203 rfl hl (by decide) rfl (fun ls hl => ?_)
                                refine lv_iload E.1.1 E.1.2.1 dX4_stays_204 (lv_at hl 1 rfl) ?_
                                refine lv_bipush (v := nI 11) E.1.1 E.1.2.1 dX4_stays_206 rfl ?_
                                refine nv_icmp_ne (by omega) (by omega) E dX4_stays_208 (tgt := 237) (by decide) (fun h208 => ?_) (fun h208 => ?_)
                                · refine lv_iinc (v := nI (k + 1)) (lv' := [(4, .int (nI (k + 1))), (3, .int (nI 0)), (5, .int (nI (kM τ (10 * b + k)))), (0, .ref (ad 0)), (1, .int (nI b)), (2, .int (nI j))]) E.1.1 E.1.2.1 dX4_stays_237 hl (k := 5) rfl (nI_add k 1) (by decide) rfl (fun ls hl => ?_)
                                  refine lv_goto (tgt := 117) E.1.1 E.1.2.1 dX4_stays_240 (by decide) ?_
                                  exact ih117 (k + 1) false _ _ _ (by omega) (by first | (exfalso; omega) | (rw [hv3, itN]; simp [s3S, *]; done)) hP hS (lv_sub hl [3, 4, 5, 1, 0] rfl)
                                · refine lv_iload_n E.1.1 E.1.2.1 dX4_stays_211 rfl (lv_at hl 0 rfl) ?_
                                  refine nv_if_eq (by omega) E dX4_stays_212 (tgt := 235) (by decide) (fun h212 => ?_) (fun h212 => ?_)
                                  · refine lv_iconst (v := nI 0) E.1.1 E.1.2.1 dX4_stays_235 rfl ?_
                                    refine lv_istore_n (lv' := [(3, .int (nI 0)), (5, .int (nI (kM τ (10 * b + k)))), (0, .ref (ad 0)), (1, .int (nI b)), (2, .int (nI j)), (4, .int (nI k))]) E.1.1 E.1.2.1 dX4_stays_236 rfl hl (by decide) rfl (fun ls hl => ?_)
                                    refine lv_iinc (v := nI (k + 1)) (lv' := [(4, .int (nI (k + 1))), (3, .int (nI 0)), (5, .int (nI (kM τ (10 * b + k)))), (0, .ref (ad 0)), (1, .int (nI b)), (2, .int (nI j))]) E.1.1 E.1.2.1 dX4_stays_237 hl (k := 5) rfl (nI_add k 1) (by decide) rfl (fun ls hl => ?_)
                                    refine lv_goto (tgt := 117) E.1.1 E.1.2.1 dX4_stays_240 (by decide) ?_
                                    exact ih117 (k + 1) false _ _ _ (by omega) (by first | (exfalso; omega) | (rw [hv3, itN]; simp [s3S, *]; done)) hP hS (lv_sub hl [3, 4, 5, 1, 0] rfl)
                                  · exact absurd h212 (by omega)
                              · exact absurd h186 (by omega)
                          · refine lv_iconst (v := nI 1) E.1.1 E.1.2.1 dX4_stays_172 rfl ?_
                            refine lv_goto (tgt := 177) E.1.1 E.1.2.1 dX4_stays_173 (by decide) ?_
                            refine lv_istore_n (lv' := [(3, .int (nI 1)), (5, .int (nI (kM τ (10 * b + k)))), (0, .ref (ad 0)), (1, .int (nI b)), (2, .int (nI j)), (4, .int (nI k))]) E.1.1 E.1.2.1 dX4_stays_177 rfl hl (by decide) rfl (fun ls hl => ?_)
                            refine lv_iload E.1.1 E.1.2.1 dX4_stays_178 (lv_at hl 1 rfl) ?_
                            refine lv_bipush (v := nI 7) E.1.1 E.1.2.1 dX4_stays_180 rfl ?_
                            refine nv_icmp_ne (by omega) (by omega) E dX4_stays_182 (tgt := 204) (by decide) (fun h182 => ?_) (fun h182 => ?_)
                            · refine lv_iload E.1.1 E.1.2.1 dX4_stays_204 (lv_at hl 1 rfl) ?_
                              refine lv_bipush (v := nI 11) E.1.1 E.1.2.1 dX4_stays_206 rfl ?_
                              refine nv_icmp_ne (by omega) (by omega) E dX4_stays_208 (tgt := 237) (by decide) (fun h208 => ?_) (fun h208 => ?_)
                              · refine lv_iinc (v := nI (k + 1)) (lv' := [(4, .int (nI (k + 1))), (3, .int (nI 1)), (5, .int (nI (kM τ (10 * b + k)))), (0, .ref (ad 0)), (1, .int (nI b)), (2, .int (nI j))]) E.1.1 E.1.2.1 dX4_stays_237 hl (k := 5) rfl (nI_add k 1) (by decide) rfl (fun ls hl => ?_)
                                refine lv_goto (tgt := 117) E.1.1 E.1.2.1 dX4_stays_240 (by decide) ?_
                                exact ih117 (k + 1) true _ _ _ (by omega) (by first | (exfalso; omega) | (rw [hv3, itN]; simp [s3S, *]; done)) hP hS (lv_sub hl [3, 4, 5, 1, 0] rfl)
                              · refine lv_iload_n E.1.1 E.1.2.1 dX4_stays_211 rfl (lv_at hl 0 rfl) ?_
                                refine nv_if_eq (by omega) E dX4_stays_212 (tgt := 235) (by decide) (fun h212 => ?_) (fun h212 => ?_)
                                · exact absurd h212 (by omega)
                                · refine lv_aload_n E.1.1 E.1.2.1 dX4_stays_215 rfl (lv_at hl 2 rfl) ?_
                                  refine gt_X4_holder E fl_X4_36 hP dX4_stays_216 ?_
                                  refine lv_aload_n E.1.1 E.1.2.1 dX4_stays_219 rfl (lv_at hl 2 rfl) ?_
                                  refine lv_iload_n E.1.1 E.1.2.1 dX4_stays_220 rfl (lv_at hl 3 rfl) ?_
                                  refine lv_iload E.1.1 E.1.2.1 dX4_stays_221 (lv_at hl 5 rfl) ?_
                                  refine lv_iconst (v := nI 1) E.1.1 E.1.2.1 dX4_stays_223 rfl ?_
                                  refine CM.callVi (n := 3) E (c_X4_at l D cI cJ cZ ad τ b k 1 (by omega)) ml_X4_99 im_X4_at se_X4_at ini_X4 co_X4_at hd_X4_at ⟨Nat.le_of_ble_eq_true rfl, Nat.le_of_ble_eq_true rfl⟩ ⟨Nat.le_refl _, Nat.le_refl _⟩ 0 rfl rfl hP (hD _) hS hA2 rfl hl.1 (Nat.le_of_ble_eq_true rfl) dX4_stays_224 rfl (fun H locs hP hS => ?_)
                                  refine tpi (y := nI (xM τ (10 * b + k))) (at1 hT.1.2 b k) ?_
                                  refine ld_MS_ho (i := xM τ (10 * b + k)) E hP (by have := (hT.1.2 (10 * b + k)).2.1.2; omega) dX4_stays_227 ?_
                                  refine bv_if_ne (x := gmho τ (xM τ (10 * b + k))) E dX4_stays_228 (tgt := 235) (by decide) (fun h228 => ?_) (fun h228 => ?_)
                                  · refine lv_iconst (v := nI 0) E.1.1 E.1.2.1 dX4_stays_235 rfl ?_
                                    refine lv_istore_n (lv' := [(3, .int (nI 0)), (5, .int (nI (kM τ (10 * b + k)))), (0, .ref (ad 0)), (1, .int (nI b)), (2, .int (nI j)), (4, .int (nI k))]) E.1.1 E.1.2.1 dX4_stays_236 rfl hl (by decide) rfl (fun ls hl => ?_)
                                    refine lv_iinc (v := nI (k + 1)) (lv' := [(4, .int (nI (k + 1))), (3, .int (nI 0)), (5, .int (nI (kM τ (10 * b + k)))), (0, .ref (ad 0)), (1, .int (nI b)), (2, .int (nI j))]) E.1.1 E.1.2.1 dX4_stays_237 hl (k := 5) rfl (nI_add k 1) (by decide) rfl (fun ls hl => ?_)
                                    refine lv_goto (tgt := 117) E.1.1 E.1.2.1 dX4_stays_240 (by decide) ?_
                                    exact ih117 (k + 1) false _ _ _ (by omega) (by first | (exfalso; omega) | (rw [hv3, itN]; simp [s3S, *]; done)) hP hS (lv_sub hl [3, 4, 5, 1, 0] rfl)
                                  · refine lv_iconst (v := nI 1) E.1.1 E.1.2.1 dX4_stays_231 rfl ?_
                                    refine lv_goto (tgt := 236) E.1.1 E.1.2.1 dX4_stays_232 (by decide) ?_
                                    refine lv_istore_n (lv' := [(3, .int (nI 1)), (5, .int (nI (kM τ (10 * b + k)))), (0, .ref (ad 0)), (1, .int (nI b)), (2, .int (nI j)), (4, .int (nI k))]) E.1.1 E.1.2.1 dX4_stays_236 rfl hl (by decide) rfl (fun ls hl => ?_)
                                    refine lv_iinc (v := nI (k + 1)) (lv' := [(4, .int (nI (k + 1))), (3, .int (nI 1)), (5, .int (nI (kM τ (10 * b + k)))), (0, .ref (ad 0)), (1, .int (nI b)), (2, .int (nI j))]) E.1.1 E.1.2.1 dX4_stays_237 hl (k := 5) rfl (nI_add k 1) (by decide) rfl (fun ls hl => ?_)
                                    refine lv_goto (tgt := 117) E.1.1 E.1.2.1 dX4_stays_240 (by decide) ?_
                                    exact ih117 (k + 1) true _ _ _ (by omega) (by first | (exfalso; omega) | (rw [hv3, itN]; simp [s3S, *]; done)) hP hS (lv_sub hl [3, 4, 5, 1, 0] rfl)
                            · refine lv_iload_n E.1.1 E.1.2.1 dX4_stays_185 rfl (lv_at hl 0 rfl) ?_
                              refine nv_if_eq (by omega) E dX4_stays_186 (tgt := 202) (by decide) (fun h186 => ?_) (fun h186 => ?_)
                              · exact absurd h186 (by omega)
                              · refine lv_aload_n E.1.1 E.1.2.1 dX4_stays_189 rfl (lv_at hl 2 rfl) ?_
                                refine gt_X4_holder E fl_X4_36 hP dX4_stays_190 ?_
                                refine lv_iconst (v := nI 5) E.1.1 E.1.2.1 dX4_stays_193 rfl ?_
                                refine ld_MS_ho (i := 5) E hP (by omega) dX4_stays_194 ?_
                                refine bv_if_ne (x := gmho τ 5) E dX4_stays_195 (tgt := 202) (by decide) (fun h195 => ?_) (fun h195 => ?_)
                                · refine lv_iconst (v := nI 0) E.1.1 E.1.2.1 dX4_stays_202 rfl ?_
                                  refine lv_istore_n (lv' := [(3, .int (nI 0)), (5, .int (nI (kM τ (10 * b + k)))), (0, .ref (ad 0)), (1, .int (nI b)), (2, .int (nI j)), (4, .int (nI k))]) E.1.1 E.1.2.1 dX4_stays_203 rfl hl (by decide) rfl (fun ls hl => ?_)
                                  refine lv_iload E.1.1 E.1.2.1 dX4_stays_204 (lv_at hl 1 rfl) ?_
                                  refine lv_bipush (v := nI 11) E.1.1 E.1.2.1 dX4_stays_206 rfl ?_
                                  refine nv_icmp_ne (by omega) (by omega) E dX4_stays_208 (tgt := 237) (by decide) (fun h208 => ?_) (fun h208 => ?_)
                                  · refine lv_iinc (v := nI (k + 1)) (lv' := [(4, .int (nI (k + 1))), (3, .int (nI 0)), (5, .int (nI (kM τ (10 * b + k)))), (0, .ref (ad 0)), (1, .int (nI b)), (2, .int (nI j))]) E.1.1 E.1.2.1 dX4_stays_237 hl (k := 5) rfl (nI_add k 1) (by decide) rfl (fun ls hl => ?_)
                                    refine lv_goto (tgt := 117) E.1.1 E.1.2.1 dX4_stays_240 (by decide) ?_
                                    exact ih117 (k + 1) false _ _ _ (by omega) (by first | (exfalso; omega) | (rw [hv3, itN]; simp [s3S, *]; done)) hP hS (lv_sub hl [3, 4, 5, 1, 0] rfl)
                                  · refine lv_iload_n E.1.1 E.1.2.1 dX4_stays_211 rfl (lv_at hl 0 rfl) ?_
                                    refine nv_if_eq (by omega) E dX4_stays_212 (tgt := 235) (by decide) (fun h212 => ?_) (fun h212 => ?_)
                                    · refine lv_iconst (v := nI 0) E.1.1 E.1.2.1 dX4_stays_235 rfl ?_
                                      refine lv_istore_n (lv' := [(3, .int (nI 0)), (5, .int (nI (kM τ (10 * b + k)))), (0, .ref (ad 0)), (1, .int (nI b)), (2, .int (nI j)), (4, .int (nI k))]) E.1.1 E.1.2.1 dX4_stays_236 rfl hl (by decide) rfl (fun ls hl => ?_)
                                      refine lv_iinc (v := nI (k + 1)) (lv' := [(4, .int (nI (k + 1))), (3, .int (nI 0)), (5, .int (nI (kM τ (10 * b + k)))), (0, .ref (ad 0)), (1, .int (nI b)), (2, .int (nI j))]) E.1.1 E.1.2.1 dX4_stays_237 hl (k := 5) rfl (nI_add k 1) (by decide) rfl (fun ls hl => ?_)
                                      refine lv_goto (tgt := 117) E.1.1 E.1.2.1 dX4_stays_240 (by decide) ?_
                                      exact ih117 (k + 1) false _ _ _ (by omega) (by first | (exfalso; omega) | (rw [hv3, itN]; simp [s3S, *]; done)) hP hS (lv_sub hl [3, 4, 5, 1, 0] rfl)
                                    · exact absurd h212 (by omega)
                                · refine lv_iconst (v := nI 1) E.1.1 E.1.2.1 dX4_stays_198 rfl ?_
                                  refine lv_goto (tgt := 203) E.1.1 E.1.2.1 dX4_stays_199 (by decide) ?_
                                  refine lv_istore_n (lv' := [(3, .int (nI 1)), (5, .int (nI (kM τ (10 * b + k)))), (0, .ref (ad 0)), (1, .int (nI b)), (2, .int (nI j)), (4, .int (nI k))]) E.1.1 E.1.2.1 dX4_stays_203 rfl hl (by decide) rfl (fun ls hl => ?_)
                                  refine lv_iload E.1.1 E.1.2.1 dX4_stays_204 (lv_at hl 1 rfl) ?_
                                  refine lv_bipush (v := nI 11) E.1.1 E.1.2.1 dX4_stays_206 rfl ?_
                                  refine nv_icmp_ne (by omega) (by omega) E dX4_stays_208 (tgt := 237) (by decide) (fun h208 => ?_) (fun h208 => ?_)
                                  · refine lv_iinc (v := nI (k + 1)) (lv' := [(4, .int (nI (k + 1))), (3, .int (nI 1)), (5, .int (nI (kM τ (10 * b + k)))), (0, .ref (ad 0)), (1, .int (nI b)), (2, .int (nI j))]) E.1.1 E.1.2.1 dX4_stays_237 hl (k := 5) rfl (nI_add k 1) (by decide) rfl (fun ls hl => ?_)
                                    refine lv_goto (tgt := 117) E.1.1 E.1.2.1 dX4_stays_240 (by decide) ?_
                                    exact ih117 (k + 1) true _ _ _ (by omega) (by first | (exfalso; omega) | (rw [hv3, itN]; simp [s3S, *]; done)) hP hS (lv_sub hl [3, 4, 5, 1, 0] rfl)
                                  · refine lv_iload_n E.1.1 E.1.2.1 dX4_stays_211 rfl (lv_at hl 0 rfl) ?_
                                    refine nv_if_eq (by omega) E dX4_stays_212 (tgt := 235) (by decide) (fun h212 => ?_) (fun h212 => ?_)
                                    · exact absurd h212 (by omega)
                                    · refine lv_aload_n E.1.1 E.1.2.1 dX4_stays_215 rfl (lv_at hl 2 rfl) ?_
                                      refine gt_X4_holder E fl_X4_36 hP dX4_stays_216 ?_
                                      refine lv_aload_n E.1.1 E.1.2.1 dX4_stays_219 rfl (lv_at hl 2 rfl) ?_
                                      refine lv_iload_n E.1.1 E.1.2.1 dX4_stays_220 rfl (lv_at hl 3 rfl) ?_
                                      refine lv_iload E.1.1 E.1.2.1 dX4_stays_221 (lv_at hl 5 rfl) ?_
                                      refine lv_iconst (v := nI 1) E.1.1 E.1.2.1 dX4_stays_223 rfl ?_
                                      refine CM.callVi (n := 3) E (c_X4_at l D cI cJ cZ ad τ b k 1 (by omega)) ml_X4_99 im_X4_at se_X4_at ini_X4 co_X4_at hd_X4_at ⟨Nat.le_of_ble_eq_true rfl, Nat.le_of_ble_eq_true rfl⟩ ⟨Nat.le_refl _, Nat.le_refl _⟩ 0 rfl rfl hP (hD _) hS hA2 rfl hl.1 (Nat.le_of_ble_eq_true rfl) dX4_stays_224 rfl (fun H locs hP hS => ?_)
                                      refine tpi (y := nI (xM τ (10 * b + k))) (at1 hT.1.2 b k) ?_
                                      refine ld_MS_ho (i := xM τ (10 * b + k)) E hP (by have := (hT.1.2 (10 * b + k)).2.1.2; omega) dX4_stays_227 ?_
                                      refine bv_if_ne (x := gmho τ (xM τ (10 * b + k))) E dX4_stays_228 (tgt := 235) (by decide) (fun h228 => ?_) (fun h228 => ?_)
                                      · refine lv_iconst (v := nI 0) E.1.1 E.1.2.1 dX4_stays_235 rfl ?_
                                        refine lv_istore_n (lv' := [(3, .int (nI 0)), (5, .int (nI (kM τ (10 * b + k)))), (0, .ref (ad 0)), (1, .int (nI b)), (2, .int (nI j)), (4, .int (nI k))]) E.1.1 E.1.2.1 dX4_stays_236 rfl hl (by decide) rfl (fun ls hl => ?_)
                                        refine lv_iinc (v := nI (k + 1)) (lv' := [(4, .int (nI (k + 1))), (3, .int (nI 0)), (5, .int (nI (kM τ (10 * b + k)))), (0, .ref (ad 0)), (1, .int (nI b)), (2, .int (nI j))]) E.1.1 E.1.2.1 dX4_stays_237 hl (k := 5) rfl (nI_add k 1) (by decide) rfl (fun ls hl => ?_)
                                        refine lv_goto (tgt := 117) E.1.1 E.1.2.1 dX4_stays_240 (by decide) ?_
                                        exact ih117 (k + 1) false _ _ _ (by omega) (by first | (exfalso; omega) | (rw [hv3, itN]; simp [s3S, *]; done)) hP hS (lv_sub hl [3, 4, 5, 1, 0] rfl)
                                      · refine lv_iconst (v := nI 1) E.1.1 E.1.2.1 dX4_stays_231 rfl ?_
                                        refine lv_goto (tgt := 236) E.1.1 E.1.2.1 dX4_stays_232 (by decide) ?_
                                        refine lv_istore_n (lv' := [(3, .int (nI 1)), (5, .int (nI (kM τ (10 * b + k)))), (0, .ref (ad 0)), (1, .int (nI b)), (2, .int (nI j)), (4, .int (nI k))]) E.1.1 E.1.2.1 dX4_stays_236 rfl hl (by decide) rfl (fun ls hl => ?_)
                                        refine lv_iinc (v := nI (k + 1)) (lv' := [(4, .int (nI (k + 1))), (3, .int (nI 1)), (5, .int (nI (kM τ (10 * b + k)))), (0, .ref (ad 0)), (1, .int (nI b)), (2, .int (nI j))]) E.1.1 E.1.2.1 dX4_stays_237 hl (k := 5) rfl (nI_add k 1) (by decide) rfl (fun ls hl => ?_)
                                        refine lv_goto (tgt := 117) E.1.1 E.1.2.1 dX4_stays_240 (by decide) ?_
                                        exact ih117 (k + 1) true _ _ _ (by omega) (by first | (exfalso; omega) | (rw [hv3, itN]; simp [s3S, *]; done)) hP hS (lv_sub hl [3, 4, 5, 1, 0] rfl)
              exact LP117 (gmmy τ b) 0 true _ _ _ (by omega) rfl hP hS (lv_sub hl [2, 3, 4, 1, 0] rfl)
            · exact absurd h41 (by omega)
          | succ n ih38 =>
            intro r τ H locs ls hT hk hv hP hS hl
            refine lv_iload_n E.1.1 E.1.2.1 dX4_stays_38 rfl (lv_at hl 3 rfl) ?_
            refine lv_bipush (v := nI 6) E.1.1 E.1.2.1 dX4_stays_39 rfl ?_
            refine nv_icmp_ge (by omega) (by omega) E dX4_stays_41 (tgt := 112) (by decide) (fun h41 => ?_) (fun h41 => ?_)
            · exact absurd h41 (by omega)
            · refine lv_iconst (v := nI 0) E.1.1 E.1.2.1 dX4_stays_44 rfl ?_
              refine lv_istore (lv' := [(4, .int (nI 0)), (0, .ref (ad 0)), (1, .int (nI b)), (2, .int (nI j)), (3, .int (nI r))]) E.1.1 E.1.2.1 dX4_stays_45 hl (by decide) rfl (fun ls hl => ?_)
              have LP47 : ∀ (n2 : Nat) (k : Nat) (τ2 : MS) (H : Heap) (locs : List Loc) (ls : Array Slot), (Kr σ τ2) → (k + n2 = gmmy τ2 b) → (itN (s2S b) (gmmy τ b) 0 τ = itN (s2S b) n2 k τ2) → va_P D vwCl (wR ad cI cJ cZ τ2) H → va_S A s.heap H locs → lv_has ls 6 [(0, .ref (ad 0)), (1, .int (nI b)), (2, .int (nI j)), (3, .int (nI r)), (4, .int (nI k))] → W p l e { frames := 1, cells := 0, slots := 0, locals := 40 * 1 } s m [.ref (ad 0), .int (nI b), .int (nI j)].toArray below meth c H locs 0 0 (MQ below (Qcm D (wR ad cI cJ cZ σ) s.heap.size (some (.int (bI (saB b j σ)))) (wR ad cI cJ cZ (saG b j σ))) [.ref (ad 0), .int (nI b), .int (nI j)].toArray s 0 0 A) (F0 m 47 ls []) := by
                intro n2
                induction n2 with
                | zero =>
                  intro k τ2 H locs ls hT2 hk2 hv2 hP hS hl
                  have hL := hT2.1.1.2.1 b
                  refine lv_iload E.1.1 E.1.2.1 dX4_stays_47 (lv_at hl 4 rfl) ?_
                  refine lv_aload_n E.1.1 E.1.2.1 dX4_stays_49 rfl (lv_at hl 0 rfl) ?_
                  refine gt_X4_many E fl_X4_17 hP dX4_stays_50 ?_
                  refine lv_iload_n E.1.1 E.1.2.1 dX4_stays_53 rfl (lv_at hl 1 rfl) ?_
                  refine ld_MS_my (i := b) E hP (by omega) dX4_stays_54 ?_
                  refine nv_icmp_ge (by omega) (by omega) E dX4_stays_55 (tgt := 106) (by decide) (fun h55 => ?_) (fun h55 => ?_)
                  · refine lv_iinc (v := nI (r + 1)) (lv' := [(3, .int (nI (r + 1))), (0, .ref (ad 0)), (1, .int (nI b)), (2, .int (nI j)), (4, .int (nI k))]) E.1.1 E.1.2.1 dX4_stays_106 hl (k := 3) rfl (nI_add r 1) (by decide) rfl (fun ls hl => ?_)
                    refine lv_goto (tgt := 38) E.1.1 E.1.2.1 dX4_stays_109 (by decide) ?_
                    exact ih38 (r + 1) τ2 _ _ _ hT2 (by omega) (by rw [hv, itN, s2R, hv2]; rfl) hP hS (lv_sub hl [1, 2, 3, 0] rfl)
                  · exact absurd h55 (by omega)
                | succ n2 ih47 =>
                  intro k τ2 H locs ls hT2 hk2 hv2 hP hS hl
                  have hL := hT2.1.1.2.1 b
                  refine lv_iload E.1.1 E.1.2.1 dX4_stays_47 (lv_at hl 4 rfl) ?_
                  refine lv_aload_n E.1.1 E.1.2.1 dX4_stays_49 rfl (lv_at hl 0 rfl) ?_
                  refine gt_X4_many E fl_X4_17 hP dX4_stays_50 ?_
                  refine lv_iload_n E.1.1 E.1.2.1 dX4_stays_53 rfl (lv_at hl 1 rfl) ?_
                  refine ld_MS_my (i := b) E hP (by omega) dX4_stays_54 ?_
                  refine nv_icmp_ge (by omega) (by omega) E dX4_stays_55 (tgt := 106) (by decide) (fun h55 => ?_) (fun h55 => ?_)
                  · exact absurd h55 (by omega)
                  · refine lv_aload_n E.1.1 E.1.2.1 dX4_stays_58 rfl (lv_at hl 0 rfl) ?_
                    refine lv_iload_n E.1.1 E.1.2.1 dX4_stays_59 rfl (lv_at hl 1 rfl) ?_
                    refine lv_iload E.1.1 E.1.2.1 dX4_stays_60 (lv_at hl 4 rfl) ?_
                    refine lv_iconst (v := nI 0) E.1.1 E.1.2.1 dX4_stays_62 rfl ?_
                    refine CM.callVi (n := 3) E (c_X4_at l D cI cJ cZ ad τ2 b k 0 (by omega)) ml_X4_99 im_X4_at se_X4_at ini_X4 co_X4_at hd_X4_at ⟨Nat.le_of_ble_eq_true rfl, Nat.le_of_ble_eq_true rfl⟩ ⟨Nat.le_refl _, Nat.le_refl _⟩ 0 rfl rfl hP (hD _) hS hA2 rfl hl.1 (Nat.le_of_ble_eq_true rfl) dX4_stays_63 rfl (fun H locs hP hS => ?_)
                    refine tpi (y := nI (kM τ2 (10 * b + k))) (at0 hT2.1.2 b k) ?_
                    refine lv_iconst (v := nI 1) E.1.1 E.1.2.1 dX4_stays_66 rfl ?_
                    refine nv_icmp_ne (by have := (hT2.1.2 (10 * b + k)).1.2; omega) (by omega) E dX4_stays_67 (tgt := 100) (by decide) (fun h67 => ?_) (fun h67 => ?_)
                    · refine lv_iinc (v := nI (k + 1)) (lv' := [(4, .int (nI (k + 1))), (0, .ref (ad 0)), (1, .int (nI b)), (2, .int (nI j)), (3, .int (nI r))]) E.1.1 E.1.2.1 dX4_stays_100 hl (k := 4) rfl (nI_add k 1) (by decide) rfl (fun ls hl => ?_)
                      refine lv_goto (tgt := 47) E.1.1 E.1.2.1 dX4_stays_103 (by decide) ?_
                      exact ih47 (k + 1) τ2 _ _ _ (hT2) (by show _ = gmmy τ2 b; omega) (by rw [hv2, itN, s2S]; first | (rw [if_pos h67, if_pos h83]; done) | (rw [if_pos h67, if_neg (by rw [h83]; decide)]; done) | rw [if_neg h67]) hP hS (lv_sub hl [1, 2, 3, 4, 0] rfl)
                    · refine lv_aload_n E.1.1 E.1.2.1 dX4_stays_70 rfl (lv_at hl 0 rfl) ?_
                      refine gt_X4_holder E fl_X4_36 hP dX4_stays_71 ?_
                      refine lv_aload_n E.1.1 E.1.2.1 dX4_stays_74 rfl (lv_at hl 0 rfl) ?_
                      refine lv_iload_n E.1.1 E.1.2.1 dX4_stays_75 rfl (lv_at hl 1 rfl) ?_
                      refine lv_iload E.1.1 E.1.2.1 dX4_stays_76 (lv_at hl 4 rfl) ?_
                      refine lv_iconst (v := nI 2) E.1.1 E.1.2.1 dX4_stays_78 rfl ?_
                      refine CM.callVi (n := 3) E (c_X4_at l D cI cJ cZ ad τ2 b k 2 (by omega)) ml_X4_99 im_X4_at se_X4_at ini_X4 co_X4_at hd_X4_at ⟨Nat.le_of_ble_eq_true rfl, Nat.le_of_ble_eq_true rfl⟩ ⟨Nat.le_refl _, Nat.le_refl _⟩ 0 rfl rfl hP (hD _) hS hA2 rfl hl.1 (Nat.le_of_ble_eq_true rfl) dX4_stays_79 rfl (fun H locs hP hS => ?_)
                      refine tpi (y := nI (yM τ2 (10 * b + k))) (by rw [at2]; exact (CI_y hT2.1.2 (by omega)).1) ?_
                      refine ld_MS_ho (i := yM τ2 (10 * b + k)) E hP (by have := (CI_y hT2.1.2 (p := 10 * b + k) (by omega)).2; omega) dX4_stays_82 ?_
                      refine bv_if_eq (x := gmho τ2 (yM τ2 (10 * b + k))) E dX4_stays_83 (tgt := 100) (by decide) (fun h83 => ?_) (fun h83 => ?_)
                      · refine lv_iinc (v := nI (k + 1)) (lv' := [(4, .int (nI (k + 1))), (0, .ref (ad 0)), (1, .int (nI b)), (2, .int (nI j)), (3, .int (nI r))]) E.1.1 E.1.2.1 dX4_stays_100 hl (k := 4) rfl (nI_add k 1) (by decide) rfl (fun ls hl => ?_)
                        refine lv_goto (tgt := 47) E.1.1 E.1.2.1 dX4_stays_103 (by decide) ?_
                        exact ih47 (k + 1) τ2 _ _ _ (hT2) (by show _ = gmmy τ2 b; omega) (by rw [hv2, itN, s2S]; first | (rw [if_pos h67, if_pos h83]; done) | (rw [if_pos h67, if_neg (by rw [h83]; decide)]; done) | rw [if_neg h67]) hP hS (lv_sub hl [1, 2, 3, 4, 0] rfl)
                      · refine lv_aload_n E.1.1 E.1.2.1 dX4_stays_86 rfl (lv_at hl 0 rfl) ?_
                        refine gt_X4_holder E fl_X4_36 hP dX4_stays_87 ?_
                        refine lv_aload_n E.1.1 E.1.2.1 dX4_stays_90 rfl (lv_at hl 0 rfl) ?_
                        refine lv_iload_n E.1.1 E.1.2.1 dX4_stays_91 rfl (lv_at hl 1 rfl) ?_
                        refine lv_iload E.1.1 E.1.2.1 dX4_stays_92 (lv_at hl 4 rfl) ?_
                        refine lv_iconst (v := nI 1) E.1.1 E.1.2.1 dX4_stays_94 rfl ?_
                        refine CM.callVi (n := 3) E (c_X4_at l D cI cJ cZ ad τ2 b k 1 (by omega)) ml_X4_99 im_X4_at se_X4_at ini_X4 co_X4_at hd_X4_at ⟨Nat.le_of_ble_eq_true rfl, Nat.le_of_ble_eq_true rfl⟩ ⟨Nat.le_refl _, Nat.le_refl _⟩ 0 rfl rfl hP (hD _) hS hA2 rfl hl.1 (Nat.le_of_ble_eq_true rfl) dX4_stays_95 rfl (fun H locs hP hS => ?_)
                        refine tpi (y := nI (xM τ2 (10 * b + k))) (at1 hT2.1.2 b k) ?_
                        refine lv_iconst (v := nI 1) E.1.1 E.1.2.1 dX4_stays_98 rfl ?_
                        refine as_MS_ho (i := xM τ2 (10 * b + k)) (v := true) E hP hD hS (by have := (hT2.1.2 (10 * b + k)).2.1.2; omega) dX4_stays_99 (fun H locs hP hS => ?_)
                        refine lv_iinc (v := nI (k + 1)) (lv' := [(4, .int (nI (k + 1))), (0, .ref (ad 0)), (1, .int (nI b)), (2, .int (nI j)), (3, .int (nI r))]) E.1.1 E.1.2.1 dX4_stays_100 hl (k := 4) rfl (nI_add k 1) (by decide) rfl (fun ls hl => ?_)
                        refine lv_goto (tgt := 47) E.1.1 E.1.2.1 dX4_stays_103 (by decide) ?_
                        exact ih47 (k + 1) (smho τ2 (va_up (gmho τ2) (xM τ2 (10 * b + k)) true)) _ _ _ (Kr_ho hT2) (by show _ = gmmy τ2 b; omega) (by rw [hv2, itN, s2S]; first | (rw [if_pos h67, if_pos h83]; done) | (rw [if_pos h67, if_neg (by rw [h83]; decide)]; done) | rw [if_neg h67]) hP hS (lv_sub hl [1, 2, 3, 4, 0] rfl)
              exact LP47 (gmmy τ b) 0 τ _ _ _ hT (by omega) rfl hP hS (lv_sub hl [1, 2, 3, 4, 0] rfl)
        exact LP38 6 0 τ _ _ _ hT (by omega) (by rw [saG, hv]; rfl) hP hS (lv_sub hl [1, 2, 3, 0] rfl)
      · exact absurd h5 (by omega)
    | succ n ih2 =>
      intro k τ H locs ls hT hk hv hP hS hl
      refine lv_iload_n E.1.1 E.1.2.1 dX4_stays_2 rfl (lv_at hl 3 rfl) ?_
      refine lv_bipush (v := nI 6) E.1.1 E.1.2.1 dX4_stays_3 rfl ?_
      refine nv_icmp_ge (by omega) (by omega) E dX4_stays_5 (tgt := 36) (by decide) (fun h5 => ?_) (fun h5 => ?_)
      · exact absurd h5 (by omega)
      · refine lv_aload_n E.1.1 E.1.2.1 dX4_stays_8 rfl (lv_at hl 0 rfl) ?_
        refine gt_X4_holder E fl_X4_36 hP dX4_stays_9 ?_
        refine lv_iload_n E.1.1 E.1.2.1 dX4_stays_12 rfl (lv_at hl 3 rfl) ?_
        refine lv_iload_n E.1.1 E.1.2.1 dX4_stays_13 rfl (lv_at hl 3 rfl) ?_
        refine lv_aload_n E.1.1 E.1.2.1 dX4_stays_14 rfl (lv_at hl 0 rfl) ?_
        refine lv_iload_n E.1.1 E.1.2.1 dX4_stays_15 rfl (lv_at hl 1 rfl) ?_
        refine lv_iload_n E.1.1 E.1.2.1 dX4_stays_16 rfl (lv_at hl 2 rfl) ?_
        refine lv_iconst (v := nI 1) E.1.1 E.1.2.1 dX4_stays_17 rfl ?_
        refine CM.callVi (n := 3) E (c_X4_at l D cI cJ cZ ad τ b j 1 (by omega)) ml_X4_99 im_X4_at se_X4_at ini_X4 co_X4_at hd_X4_at ⟨Nat.le_of_ble_eq_true rfl, Nat.le_of_ble_eq_true rfl⟩ ⟨Nat.le_refl _, Nat.le_refl _⟩ 0 rfl rfl hP (hD _) hS hA2 rfl hl.1 (Nat.le_of_ble_eq_true rfl) dX4_stays_18 rfl (fun H locs hP hS => ?_)
        refine tpi (y := nI (xM τ (10 * b + j))) (at1 hT.1.2 b j) ?_
        refine nv_icmp_ne (by omega) (by have := (hT.1.2 (10 * b + j)).2.1.2; omega) E dX4_stays_21 (tgt := 28) (by decide) (fun h21 => ?_) (fun h21 => ?_)
        · refine lv_iconst (v := nI 0) E.1.1 E.1.2.1 dX4_stays_28 rfl ?_
          refine as_MS_ho (i := k) (v := false) E hP hD hS (by omega) dX4_stays_29 (fun H locs hP hS => ?_)
          refine lv_iinc (v := nI (k + 1)) (lv' := [(3, .int (nI (k + 1))), (0, .ref (ad 0)), (1, .int (nI b)), (2, .int (nI j))]) E.1.1 E.1.2.1 dX4_stays_30 hl (k := 3) rfl (nI_add k 1) (by decide) rfl (fun ls hl => ?_)
          refine lv_goto (tgt := 2) E.1.1 E.1.2.1 dX4_stays_33 (by decide) ?_
          exact ih2 (k + 1) (smho τ (va_up (gmho τ) k false)) _ _ _ (Kr_ho hT) (by omega) (by rw [hv, itN, s1S]; first | (rw [decide_eq_true h21]; done) | rw [decide_eq_false h21]) hP hS (lv_sub hl [1, 2, 3, 0] rfl)
        · refine lv_iconst (v := nI 1) E.1.1 E.1.2.1 dX4_stays_24 rfl ?_
          refine lv_goto (tgt := 29) E.1.1 E.1.2.1 dX4_stays_25 (by decide) ?_
          refine as_MS_ho (i := k) (v := true) E hP hD hS (by omega) dX4_stays_29 (fun H locs hP hS => ?_)
          refine lv_iinc (v := nI (k + 1)) (lv' := [(3, .int (nI (k + 1))), (0, .ref (ad 0)), (1, .int (nI b)), (2, .int (nI j))]) E.1.1 E.1.2.1 dX4_stays_30 hl (k := 3) rfl (nI_add k 1) (by decide) rfl (fun ls hl => ?_)
          refine lv_goto (tgt := 2) E.1.1 E.1.2.1 dX4_stays_33 (by decide) ?_
          exact ih2 (k + 1) (smho τ (va_up (gmho τ) k true)) _ _ _ (Kr_ho hT) (by omega) (by rw [hv, itN, s1S]; first | (rw [decide_eq_true h21]; done) | rw [decide_eq_false h21]) hP hS (lv_sub hl [1, 2, 3, 0] rfl)
  exact LP2 6 0 σ _ _ _ hK (by omega) rfl hP hS (lv_sub hl [1, 2, 3, 0] rfl)
