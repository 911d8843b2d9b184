theorem cw_L_type : Cond.codeWith yL_type cL_type 4 (some .int) [(0, 9, 12, 13), (0, 9, 15, 15)] ∈ G := mG (by decide +kernel) rfl
theorem hdL_type : yL_type.cls ≠ "java/lang/invoke/MethodHandle" ∧ yL_type.cls ≠ "java/lang/invoke/VarHandle" ∧ (parseMethodDescriptor yL_type.desc).map (fun d => d.parameters.length) = some 3 := by decide +kernel
set_option maxRecDepth 100000 in
set_option maxHeartbeats 400000 in
theorem cL_type_ok {l : Launch} {D : va_G} {cI cJ cZ : ClassId} {ad : Nat → Nat} {o : Nat} {σ σ1 : CS} {u : Int64} {v1 : Int32} {r : Int32} {lev0 : Nat} (hM : CM l D (t3 cI cJ cZ) yX3_type cX3_type 2 (some .int) lev0 [.ref (ad 0), .int v1] (wC ad cI cJ cZ σ) (some (.int r)) (wC ad cI cJ cZ σ1)) (hlev : lev0 ≤ 7) : CY l D (t3 cI cJ cZ) yL_type cL_type 4 [(0, 9, 12, 13), (0, 9, 15, 15)] 8 [.ref (ad 0), .int v1, .ref o] (wO ad cI cJ cZ o σ u) (nI 0) (wO ad cI cJ cZ o σ1 r.toInt64) := by
  refine CY.of (by decide) (Nat.le_of_ble_eq_true rfl) ?_
  intro p e s m below meth c A ls E hr hlk hP hD hA hA2 hS hl hT hX
  have hl : lv_has ls 4 [(0, .ref (ad 0)), (1, .int v1), (2, .ref o)] := hl
  refine lv_aload_n E.1.1 E.1.2.1 dL_type_0 rfl (lv_at hl 2 rfl) ?_
  refine lv_iconst (v := nI 0) E.1.1 E.1.2.1 dL_type_1 rfl ?_
  refine lv_aload_n E.1.1 E.1.2.1 dL_type_2 rfl (lv_at hl 0 rfl) ?_
  refine lv_iload_n E.1.1 E.1.2.1 dL_type_3 rfl (lv_at hl 1 rfl) ?_
  refine CC.callV (n := 1) (rest := [.int (nI 0), .ref o]) E hM ml_L_7 im_X3_type se_X3_type ini_X3 co_X3_type hd_X3_type ⟨(by show lev0 + 1 ≤ 8; omega), (by show 8 + (2 + 11) + 40 * lev0 ≤ 40 * 8; omega)⟩ ⟨Nat.zero_le _, Nat.zero_le _⟩ 0 rfl rfl hP hD hS hA2 rfl hl.1 (Nat.le_of_ble_eq_true rfl) dL_type_4 rfl (fun H locs hP hS => ?_)
  have hD : va_D A (wO ad cI cJ cZ o σ1 u) := wO_D hD
  refine W.eq (g2 := F0 m 7 ls [.int r, .int (nI 0), .ref o]) rfl ?_
  refine lv_i2l (v := r.toInt64) E.1.1 E.1.2.1 dL_type_7 rfl ?_
  refine CY.last (v := r.toInt64) E hP hD hS dL_type_8 (fun H locs hP hS => ?_)
  refine lv_goto (tgt := 18) E.1.1 E.1.2.1 dL_type_9 (by decide) ?_
  refine lv_iconst (v := nI 0) E.1.1 E.1.2.1 dL_type_18 rfl ?_
  exact CY.rti E hr hlk hA hP hS (Nat.zero_le _) (Nat.zero_le _) dL_type_19
set_option maxRecDepth 100000 in
set_option maxHeartbeats 400000 in
theorem cL_type_IA {l : Launch} {D : va_G} {cI cJ cZ : ClassId} {ad : Nat → Nat} {o : Nat} {σ σ1 : CS} {u : Int64} {v1 : Int32} (hM : CX l D (t3 cI cJ cZ) yX3_type cX3_type 2 (some .int) 6 [.ref (ad 0), .int v1] (wC ad cI cJ cZ σ) nIA) : CY l D (t3 cI cJ cZ) yL_type cL_type 4 [(0, 9, 12, 13), (0, 9, 15, 15)] 8 [.ref (ad 0), .int v1, .ref o] (wO ad cI cJ cZ o σ u) (nI 1) (wO ad cI cJ cZ o σ u) := by
  refine CY.of (by decide) (Nat.le_of_ble_eq_true rfl) ?_
  intro p e s m below meth c A ls E hr hlk hP hD hA hA2 hS hl hT hX
  have hl : lv_has ls 4 [(0, .ref (ad 0)), (1, .int v1), (2, .ref o)] := hl
  refine lv_aload_n E.1.1 E.1.2.1 dL_type_0 rfl (lv_at hl 2 rfl) ?_
  refine lv_iconst (v := nI 0) E.1.1 E.1.2.1 dL_type_1 rfl ?_
  refine lv_aload_n E.1.1 E.1.2.1 dL_type_2 rfl (lv_at hl 0 rfl) ?_
  refine lv_iload_n E.1.1 E.1.2.1 dL_type_3 rfl (lv_at hl 1 rfl) ?_
  refine CX.call (n := 1) (rest := [.int (nI 0), .ref o]) E hM ml_L_7 im_X3_type se_X3_type ini_X3 co_X3_type hd_X3_type ⟨by decide, by decide⟩ ⟨by decide, by decide⟩ 0 rfl rfl hP hD hS hA2 hX rfl hl.1 (Nat.le_of_ble_eq_true rfl) dL_type_4 rfl (fun ce q9 H locs hP hS hce hcv hcl => ?_)
  refine vx_catch (name := nIA) (E := nIA) E.1.2.2.2.1 [] ⟨0, 9, 12, 13⟩ [⟨0, 9, 15, 15⟩] (by rw [hT]; rfl) (fun z hz => nomatch hz) (by decide) (by decide) (E.1.2.2.2.2 _ (List.mem_cons_of_mem _ cl_L_13)) (hX.2.2.2.1.use _ (List.mem_of_getElem? (i := 0) rfl)) hce hcv hcl ?_
  refine lv_astore_n (lv' := [(3, .ref q9), (0, .ref (ad 0)), (1, .int v1), (2, .ref o)]) E.1.1 E.1.2.1 dL_type_12 rfl hl (by decide) rfl (fun ls hl => ?_)
  refine lv_iconst (v := nI 1) E.1.1 E.1.2.1 dL_type_13 rfl ?_
  exact CY.rti E hr hlk hA hP hS (by decide) (by decide) dL_type_14
set_option maxRecDepth 100000 in
set_option maxHeartbeats 400000 in
theorem cL_type_IS {l : Launch} {D : va_G} {cI cJ cZ : ClassId} {ad : Nat → Nat} {o : Nat} {σ σ1 : CS} {u : Int64} {v1 : Int32} (hM : CX l D (t3 cI cJ cZ) yX3_type cX3_type 2 (some .int) 6 [.ref (ad 0), .int v1] (wC ad cI cJ cZ σ) nIS) : CY l D (t3 cI cJ cZ) yL_type cL_type 4 [(0, 9, 12, 13), (0, 9, 15, 15)] 8 [.ref (ad 0), .int v1, .ref o] (wO ad cI cJ cZ o σ u) (nI 2) (wO ad cI cJ cZ o σ u) := by
  refine CY.of (by decide) (Nat.le_of_ble_eq_true rfl) ?_
  intro p e s m below meth c A ls E hr hlk hP hD hA hA2 hS hl hT hX
  have hl : lv_has ls 4 [(0, .ref (ad 0)), (1, .int v1), (2, .ref o)] := hl
  refine lv_aload_n E.1.1 E.1.2.1 dL_type_0 rfl (lv_at hl 2 rfl) ?_
  refine lv_iconst (v := nI 0) E.1.1 E.1.2.1 dL_type_1 rfl ?_
  refine lv_aload_n E.1.1 E.1.2.1 dL_type_2 rfl (lv_at hl 0 rfl) ?_
  refine lv_iload_n E.1.1 E.1.2.1 dL_type_3 rfl (lv_at hl 1 rfl) ?_
  refine CX.call (n := 1) (rest := [.int (nI 0), .ref o]) E hM ml_L_7 im_X3_type se_X3_type ini_X3 co_X3_type hd_X3_type ⟨by decide, by decide⟩ ⟨by decide, by decide⟩ 0 rfl rfl hP hD hS hA2 hX rfl hl.1 (Nat.le_of_ble_eq_true rfl) dL_type_4 rfl (fun ce q9 H locs hP hS hce hcv hcl => ?_)
  refine vx_catch (name := nIS) (E := nIS) E.1.2.2.2.1 [⟨0, 9, 12, 13⟩] ⟨0, 9, 15, 15⟩ [] (by rw [hT]; rfl) (fun z hz => by rcases List.mem_singleton.mp hz with rfl; exact Or.inr ⟨by decide, nIA, (E.1.2.2.2.2 _ (List.mem_cons_of_mem _ cl_L_13)), hX.2.2.2.2⟩) (by decide) (by decide) (E.1.2.2.2.2 _ (List.mem_cons_of_mem _ cl_L_15)) (hX.2.2.2.1.use _ (List.mem_of_getElem? (i := 1) rfl)) hce hcv hcl ?_
  refine lv_astore_n (lv' := [(3, .ref q9), (0, .ref (ad 0)), (1, .int v1), (2, .ref o)]) E.1.1 E.1.2.1 dL_type_15 rfl hl (by decide) rfl (fun ls hl => ?_)
  refine lv_iconst (v := nI 2) E.1.1 E.1.2.1 dL_type_16 rfl ?_
  exact CY.rti E hr hlk hA hP hS (by decide) (by decide) dL_type_17
theorem cw_L_operation : Cond.codeWith yL_operation cL_operation 9 (some .int) [(0, 18, 21, 13), (0, 18, 25, 15)] ∈ G := mG (by decide +kernel) rfl
theorem hdL_operation : yL_operation.cls ≠ "java/lang/invoke/MethodHandle" ∧ yL_operation.cls ≠ "java/lang/invoke/VarHandle" ∧ (parseMethodDescriptor yL_operation.desc).map (fun d => d.parameters.length) = some 8 := by decide +kernel
set_option maxRecDepth 100000 in
set_option maxHeartbeats 400000 in
theorem cL_operation_ok {l : Launch} {D : va_G} {cI cJ cZ : ClassId} {ad : Nat → Nat} {o : Nat} {σ σ1 : CS} {u : Int64} {v1 v2 v3 v4 v5 v6 : Int32} {r : Int32} {lev0 : Nat} (hM : CM l D (t3 cI cJ cZ) yX3_operation cX3_operation 8 (some .int) lev0 [.ref (ad 0), .int v1, .int v2, .int v3, .int v4, .int v5, .int v6] (wC ad cI cJ cZ σ) (some (.int r)) (wC ad cI cJ cZ σ1)) (hlev : lev0 ≤ 7) : CY l D (t3 cI cJ cZ) yL_operation cL_operation 9 [(0, 18, 21, 13), (0, 18, 25, 15)] 8 [.ref (ad 0), .int v1, .int v2, .int v3, .int v4, .int v5, .int v6, .ref o] (wO ad cI cJ cZ o σ u) (nI 0) (wO ad cI cJ cZ o σ1 r.toInt64) := by
  refine CY.of (by decide) (Nat.le_of_ble_eq_true rfl) ?_
  intro p e s m below meth c A ls E hr hlk hP hD hA hA2 hS hl hT hX
  have hl : lv_has ls 9 [(0, .ref (ad 0)), (1, .int v1), (2, .int v2), (3, .int v3), (4, .int v4), (5, .int v5), (6, .int v6), (7, .ref o)] := hl
  refine lv_aload E.1.1 E.1.2.1 dL_operation_0 (lv_at hl 7 rfl) ?_
  refine lv_iconst (v := nI 0) E.1.1 E.1.2.1 dL_operation_2 rfl ?_
  refine lv_aload_n E.1.1 E.1.2.1 dL_operation_3 rfl (lv_at hl 0 rfl) ?_
  refine lv_iload_n E.1.1 E.1.2.1 dL_operation_4 rfl (lv_at hl 1 rfl) ?_
  refine lv_iload_n E.1.1 E.1.2.1 dL_operation_5 rfl (lv_at hl 2 rfl) ?_
  refine lv_iload_n E.1.1 E.1.2.1 dL_operation_6 rfl (lv_at hl 3 rfl) ?_
  refine lv_iload E.1.1 E.1.2.1 dL_operation_7 (lv_at hl 4 rfl) ?_
  refine lv_iload E.1.1 E.1.2.1 dL_operation_9 (lv_at hl 5 rfl) ?_
  refine lv_iload E.1.1 E.1.2.1 dL_operation_11 (lv_at hl 6 rfl) ?_
  refine CC.callV (n := 6) (rest := [.int (nI 0), .ref o]) E hM ml_L_17 im_X3_operation se_X3_operation ini_X3 co_X3_operation hd_X3_operation ⟨(by show lev0 + 1 ≤ 8; omega), (by show 8 + (8 + 11) + 40 * lev0 ≤ 40 * 8; omega)⟩ ⟨Nat.zero_le _, Nat.zero_le _⟩ 0 rfl rfl hP hD hS hA2 rfl hl.1 (Nat.le_of_ble_eq_true rfl) dL_operation_13 rfl (fun H locs hP hS => ?_)
  have hD : va_D A (wO ad cI cJ cZ o σ1 u) := wO_D hD
  refine W.eq (g2 := F0 m 16 ls [.int r, .int (nI 0), .ref o]) rfl ?_
  refine lv_i2l (v := r.toInt64) E.1.1 E.1.2.1 dL_operation_16 rfl ?_
  refine CY.last (v := r.toInt64) E hP hD hS dL_operation_17 (fun H locs hP hS => ?_)
  refine lv_goto (tgt := 29) E.1.1 E.1.2.1 dL_operation_18 (by decide) ?_
  refine lv_iconst (v := nI 0) E.1.1 E.1.2.1 dL_operation_29 rfl ?_
  exact CY.rti E hr hlk hA hP hS (Nat.zero_le _) (Nat.zero_le _) dL_operation_30
set_option maxRecDepth 100000 in
set_option maxHeartbeats 400000 in
theorem cL_operation_IA {l : Launch} {D : va_G} {cI cJ cZ : ClassId} {ad : Nat → Nat} {o : Nat} {σ σ1 : CS} {u : Int64} {v1 v2 v3 v4 v5 v6 : Int32} (hM : CX l D (t3 cI cJ cZ) yX3_operation cX3_operation 8 (some .int) 6 [.ref (ad 0), .int v1, .int v2, .int v3, .int v4, .int v5, .int v6] (wC ad cI cJ cZ σ) nIA) : CY l D (t3 cI cJ cZ) yL_operation cL_operation 9 [(0, 18, 21, 13), (0, 18, 25, 15)] 8 [.ref (ad 0), .int v1, .int v2, .int v3, .int v4, .int v5, .int v6, .ref o] (wO ad cI cJ cZ o σ u) (nI 1) (wO ad cI cJ cZ o σ u) := by
  refine CY.of (by decide) (Nat.le_of_ble_eq_true rfl) ?_
  intro p e s m below meth c A ls E hr hlk hP hD hA hA2 hS hl hT hX
  have hl : lv_has ls 9 [(0, .ref (ad 0)), (1, .int v1), (2, .int v2), (3, .int v3), (4, .int v4), (5, .int v5), (6, .int v6), (7, .ref o)] := hl
  refine lv_aload E.1.1 E.1.2.1 dL_operation_0 (lv_at hl 7 rfl) ?_
  refine lv_iconst (v := nI 0) E.1.1 E.1.2.1 dL_operation_2 rfl ?_
  refine lv_aload_n E.1.1 E.1.2.1 dL_operation_3 rfl (lv_at hl 0 rfl) ?_
  refine lv_iload_n E.1.1 E.1.2.1 dL_operation_4 rfl (lv_at hl 1 rfl) ?_
  refine lv_iload_n E.1.1 E.1.2.1 dL_operation_5 rfl (lv_at hl 2 rfl) ?_
  refine lv_iload_n E.1.1 E.1.2.1 dL_operation_6 rfl (lv_at hl 3 rfl) ?_
  refine lv_iload E.1.1 E.1.2.1 dL_operation_7 (lv_at hl 4 rfl) ?_
  refine lv_iload E.1.1 E.1.2.1 dL_operation_9 (lv_at hl 5 rfl) ?_
  refine lv_iload E.1.1 E.1.2.1 dL_operation_11 (lv_at hl 6 rfl) ?_
  refine CX.call (n := 6) (rest := [.int (nI 0), .ref o]) E hM ml_L_17 im_X3_operation se_X3_operation ini_X3 co_X3_operation hd_X3_operation ⟨by decide, by decide⟩ ⟨by decide, by decide⟩ 0 rfl rfl hP hD hS hA2 hX rfl hl.1 (Nat.le_of_ble_eq_true rfl) dL_operation_13 rfl (fun ce q9 H locs hP hS hce hcv hcl => ?_)
  refine vx_catch (name := nIA) (E := nIA) E.1.2.2.2.1 [] ⟨0, 18, 21, 13⟩ [⟨0, 18, 25, 15⟩] (by rw [hT]; rfl) (fun z hz => nomatch hz) (by decide) (by decide) (E.1.2.2.2.2 _ (List.mem_cons_of_mem _ cl_L_13)) (hX.2.2.2.1.use _ (List.mem_of_getElem? (i := 0) rfl)) hce hcv hcl ?_
  refine lv_astore (lv' := [(8, .ref q9), (0, .ref (ad 0)), (1, .int v1), (2, .int v2), (3, .int v3), (4, .int v4), (5, .int v5), (6, .int v6), (7, .ref o)]) E.1.1 E.1.2.1 dL_operation_21 hl (by decide) rfl (fun ls hl => ?_)
  refine lv_iconst (v := nI 1) E.1.1 E.1.2.1 dL_operation_23 rfl ?_
  exact CY.rti E hr hlk hA hP hS (by decide) (by decide) dL_operation_24
set_option maxRecDepth 100000 in
set_option maxHeartbeats 400000 in
theorem cL_operation_IS {l : Launch} {D : va_G} {cI cJ cZ : ClassId} {ad : Nat → Nat} {o : Nat} {σ σ1 : CS} {u : Int64} {v1 v2 v3 v4 v5 v6 : Int32} (hM : CX l D (t3 cI cJ cZ) yX3_operation cX3_operation 8 (some .int) 6 [.ref (ad 0), .int v1, .int v2, .int v3, .int v4, .int v5, .int v6] (wC ad cI cJ cZ σ) nIS) : CY l D (t3 cI cJ cZ) yL_operation cL_operation 9 [(0, 18, 21, 13), (0, 18, 25, 15)] 8 [.ref (ad 0), .int v1, .int v2, .int v3, .int v4, .int v5, .int v6, .ref o] (wO ad cI cJ cZ o σ u) (nI 2) (wO ad cI cJ cZ o σ u) := by
  refine CY.of (by decide) (Nat.le_of_ble_eq_true rfl) ?_
  intro p e s m below meth c A ls E hr hlk hP hD hA hA2 hS hl hT hX
  have hl : lv_has ls 9 [(0, .ref (ad 0)), (1, .int v1), (2, .int v2), (3, .int v3), (4, .int v4), (5, .int v5), (6, .int v6), (7, .ref o)] := hl
  refine lv_aload E.1.1 E.1.2.1 dL_operation_0 (lv_at hl 7 rfl) ?_
  refine lv_iconst (v := nI 0) E.1.1 E.1.2.1 dL_operation_2 rfl ?_
  refine lv_aload_n E.1.1 E.1.2.1 dL_operation_3 rfl (lv_at hl 0 rfl) ?_
  refine lv_iload_n E.1.1 E.1.2.1 dL_operation_4 rfl (lv_at hl 1 rfl) ?_
  refine lv_iload_n E.1.1 E.1.2.1 dL_operation_5 rfl (lv_at hl 2 rfl) ?_
  refine lv_iload_n E.1.1 E.1.2.1 dL_operation_6 rfl (lv_at hl 3 rfl) ?_
  refine lv_iload E.1.1 E.1.2.1 dL_operation_7 (lv_at hl 4 rfl) ?_
  refine lv_iload E.1.1 E.1.2.1 dL_operation_9 (lv_at hl 5 rfl) ?_
  refine lv_iload E.1.1 E.1.2.1 dL_operation_11 (lv_at hl 6 rfl) ?_
  refine CX.call (n := 6) (rest := [.int (nI 0), .ref o]) E hM ml_L_17 im_X3_operation se_X3_operation ini_X3 co_X3_operation hd_X3_operation ⟨by decide, by decide⟩ ⟨by decide, by decide⟩ 0 rfl rfl hP hD hS hA2 hX rfl hl.1 (Nat.le_of_ble_eq_true rfl) dL_operation_13 rfl (fun ce q9 H locs hP hS hce hcv hcl => ?_)
  refine vx_catch (name := nIS) (E := nIS) E.1.2.2.2.1 [⟨0, 18, 21, 13⟩] ⟨0, 18, 25, 15⟩ [] (by rw [hT]; rfl) (fun z hz => by rcases List.mem_singleton.mp hz with rfl; exact Or.inr ⟨by decide, nIA, (E.1.2.2.2.2 _ (List.mem_cons_of_mem _ cl_L_13)), hX.2.2.2.2⟩) (by decide) (by decide) (E.1.2.2.2.2 _ (List.mem_cons_of_mem _ cl_L_15)) (hX.2.2.2.1.use _ (List.mem_of_getElem? (i := 1) rfl)) hce hcv hcl ?_
  refine lv_astore (lv' := [(8, .ref q9), (0, .ref (ad 0)), (1, .int v1), (2, .int v2), (3, .int v3), (4, .int v4), (5, .int v5), (6, .int v6), (7, .ref o)]) E.1.1 E.1.2.1 dL_operation_25 hl (by decide) rfl (fun ls hl => ?_)
  refine lv_iconst (v := nI 2) E.1.1 E.1.2.1 dL_operation_27 rfl ?_
  exact CY.rti E hr hlk hA hP hS (by decide) (by decide) dL_operation_28
theorem cw_L_strip : Cond.codeWith yL_strip cL_strip 5 (some .int) [(0, 10, 13, 13)] ∈ G := mG (by decide +kernel) rfl
theorem hdL_strip : yL_strip.cls ≠ "java/lang/invoke/MethodHandle" ∧ yL_strip.cls ≠ "java/lang/invoke/VarHandle" ∧ (parseMethodDescriptor yL_strip.desc).map (fun d => d.parameters.length) = some 4 := by decide +kernel
set_option maxRecDepth 100000 in
set_option maxHeartbeats 400000 in
theorem cL_strip_ok {l : Launch} {D : va_G} {cI cJ cZ : ClassId} {ad : Nat → Nat} {o : Nat} {σ σ1 : CS} {u : Int64} {v1 v2 : Int32} {r : Int32} {lev0 : Nat} (hM : CM l D (t3 cI cJ cZ) yX3_strip cX3_strip 4 (some .int) lev0 [.ref (ad 0), .int v1, .int v2] (wC ad cI cJ cZ σ) (some (.int r)) (wC ad cI cJ cZ σ1)) (hlev : lev0 ≤ 7) : CY l D (t3 cI cJ cZ) yL_strip cL_strip 5 [(0, 10, 13, 13)] 8 [.ref (ad 0), .int v1, .int v2, .ref o] (wO ad cI cJ cZ o σ u) (nI 0) (wO ad cI cJ cZ o σ1 r.toInt64) := by
  refine CY.of (by decide) (Nat.le_of_ble_eq_true rfl) ?_
  intro p e s m below meth c A ls E hr hlk hP hD hA hA2 hS hl hT hX
  have hl : lv_has ls 5 [(0, .ref (ad 0)), (1, .int v1), (2, .int v2), (3, .ref o)] := hl
  refine lv_aload_n E.1.1 E.1.2.1 dL_strip_0 rfl (lv_at hl 3 rfl) ?_
  refine lv_iconst (v := nI 0) E.1.1 E.1.2.1 dL_strip_1 rfl ?_
  refine lv_aload_n E.1.1 E.1.2.1 dL_strip_2 rfl (lv_at hl 0 rfl) ?_
  refine lv_iload_n E.1.1 E.1.2.1 dL_strip_3 rfl (lv_at hl 1 rfl) ?_
  refine lv_iload_n E.1.1 E.1.2.1 dL_strip_4 rfl (lv_at hl 2 rfl) ?_
  refine CC.callV (n := 2) (rest := [.int (nI 0), .ref o]) E hM ml_L_21 im_X3_strip se_X3_strip ini_X3 co_X3_strip hd_X3_strip ⟨(by show lev0 + 1 ≤ 8; omega), (by show 8 + (4 + 11) + 40 * lev0 ≤ 40 * 8; omega)⟩ ⟨Nat.zero_le _, Nat.zero_le _⟩ 0 rfl rfl hP hD hS hA2 rfl hl.1 (Nat.le_of_ble_eq_true rfl) dL_strip_5 rfl (fun H locs hP hS => ?_)
  have hD : va_D A (wO ad cI cJ cZ o σ1 u) := wO_D hD
  refine W.eq (g2 := F0 m 8 ls [.int r, .int (nI 0), .ref o]) rfl ?_
  refine lv_i2l (v := r.toInt64) E.1.1 E.1.2.1 dL_strip_8 rfl ?_
  refine CY.last (v := r.toInt64) E hP hD hS dL_strip_9 (fun H locs hP hS => ?_)
  refine lv_goto (tgt := 17) E.1.1 E.1.2.1 dL_strip_10 (by decide) ?_
  refine lv_iconst (v := nI 0) E.1.1 E.1.2.1 dL_strip_17 rfl ?_
  exact CY.rti E hr hlk hA hP hS (Nat.zero_le _) (Nat.zero_le _) dL_strip_18
set_option maxRecDepth 100000 in
set_option maxHeartbeats 400000 in
theorem cL_strip_IA {l : Launch} {D : va_G} {cI cJ cZ : ClassId} {ad : Nat → Nat} {o : Nat} {σ σ1 : CS} {u : Int64} {v1 v2 : Int32} (hM : CX l D (t3 cI cJ cZ) yX3_strip cX3_strip 4 (some .int) 6 [.ref (ad 0), .int v1, .int v2] (wC ad cI cJ cZ σ) nIA) : CY l D (t3 cI cJ cZ) yL_strip cL_strip 5 [(0, 10, 13, 13)] 8 [.ref (ad 0), .int v1, .int v2, .ref o] (wO ad cI cJ cZ o σ u) (nI 1) (wO ad cI cJ cZ o σ u) := by
  refine CY.of (by decide) (Nat.le_of_ble_eq_true rfl) ?_
  intro p e s m below meth c A ls E hr hlk hP hD hA hA2 hS hl hT hX
  have hl : lv_has ls 5 [(0, .ref (ad 0)), (1, .int v1), (2, .int v2), (3, .ref o)] := hl
  refine lv_aload_n E.1.1 E.1.2.1 dL_strip_0 rfl (lv_at hl 3 rfl) ?_
  refine lv_iconst (v := nI 0) E.1.1 E.1.2.1 dL_strip_1 rfl ?_
  refine lv_aload_n E.1.1 E.1.2.1 dL_strip_2 rfl (lv_at hl 0 rfl) ?_
  refine lv_iload_n E.1.1 E.1.2.1 dL_strip_3 rfl (lv_at hl 1 rfl) ?_
  refine lv_iload_n E.1.1 E.1.2.1 dL_strip_4 rfl (lv_at hl 2 rfl) ?_
  refine CX.call (n := 2) (rest := [.int (nI 0), .ref o]) E hM ml_L_21 im_X3_strip se_X3_strip ini_X3 co_X3_strip hd_X3_strip ⟨by decide, by decide⟩ ⟨by decide, by decide⟩ 0 rfl rfl hP hD hS hA2 hX rfl hl.1 (Nat.le_of_ble_eq_true rfl) dL_strip_5 rfl (fun ce q9 H locs hP hS hce hcv hcl => ?_)
  refine vx_catch (name := nIA) (E := nIA) E.1.2.2.2.1 [] ⟨0, 10, 13, 13⟩ [] (by rw [hT]; rfl) (fun z hz => nomatch hz) (by decide) (by decide) (E.1.2.2.2.2 _ (List.mem_cons_of_mem _ cl_L_13)) (hX.2.2.2.1.use _ (List.mem_of_getElem? (i := 0) rfl)) hce hcv hcl ?_
  refine lv_astore (lv' := [(4, .ref q9), (0, .ref (ad 0)), (1, .int v1), (2, .int v2), (3, .ref o)]) E.1.1 E.1.2.1 dL_strip_13 hl (by decide) rfl (fun ls hl => ?_)
  refine lv_iconst (v := nI 1) E.1.1 E.1.2.1 dL_strip_15 rfl ?_
  exact CY.rti E hr hlk hA hP hS (by decide) (by decide) dL_strip_16
theorem cw_L_site : Cond.codeWith yL_site cL_site 6 (some .int) [(0, 12, 15, 29)] ∈ G := mG (by decide +kernel) rfl
theorem hdL_site : yL_site.cls ≠ "java/lang/invoke/MethodHandle" ∧ yL_site.cls ≠ "java/lang/invoke/VarHandle" ∧ (parseMethodDescriptor yL_site.desc).map (fun d => d.parameters.length) = some 5 := by decide +kernel
set_option maxRecDepth 100000 in
set_option maxHeartbeats 400000 in
theorem cL_site_ok {l : Launch} {D : va_G} {cI cJ cZ : ClassId} {ad : Nat → Nat} {o : Nat} {σ σ1 : CS} {u : Int64} {v1 v2 v3 : Int32} {r : Int32} {lev0 : Nat} (hM : CM l D (t3 cI cJ cZ) yX3_site cX3_site 5 (some .int) lev0 [.ref (ad 0), .int v1, .int v2, .int v3] (wC ad cI cJ cZ σ) (some (.int r)) (wC ad cI cJ cZ σ1)) (hlev : lev0 ≤ 7) : CY l D (t3 cI cJ cZ) yL_site cL_site 6 [(0, 12, 15, 29)] 8 [.ref (ad 0), .int v1, .int v2, .int v3, .ref o] (wO ad cI cJ cZ o σ u) (nI 0) (wO ad cI cJ cZ o σ1 r.toInt64) := by
  refine CY.of (by decide) (Nat.le_of_ble_eq_true rfl) ?_
  intro p e s m below meth c A ls E hr hlk hP hD hA hA2 hS hl hT hX
  have hl : lv_has ls 6 [(0, .ref (ad 0)), (1, .int v1), (2, .int v2), (3, .int v3), (4, .ref o)] := hl
  refine lv_aload E.1.1 E.1.2.1 dL_site_0 (lv_at hl 4 rfl) ?_
  refine lv_iconst (v := nI 0) E.1.1 E.1.2.1 dL_site_2 rfl ?_
  refine lv_aload_n E.1.1 E.1.2.1 dL_site_3 rfl (lv_at hl 0 rfl) ?_
  refine lv_iload_n E.1.1 E.1.2.1 dL_site_4 rfl (lv_at hl 1 rfl) ?_
  refine lv_iload_n E.1.1 E.1.2.1 dL_site_5 rfl (lv_at hl 2 rfl) ?_
  refine lv_iload_n E.1.1 E.1.2.1 dL_site_6 rfl (lv_at hl 3 rfl) ?_
  refine CC.callV (n := 3) (rest := [.int (nI 0), .ref o]) E hM ml_L_25 im_X3_site se_X3_site ini_X3 co_X3_site hd_X3_site ⟨(by show lev0 + 1 ≤ 8; omega), (by show 8 + (5 + 11) + 40 * lev0 ≤ 40 * 8; omega)⟩ ⟨Nat.zero_le _, Nat.zero_le _⟩ 0 rfl rfl hP hD hS hA2 rfl hl.1 (Nat.le_of_ble_eq_true rfl) dL_site_7 rfl (fun H locs hP hS => ?_)
  have hD : va_D A (wO ad cI cJ cZ o σ1 u) := wO_D hD
  refine W.eq (g2 := F0 m 10 ls [.int r, .int (nI 0), .ref o]) rfl ?_
  refine lv_i2l (v := r.toInt64) E.1.1 E.1.2.1 dL_site_10 rfl ?_
  refine CY.last (v := r.toInt64) E hP hD hS dL_site_11 (fun H locs hP hS => ?_)
  refine lv_goto (tgt := 19) E.1.1 E.1.2.1 dL_site_12 (by decide) ?_
  refine lv_iconst (v := nI 0) E.1.1 E.1.2.1 dL_site_19 rfl ?_
  exact CY.rti E hr hlk hA hP hS (Nat.zero_le _) (Nat.zero_le _) dL_site_20
set_option maxRecDepth 100000 in
set_option maxHeartbeats 400000 in
theorem cL_site_NS {l : Launch} {D : va_G} {cI cJ cZ : ClassId} {ad : Nat → Nat} {o : Nat} {σ σ1 : CS} {u : Int64} {v1 v2 v3 : Int32} (hM : CX l D (t3 cI cJ cZ) yX3_site cX3_site 5 (some .int) 6 [.ref (ad 0), .int v1, .int v2, .int v3] (wC ad cI cJ cZ σ) nNS) : CY l D (t3 cI cJ cZ) yL_site cL_site 6 [(0, 12, 15, 29)] 8 [.ref (ad 0), .int v1, .int v2, .int v3, .ref o] (wO ad cI cJ cZ o σ u) (nI 1) (wO ad cI cJ cZ o σ u) := by
  refine CY.of (by decide) (Nat.le_of_ble_eq_true rfl) ?_
  intro p e s m below meth c A ls E hr hlk hP hD hA hA2 hS hl hT hX
  have hl : lv_has ls 6 [(0, .ref (ad 0)), (1, .int v1), (2, .int v2), (3, .int v3), (4, .ref o)] := hl
  refine lv_aload E.1.1 E.1.2.1 dL_site_0 (lv_at hl 4 rfl) ?_
  refine lv_iconst (v := nI 0) E.1.1 E.1.2.1 dL_site_2 rfl ?_
  refine lv_aload_n E.1.1 E.1.2.1 dL_site_3 rfl (lv_at hl 0 rfl) ?_
  refine lv_iload_n E.1.1 E.1.2.1 dL_site_4 rfl (lv_at hl 1 rfl) ?_
  refine lv_iload_n E.1.1 E.1.2.1 dL_site_5 rfl (lv_at hl 2 rfl) ?_
  refine lv_iload_n E.1.1 E.1.2.1 dL_site_6 rfl (lv_at hl 3 rfl) ?_
  refine CX.call (n := 3) (rest := [.int (nI 0), .ref o]) E hM ml_L_25 im_X3_site se_X3_site ini_X3 co_X3_site hd_X3_site ⟨by decide, by decide⟩ ⟨by decide, by decide⟩ 0 rfl rfl hP hD hS hA2 hX rfl hl.1 (Nat.le_of_ble_eq_true rfl) dL_site_7 rfl (fun ce q9 H locs hP hS hce hcv hcl => ?_)
  refine vx_catch (name := nNS) (E := nNS) E.1.2.2.2.1 [] ⟨0, 12, 15, 29⟩ [] (by rw [hT]; rfl) (fun z hz => nomatch hz) (by decide) (by decide) (E.1.2.2.2.2 _ (List.mem_cons_of_mem _ cl_L_29)) (hX.2.2.2.1.use _ (List.mem_of_getElem? (i := 2) rfl)) hce hcv hcl ?_
  refine lv_astore (lv' := [(5, .ref q9), (0, .ref (ad 0)), (1, .int v1), (2, .int v2), (3, .int v3), (4, .ref o)]) E.1.1 E.1.2.1 dL_site_15 hl (by decide) rfl (fun ls hl => ?_)
  refine lv_iconst (v := nI 1) E.1.1 E.1.2.1 dL_site_17 rfl ?_
  exact CY.rti E hr hlk hA hP hS (by decide) (by decide) dL_site_18
theorem cw_L_run : Cond.codeWith yL_run cL_run 5 (some .int) [(0, 10, 13, 13)] ∈ G := mG (by decide +kernel) rfl
theorem hdL_run : yL_run.cls ≠ "java/lang/invoke/MethodHandle" ∧ yL_run.cls ≠ "java/lang/invoke/VarHandle" ∧ (parseMethodDescriptor yL_run.desc).map (fun d => d.parameters.length) = some 4 := by decide +kernel
set_option maxRecDepth 100000 in
set_option maxHeartbeats 400000 in
theorem cL_run_ok {l : Launch} {D : va_G} {cI cJ cZ : ClassId} {ad : Nat → Nat} {o : Nat} {σ σ1 : CS} {u : Int64} {v1 v2 : Int32} {r : Int32} {lev0 : Nat} (hM : CM l D (t3 cI cJ cZ) yX3_run cX3_run 3 (some .int) lev0 [.ref (ad 0), .int v1, .int v2] (wC ad cI cJ cZ σ) (some (.int r)) (wC ad cI cJ cZ σ1)) (hlev : lev0 ≤ 7) : CY l D (t3 cI cJ cZ) yL_run cL_run 5 [(0, 10, 13, 13)] 8 [.ref (ad 0), .int v1, .int v2, .ref o] (wO ad cI cJ cZ o σ u) (nI 0) (wO ad cI cJ cZ o σ1 r.toInt64) := by
  refine CY.of (by decide) (Nat.le_of_ble_eq_true rfl) ?_
  intro p e s m below meth c A ls E hr hlk hP hD hA hA2 hS hl hT hX
  have hl : lv_has ls 5 [(0, .ref (ad 0)), (1, .int v1), (2, .int v2), (3, .ref o)] := hl
  refine lv_aload_n E.1.1 E.1.2.1 dL_run_0 rfl (lv_at hl 3 rfl) ?_
  refine lv_iconst (v := nI 0) E.1.1 E.1.2.1 dL_run_1 rfl ?_
  refine lv_aload_n E.1.1 E.1.2.1 dL_run_2 rfl (lv_at hl 0 rfl) ?_
  refine lv_iload_n E.1.1 E.1.2.1 dL_run_3 rfl (lv_at hl 1 rfl) ?_
  refine lv_iload_n E.1.1 E.1.2.1 dL_run_4 rfl (lv_at hl 2 rfl) ?_
  refine CC.callV (n := 2) (rest := [.int (nI 0), .ref o]) E hM ml_L_31 im_X3_run se_X3_run ini_X3 co_X3_run hd_X3_run ⟨(by show lev0 + 1 ≤ 8; omega), (by show 8 + (3 + 11) + 40 * lev0 ≤ 40 * 8; omega)⟩ ⟨Nat.zero_le _, Nat.zero_le _⟩ 0 rfl rfl hP hD hS hA2 rfl hl.1 (Nat.le_of_ble_eq_true rfl) dL_run_5 rfl (fun H locs hP hS => ?_)
  have hD : va_D A (wO ad cI cJ cZ o σ1 u) := wO_D hD
  refine W.eq (g2 := F0 m 8 ls [.int r, .int (nI 0), .ref o]) rfl ?_
  refine lv_i2l (v := r.toInt64) E.1.1 E.1.2.1 dL_run_8 rfl ?_
  refine CY.last (v := r.toInt64) E hP hD hS dL_run_9 (fun H locs hP hS => ?_)
  refine lv_goto (tgt := 17) E.1.1 E.1.2.1 dL_run_10 (by decide) ?_
  refine lv_iconst (v := nI 0) E.1.1 E.1.2.1 dL_run_17 rfl ?_
  exact CY.rti E hr hlk hA hP hS (Nat.zero_le _) (Nat.zero_le _) dL_run_18
set_option maxRecDepth 100000 in
set_option maxHeartbeats 400000 in
theorem cL_run_IA {l : Launch} {D : va_G} {cI cJ cZ : ClassId} {ad : Nat → Nat} {o : Nat} {σ σ1 : CS} {u : Int64} {v1 v2 : Int32} (hM : CX l D (t3 cI cJ cZ) yX3_run cX3_run 3 (some .int) 6 [.ref (ad 0), .int v1, .int v2] (wC ad cI cJ cZ σ) nIA) : CY l D (t3 cI cJ cZ) yL_run cL_run 5 [(0, 10, 13, 13)] 8 [.ref (ad 0), .int v1, .int v2, .ref o] (wO ad cI cJ cZ o σ u) (nI 1) (wO ad cI cJ cZ o σ u) := by
  refine CY.of (by decide) (Nat.le_of_ble_eq_true rfl) ?_
  intro p e s m below meth c A ls E hr hlk hP hD hA hA2 hS hl hT hX
  have hl : lv_has ls 5 [(0, .ref (ad 0)), (1, .int v1), (2, .int v2), (3, .ref o)] := hl
  refine lv_aload_n E.1.1 E.1.2.1 dL_run_0 rfl (lv_at hl 3 rfl) ?_
  refine lv_iconst (v := nI 0) E.1.1 E.1.2.1 dL_run_1 rfl ?_
  refine lv_aload_n E.1.1 E.1.2.1 dL_run_2 rfl (lv_at hl 0 rfl) ?_
  refine lv_iload_n E.1.1 E.1.2.1 dL_run_3 rfl (lv_at hl 1 rfl) ?_
  refine lv_iload_n E.1.1 E.1.2.1 dL_run_4 rfl (lv_at hl 2 rfl) ?_
  refine CX.call (n := 2) (rest := [.int (nI 0), .ref o]) E hM ml_L_31 im_X3_run se_X3_run ini_X3 co_X3_run hd_X3_run ⟨by decide, by decide⟩ ⟨by decide, by decide⟩ 0 rfl rfl hP hD hS hA2 hX rfl hl.1 (Nat.le_of_ble_eq_true rfl) dL_run_5 rfl (fun ce q9 H locs hP hS hce hcv hcl => ?_)
  refine vx_catch (name := nIA) (E := nIA) E.1.2.2.2.1 [] ⟨0, 10, 13, 13⟩ [] (by rw [hT]; rfl) (fun z hz => nomatch hz) (by decide) (by decide) (E.1.2.2.2.2 _ (List.mem_cons_of_mem _ cl_L_13)) (hX.2.2.2.1.use _ (List.mem_of_getElem? (i := 0) rfl)) hce hcv hcl ?_
  refine lv_astore (lv' := [(4, .ref q9), (0, .ref (ad 0)), (1, .int v1), (2, .int v2), (3, .ref o)]) E.1.1 E.1.2.1 dL_run_13 hl (by decide) rfl (fun ls hl => ?_)
  refine lv_iconst (v := nI 1) E.1.1 E.1.2.1 dL_run_15 rfl ?_
  exact CY.rti E hr hlk hA hP hS (by decide) (by decide) dL_run_16
theorem cw_L_count : Cond.codeWith yL_count cL_count 4 (some .int) [(0, 9, 12, 29)] ∈ G := mG (by decide +kernel) rfl
theorem hdL_count : yL_count.cls ≠ "java/lang/invoke/MethodHandle" ∧ yL_count.cls ≠ "java/lang/invoke/VarHandle" ∧ (parseMethodDescriptor yL_count.desc).map (fun d => d.parameters.length) = some 3 := by decide +kernel
set_option maxRecDepth 100000 in
set_option maxHeartbeats 400000 in
theorem cL_count_ok {l : Launch} {D : va_G} {cI cJ cZ : ClassId} {ad : Nat → Nat} {o : Nat} {σ σ1 : CS} {u : Int64} {v1 : Int32} {r : Int32} {lev0 : Nat} (hM : CM l D (t3 cI cJ cZ) yX3_count cX3_count 2 (some .int) lev0 [.ref (ad 0), .int v1] (wC ad cI cJ cZ σ) (some (.int r)) (wC ad cI cJ cZ σ1)) (hlev : lev0 ≤ 7) : CY l D (t3 cI cJ cZ) yL_count cL_count 4 [(0, 9, 12, 29)] 8 [.ref (ad 0), .int v1, .ref o] (wO ad cI cJ cZ o σ u) (nI 0) (wO ad cI cJ cZ o σ1 r.toInt64) := by
  refine CY.of (by decide) (Nat.le_of_ble_eq_true rfl) ?_
  intro p e s m below meth c A ls E hr hlk hP hD hA hA2 hS hl hT hX
  have hl : lv_has ls 4 [(0, .ref (ad 0)), (1, .int v1), (2, .ref o)] := hl
  refine lv_aload_n E.1.1 E.1.2.1 dL_count_0 rfl (lv_at hl 2 rfl) ?_
  refine lv_iconst (v := nI 0) E.1.1 E.1.2.1 dL_count_1 rfl ?_
  refine lv_aload_n E.1.1 E.1.2.1 dL_count_2 rfl (lv_at hl 0 rfl) ?_
  refine lv_iload_n E.1.1 E.1.2.1 dL_count_3 rfl (lv_at hl 1 rfl) ?_
  refine CC.callV (n := 1) (rest := [.int (nI 0), .ref o]) E hM ml_L_35 im_X3_count se_X3_count ini_X3 co_X3_count hd_X3_count ⟨(by show lev0 + 1 ≤ 8; omega), (by show 8 + (2 + 11) + 40 * lev0 ≤ 40 * 8; omega)⟩ ⟨Nat.zero_le _, Nat.zero_le _⟩ 0 rfl rfl hP hD hS hA2 rfl hl.1 (Nat.le_of_ble_eq_true rfl) dL_count_4 rfl (fun H locs hP hS => ?_)
  have hD : va_D A (wO ad cI cJ cZ o σ1 u) := wO_D hD
  refine W.eq (g2 := F0 m 7 ls [.int r, .int (nI 0), .ref o]) rfl ?_
  refine lv_i2l (v := r.toInt64) E.1.1 E.1.2.1 dL_count_7 rfl ?_
  refine CY.last (v := r.toInt64) E hP hD hS dL_count_8 (fun H locs hP hS => ?_)
  refine lv_goto (tgt := 15) E.1.1 E.1.2.1 dL_count_9 (by decide) ?_
  refine lv_iconst (v := nI 0) E.1.1 E.1.2.1 dL_count_15 rfl ?_
  exact CY.rti E hr hlk hA hP hS (Nat.zero_le _) (Nat.zero_le _) dL_count_16
set_option maxRecDepth 100000 in
set_option maxHeartbeats 400000 in
theorem cL_count_NS {l : Launch} {D : va_G} {cI cJ cZ : ClassId} {ad : Nat → Nat} {o : Nat} {σ σ1 : CS} {u : Int64} {v1 : Int32} (hM : CX l D (t3 cI cJ cZ) yX3_count cX3_count 2 (some .int) 6 [.ref (ad 0), .int v1] (wC ad cI cJ cZ σ) nNS) : CY l D (t3 cI cJ cZ) yL_count cL_count 4 [(0, 9, 12, 29)] 8 [.ref (ad 0), .int v1, .ref o] (wO ad cI cJ cZ o σ u) (nI 1) (wO ad cI cJ cZ o σ u) := by
  refine CY.of (by decide) (Nat.le_of_ble_eq_true rfl) ?_
  intro p e s m below meth c A ls E hr hlk hP hD hA hA2 hS hl hT hX
  have hl : lv_has ls 4 [(0, .ref (ad 0)), (1, .int v1), (2, .ref o)] := hl
  refine lv_aload_n E.1.1 E.1.2.1 dL_count_0 rfl (lv_at hl 2 rfl) ?_
  refine lv_iconst (v := nI 0) E.1.1 E.1.2.1 dL_count_1 rfl ?_
  refine lv_aload_n E.1.1 E.1.2.1 dL_count_2 rfl (lv_at hl 0 rfl) ?_
  refine lv_iload_n E.1.1 E.1.2.1 dL_count_3 rfl (lv_at hl 1 rfl) ?_
  refine CX.call (n := 1) (rest := [.int (nI 0), .ref o]) E hM ml_L_35 im_X3_count se_X3_count ini_X3 co_X3_count hd_X3_count ⟨by decide, by decide⟩ ⟨by decide, by decide⟩ 0 rfl rfl hP hD hS hA2 hX rfl hl.1 (Nat.le_of_ble_eq_true rfl) dL_count_4 rfl (fun ce q9 H locs hP hS hce hcv hcl => ?_)
  refine vx_catch (name := nNS) (E := nNS) E.1.2.2.2.1 [] ⟨0, 9, 12, 29⟩ [] (by rw [hT]; rfl) (fun z hz => nomatch hz) (by decide) (by decide) (E.1.2.2.2.2 _ (List.mem_cons_of_mem _ cl_L_29)) (hX.2.2.2.1.use _ (List.mem_of_getElem? (i := 2) rfl)) hce hcv hcl ?_
  refine lv_astore_n (lv' := [(3, .ref q9), (0, .ref (ad 0)), (1, .int v1), (2, .ref o)]) E.1.1 E.1.2.1 dL_count_12 rfl hl (by decide) rfl (fun ls hl => ?_)
  refine lv_iconst (v := nI 1) E.1.1 E.1.2.1 dL_count_13 rfl ?_
  exact CY.rti E hr hlk hA hP hS (by decide) (by decide) dL_count_14
theorem cw_L_out : Cond.codeWith yL_out cL_out 4 (some .int) [(0, 9, 12, 29)] ∈ G := mG (by decide +kernel) rfl
theorem hdL_out : yL_out.cls ≠ "java/lang/invoke/MethodHandle" ∧ yL_out.cls ≠ "java/lang/invoke/VarHandle" ∧ (parseMethodDescriptor yL_out.desc).map (fun d => d.parameters.length) = some 3 := by decide +kernel
set_option maxRecDepth 100000 in
set_option maxHeartbeats 400000 in
theorem cL_out_ok {l : Launch} {D : va_G} {cI cJ cZ : ClassId} {ad : Nat → Nat} {o : Nat} {σ σ1 : CS} {u : Int64} {v1 : Int32} {r : Int32} {lev0 : Nat} (hM : CM l D (t3 cI cJ cZ) yX3_out cX3_out 2 (some .int) lev0 [.ref (ad 0), .int v1] (wC ad cI cJ cZ σ) (some (.int r)) (wC ad cI cJ cZ σ1)) (hlev : lev0 ≤ 7) : CY l D (t3 cI cJ cZ) yL_out cL_out 4 [(0, 9, 12, 29)] 8 [.ref (ad 0), .int v1, .ref o] (wO ad cI cJ cZ o σ u) (nI 0) (wO ad cI cJ cZ o σ1 r.toInt64) := by
  refine CY.of (by decide) (Nat.le_of_ble_eq_true rfl) ?_
  intro p e s m below meth c A ls E hr hlk hP hD hA hA2 hS hl hT hX
  have hl : lv_has ls 4 [(0, .ref (ad 0)), (1, .int v1), (2, .ref o)] := hl
  refine lv_aload_n E.1.1 E.1.2.1 dL_out_0 rfl (lv_at hl 2 rfl) ?_
  refine lv_iconst (v := nI 0) E.1.1 E.1.2.1 dL_out_1 rfl ?_
  refine lv_aload_n E.1.1 E.1.2.1 dL_out_2 rfl (lv_at hl 0 rfl) ?_
  refine lv_iload_n E.1.1 E.1.2.1 dL_out_3 rfl (lv_at hl 1 rfl) ?_
  refine CC.callV (n := 1) (rest := [.int (nI 0), .ref o]) E hM ml_L_38 im_X3_out se_X3_out ini_X3 co_X3_out hd_X3_out ⟨(by show lev0 + 1 ≤ 8; omega), (by show 8 + (2 + 11) + 40 * lev0 ≤ 40 * 8; omega)⟩ ⟨Nat.zero_le _, Nat.zero_le _⟩ 0 rfl rfl hP hD hS hA2 rfl hl.1 (Nat.le_of_ble_eq_true rfl) dL_out_4 rfl (fun H locs hP hS => ?_)
  have hD : va_D A (wO ad cI cJ cZ o σ1 u) := wO_D hD
  refine W.eq (g2 := F0 m 7 ls [.int r, .int (nI 0), .ref o]) rfl ?_
  refine lv_i2l (v := r.toInt64) E.1.1 E.1.2.1 dL_out_7 rfl ?_
  refine CY.last (v := r.toInt64) E hP hD hS dL_out_8 (fun H locs hP hS => ?_)
  refine lv_goto (tgt := 15) E.1.1 E.1.2.1 dL_out_9 (by decide) ?_
  refine lv_iconst (v := nI 0) E.1.1 E.1.2.1 dL_out_15 rfl ?_
  exact CY.rti E hr hlk hA hP hS (Nat.zero_le _) (Nat.zero_le _) dL_out_16
set_option maxRecDepth 100000 in
set_option maxHeartbeats 400000 in
theorem cL_out_NS {l : Launch} {D : va_G} {cI cJ cZ : ClassId} {ad : Nat → Nat} {o : Nat} {σ σ1 : CS} {u : Int64} {v1 : Int32} (hM : CX l D (t3 cI cJ cZ) yX3_out cX3_out 2 (some .int) 6 [.ref (ad 0), .int v1] (wC ad cI cJ cZ σ) nNS) : CY l D (t3 cI cJ cZ) yL_out cL_out 4 [(0, 9, 12, 29)] 8 [.ref (ad 0), .int v1, .ref o] (wO ad cI cJ cZ o σ u) (nI 1) (wO ad cI cJ cZ o σ u) := by
  refine CY.of (by decide) (Nat.le_of_ble_eq_true rfl) ?_
  intro p e s m below meth c A ls E hr hlk hP hD hA hA2 hS hl hT hX
  have hl : lv_has ls 4 [(0, .ref (ad 0)), (1, .int v1), (2, .ref o)] := hl
  refine lv_aload_n E.1.1 E.1.2.1 dL_out_0 rfl (lv_at hl 2 rfl) ?_
  refine lv_iconst (v := nI 0) E.1.1 E.1.2.1 dL_out_1 rfl ?_
  refine lv_aload_n E.1.1 E.1.2.1 dL_out_2 rfl (lv_at hl 0 rfl) ?_
  refine lv_iload_n E.1.1 E.1.2.1 dL_out_3 rfl (lv_at hl 1 rfl) ?_
  refine CX.call (n := 1) (rest := [.int (nI 0), .ref o]) E hM ml_L_38 im_X3_out se_X3_out ini_X3 co_X3_out hd_X3_out ⟨by decide, by decide⟩ ⟨by decide, by decide⟩ 0 rfl rfl hP hD hS hA2 hX rfl hl.1 (Nat.le_of_ble_eq_true rfl) dL_out_4 rfl (fun ce q9 H locs hP hS hce hcv hcl => ?_)
  refine vx_catch (name := nNS) (E := nNS) E.1.2.2.2.1 [] ⟨0, 9, 12, 29⟩ [] (by rw [hT]; rfl) (fun z hz => nomatch hz) (by decide) (by decide) (E.1.2.2.2.2 _ (List.mem_cons_of_mem _ cl_L_29)) (hX.2.2.2.1.use _ (List.mem_of_getElem? (i := 2) rfl)) hce hcv hcl ?_
  refine lv_astore_n (lv' := [(3, .ref q9), (0, .ref (ad 0)), (1, .int v1), (2, .ref o)]) E.1.1 E.1.2.1 dL_out_12 rfl hl (by decide) rfl (fun ls hl => ?_)
  refine lv_iconst (v := nI 1) E.1.1 E.1.2.1 dL_out_13 rfl ?_
  exact CY.rti E hr hlk hA hP hS (by decide) (by decide) dL_out_14
