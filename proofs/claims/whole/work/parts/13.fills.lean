set_option maxRecDepth 100000 in
set_option maxHeartbeats 4000000 in
theorem c_J7_rangeCheck_23922 (l : Launch) (D : va_G) (cI cJ cZ : ClassId) (ad : Nat → Nat) (σ : CS) (n : Nat) (a : Nat) (b : Nat)  (hab : a ≤ b) (hbn : b ≤ n) (hn : n < 2147483648) : CM l D (t3 cI cJ cZ) yJ7_rangeCheck_23922 cJ7_rangeCheck_23922 3 none 0 [.int (nI n), .int (nI a), .int (nI b)] (wC ad cI cJ cZ σ) (none) (wC ad cI cJ cZ σ) := by
  refine CM.of (by decide) (Nat.le_of_ble_eq_true rfl) ?_
  intro p e s m below meth c A ls E hr hlk hP hD0 hA hA2 hS hl
  have hD := wC_D hD0
  have hl : lv_has ls 3 [(0, .int (nI n)), (1, .int (nI a)), (2, .int (nI b))] := hl
  refine lv_iload_n E.1.1 E.1.2.1 dJ7_rangeCheck_23922_0 rfl (lv_at hl 1 rfl) ?_
  refine lv_iload_n E.1.1 E.1.2.1 dJ7_rangeCheck_23922_1 rfl (lv_at hl 2 rfl) ?_
  refine nv_icmp_le (by omega) (by omega) E dJ7_rangeCheck_23922_2 (tgt := 46) (by decide) (fun h2 => ?_) (fun h2 => ?_)
  · refine lv_iload_n E.1.1 E.1.2.1 dJ7_rangeCheck_23922_46 rfl (lv_at hl 1 rfl) ?_
    refine nv_if_ge (by omega) E dJ7_rangeCheck_23922_47 (tgt := 59) (by decide) ?_
    refine lv_iload_n E.1.1 E.1.2.1 dJ7_rangeCheck_23922_59 rfl (lv_at hl 2 rfl) ?_
    refine lv_iload_n E.1.1 E.1.2.1 dJ7_rangeCheck_23922_60 rfl (lv_at hl 0 rfl) ?_
    refine nv_icmp_le (by omega) (by omega) E dJ7_rangeCheck_23922_61 (tgt := 73) (by decide) (fun h61 => ?_) (fun h61 => ?_)
    · exact CM.retv E hr hlk hA hP hS rfl dJ7_rangeCheck_23922_73
    · exact absurd h61 (by omega)
  · exact absurd h2 (by omega)
set_option maxRecDepth 100000 in
set_option maxHeartbeats 4000000 in
theorem c_J7_fill_fda19_V (l : Launch) (D : va_G) (cI cJ cZ : ClassId) (ad : Nat → Nat) (σ : CS) (a : Nat) (b : Nat) (v : Nat)  (hab : a ≤ b) (hbn : b ≤ 240) : CM l D (t3 cI cJ cZ) yJ7_fill_fda19 cJ7_fill_fda19 5 none 1 [.ref (ad 10), .int (nI a), .int (nI b), .int (nI v)] (wC ad cI cJ cZ σ) (none) (wC ad cI cJ cZ (scV σ (fillF (gcV σ) a b v))) := by
  refine CM.of (by decide) (Nat.le_of_ble_eq_true rfl) ?_
  intro p e s m below meth c A ls E hr hlk hP hD0 hA hA2 hS hl
  have hD := wC_D hD0
  have hl : lv_has ls 5 [(0, .ref (ad 10)), (1, .int (nI a)), (2, .int (nI b)), (3, .int (nI v))] := hl
  refine lv_aload_n E.1.1 E.1.2.1 dJ7_fill_fda19_0 rfl (lv_at hl 0 rfl) ?_
  refine va_alen (v := nI 240) E.1.1 E.1.2.1 E.2 hP 10 0 rfl rfl rfl dJ7_fill_fda19_1 ?_
  refine lv_iload_n E.1.1 E.1.2.1 dJ7_fill_fda19_2 rfl (lv_at hl 1 rfl) ?_
  refine lv_iload_n E.1.1 E.1.2.1 dJ7_fill_fda19_3 rfl (lv_at hl 2 rfl) ?_
  refine CM.callSv (n := 3) E (c_J7_rangeCheck_23922 l D cI cJ cZ ad σ 240 a b (by omega) (by omega) (by omega)) ml_J7_13 st_J7_rangeCheck_23922 ini_J7 co_J7_rangeCheck_23922 hd_J7_rangeCheck_23922 ⟨Nat.le_of_ble_eq_true rfl, Nat.le_of_ble_eq_true rfl⟩ ⟨Nat.le_refl _, Nat.le_refl _⟩ hP (hD _) hS hA2 rfl hl.1 (Nat.le_of_ble_eq_true rfl) dJ7_fill_fda19_4 rfl (fun H locs hP hS => ?_)
  refine lv_iload_n E.1.1 E.1.2.1 dJ7_fill_fda19_7 rfl (lv_at hl 1 rfl) ?_
  refine lv_istore (lv' := [(4, .int (nI a)), (0, .ref (ad 10)), (1, .int (nI a)), (2, .int (nI b)), (3, .int (nI v))]) E.1.1 E.1.2.1 dJ7_fill_fda19_8 hl (by decide) rfl (fun ls hl => ?_)
  have LP10 : ∀ (n : Nat) (k : Nat) (H : Heap) (locs : List Loc) (ls : Array Slot), (a ≤ k) → (k + n = b) → va_P D vwCl (wC ad cI cJ cZ (scV σ (fillF (gcV σ) a k v))) H → va_S A s.heap H locs → lv_has ls 5 [(0, .ref (ad 10)), (1, .int (nI a)), (2, .int (nI b)), (3, .int (nI v)), (4, .int (nI k))] → W p l e { frames := 1, cells := 0, slots := 0, locals := 40 * 1 } s m [.ref (ad 10), .int (nI a), .int (nI b), .int (nI v)].toArray below meth c H locs 0 0 (MQ below (Qcm D (wC ad cI cJ cZ σ) s.heap.size (none) (wC ad cI cJ cZ (scV σ (fillF (gcV σ) a b v)))) [.ref (ad 10), .int (nI a), .int (nI b), .int (nI v)].toArray s 0 0 A) (F0 m 10 ls []) := by
    intro n
    induction n with
    | zero =>
      intro k H locs ls hak hkn hP hS hl
      refine lv_iload E.1.1 E.1.2.1 dJ7_fill_fda19_10 (lv_at hl 4 rfl) ?_
      refine lv_iload_n E.1.1 E.1.2.1 dJ7_fill_fda19_12 rfl (lv_at hl 2 rfl) ?_
      refine nv_icmp_ge (by omega) (by omega) E dJ7_fill_fda19_13 (tgt := 27) (by decide) (fun h13 => ?_) (fun h13 => ?_)
      · exact CM.retv E hr hlk hA (by have e9 : k = b := (by omega); rw [← e9]; exact hP) hS rfl dJ7_fill_fda19_27
      · exact absurd h13 (by omega)
    | succ n ih10 =>
      intro k H locs ls hak hkn hP hS hl
      refine lv_iload E.1.1 E.1.2.1 dJ7_fill_fda19_10 (lv_at hl 4 rfl) ?_
      refine lv_iload_n E.1.1 E.1.2.1 dJ7_fill_fda19_12 rfl (lv_at hl 2 rfl) ?_
      refine nv_icmp_ge (by omega) (by omega) E dJ7_fill_fda19_13 (tgt := 27) (by decide) (fun h13 => ?_) (fun h13 => ?_)
      · exact absurd h13 (by omega)
      · refine lv_aload_n E.1.1 E.1.2.1 dJ7_fill_fda19_16 rfl (lv_at hl 0 rfl) ?_
        refine lv_iload E.1.1 E.1.2.1 dJ7_fill_fda19_17 (lv_at hl 4 rfl) ?_
        refine lv_iload_n E.1.1 E.1.2.1 dJ7_fill_fda19_19 rfl (lv_at hl 3 rfl) ?_
        refine as_CS_V (i := k) (v := v) E hP hD hS (by omega) dJ7_fill_fda19_20 (fun H locs hP hS => ?_)
        refine lv_iinc (v := nI (k + 1)) (lv' := [(4, .int (nI (k + 1))), (0, .ref (ad 10)), (1, .int (nI a)), (2, .int (nI b)), (3, .int (nI v))]) E.1.1 E.1.2.1 dJ7_fill_fda19_21 hl (k := 4) rfl (nI_add k 1) (by decide) rfl (fun ls hl => ?_)
        refine lv_goto (tgt := 10) E.1.1 E.1.2.1 dJ7_fill_fda19_24 (by decide) ?_
        exact ih10 (k + 1) _ _ _ (by omega) (by omega) (by rw [← fillF_up (gcV σ) v hak]; exact hP) hS (lv_sub hl [1, 2, 3, 4, 0] rfl)
  exact LP10 (b - a) a _ _ _ (by omega) (by omega) (by rw [fillF_0]; exact hP) hS (lv_sub hl [1, 2, 3, 4, 0] rfl)
set_option maxRecDepth 100000 in
set_option maxHeartbeats 4000000 in
theorem c_J7_fill_bad5a_Rg (l : Launch) (D : va_G) (cI cJ cZ : ClassId) (ad : Nat → Nat) (σ : CS) (a : Nat) (b : Nat) (v : Val)  (hab : a ≤ b) (hbn : b ≤ 72) : CM l D (t3 cI cJ cZ) yJ7_fill_bad5a cJ7_fill_bad5a 6 none 1 [.ref (ad 12), .int (nI a), .int (nI b), .long (vJ v)] (wC ad cI cJ cZ σ) (none) (wC ad cI cJ cZ (scRg σ (fillF (gcRg σ) a b v))) := by
  refine CM.of (by decide) (Nat.le_of_ble_eq_true rfl) ?_
  intro p e s m below meth c A ls E hr hlk hP hD0 hA hA2 hS hl
  have hD := wC_D hD0
  have hl : lv_has ls 6 [(0, .ref (ad 12)), (1, .int (nI a)), (2, .int (nI b)), (3, .long (vJ v))] := hl
  refine lv_aload_n E.1.1 E.1.2.1 dJ7_fill_bad5a_0 rfl (lv_at hl 0 rfl) ?_
  refine va_alen (v := nI 72) E.1.1 E.1.2.1 E.2 hP 12 1 rfl rfl rfl dJ7_fill_bad5a_1 ?_
  refine lv_iload_n E.1.1 E.1.2.1 dJ7_fill_bad5a_2 rfl (lv_at hl 1 rfl) ?_
  refine lv_iload_n E.1.1 E.1.2.1 dJ7_fill_bad5a_3 rfl (lv_at hl 2 rfl) ?_
  refine CM.callSv (n := 3) E (c_J7_rangeCheck_23922 l D cI cJ cZ ad σ 72 a b (by omega) (by omega) (by omega)) ml_J7_13 st_J7_rangeCheck_23922 ini_J7 co_J7_rangeCheck_23922 hd_J7_rangeCheck_23922 ⟨Nat.le_of_ble_eq_true rfl, Nat.le_of_ble_eq_true rfl⟩ ⟨Nat.le_refl _, Nat.le_refl _⟩ hP (hD _) hS hA2 rfl hl.1 (Nat.le_of_ble_eq_true rfl) dJ7_fill_bad5a_4 rfl (fun H locs hP hS => ?_)
  refine lv_iload_n E.1.1 E.1.2.1 dJ7_fill_bad5a_7 rfl (lv_at hl 1 rfl) ?_
  refine lv_istore (lv' := [(5, .int (nI a)), (0, .ref (ad 12)), (1, .int (nI a)), (2, .int (nI b)), (3, .long (vJ v))]) E.1.1 E.1.2.1 dJ7_fill_bad5a_8 hl (by decide) rfl (fun ls hl => ?_)
  have LP10 : ∀ (n : Nat) (k : Nat) (H : Heap) (locs : List Loc) (ls : Array Slot), (a ≤ k) → (k + n = b) → va_P D vwCl (wC ad cI cJ cZ (scRg σ (fillF (gcRg σ) a k v))) H → va_S A s.heap H locs → lv_has ls 6 [(0, .ref (ad 12)), (1, .int (nI a)), (2, .int (nI b)), (3, .long (vJ v)), (5, .int (nI k))] → W p l e { frames := 1, cells := 0, slots := 0, locals := 40 * 1 } s m [.ref (ad 12), .int (nI a), .int (nI b), .long (vJ v)].toArray below meth c H locs 0 0 (MQ below (Qcm D (wC ad cI cJ cZ σ) s.heap.size (none) (wC ad cI cJ cZ (scRg σ (fillF (gcRg σ) a b v)))) [.ref (ad 12), .int (nI a), .int (nI b), .long (vJ v)].toArray s 0 0 A) (F0 m 10 ls []) := by
    intro n
    induction n with
    | zero =>
      intro k H locs ls hak hkn hP hS hl
      refine lv_iload E.1.1 E.1.2.1 dJ7_fill_bad5a_10 (lv_at hl 4 rfl) ?_
      refine lv_iload_n E.1.1 E.1.2.1 dJ7_fill_bad5a_12 rfl (lv_at hl 2 rfl) ?_
      refine nv_icmp_ge (by omega) (by omega) E dJ7_fill_bad5a_13 (tgt := 27) (by decide) (fun h13 => ?_) (fun h13 => ?_)
      · exact CM.retv E hr hlk hA (by have e9 : k = b := (by omega); rw [← e9]; exact hP) hS rfl dJ7_fill_bad5a_27
      · exact absurd h13 (by omega)
    | succ n ih10 =>
      intro k H locs ls hak hkn hP hS hl
      refine lv_iload E.1.1 E.1.2.1 dJ7_fill_bad5a_10 (lv_at hl 4 rfl) ?_
      refine lv_iload_n E.1.1 E.1.2.1 dJ7_fill_bad5a_12 rfl (lv_at hl 2 rfl) ?_
      refine nv_icmp_ge (by omega) (by omega) E dJ7_fill_bad5a_13 (tgt := 27) (by decide) (fun h13 => ?_) (fun h13 => ?_)
      · exact absurd h13 (by omega)
      · refine lv_aload_n E.1.1 E.1.2.1 dJ7_fill_bad5a_16 rfl (lv_at hl 0 rfl) ?_
        refine lv_iload E.1.1 E.1.2.1 dJ7_fill_bad5a_17 (lv_at hl 4 rfl) ?_
        refine lv_lload_n E.1.1 E.1.2.1 dJ7_fill_bad5a_19 rfl (lv_at hl 3 rfl) ?_
        refine as_CS_Rg (i := k) (v := v) E hP hD hS (by omega) dJ7_fill_bad5a_20 (fun H locs hP hS => ?_)
        refine lv_iinc (v := nI (k + 1)) (lv' := [(5, .int (nI (k + 1))), (0, .ref (ad 12)), (1, .int (nI a)), (2, .int (nI b)), (3, .long (vJ v))]) E.1.1 E.1.2.1 dJ7_fill_bad5a_21 hl (k := 4) rfl (nI_add k 1) (by decide) rfl (fun ls hl => ?_)
        refine lv_goto (tgt := 10) E.1.1 E.1.2.1 dJ7_fill_bad5a_24 (by decide) ?_
        exact ih10 (k + 1) _ _ _ (by omega) (by omega) (by rw [← fillF_up (gcRg σ) v hak]; exact hP) hS (lv_sub hl [1, 2, 3, 4, 0] rfl)
  exact LP10 (b - a) a _ _ _ (by omega) (by omega) (by rw [fillF_0]; exact hP) hS (lv_sub hl [1, 2, 3, 4, 0] rfl)
set_option maxRecDepth 100000 in
set_option maxHeartbeats 4000000 in
theorem c_J7_fill_bad5a_Fl (l : Launch) (D : va_G) (cI cJ cZ : ClassId) (ad : Nat → Nat) (σ : CS) (a : Nat) (b : Nat) (v : Val)  (hab : a ≤ b) (hbn : b ≤ 1203) : CM l D (t3 cI cJ cZ) yJ7_fill_bad5a cJ7_fill_bad5a 6 none 1 [.ref (ad 17), .int (nI a), .int (nI b), .long (vJ v)] (wC ad cI cJ cZ σ) (none) (wC ad cI cJ cZ (scFl σ (fillF (gcFl σ) a b v))) := by
  refine CM.of (by decide) (Nat.le_of_ble_eq_true rfl) ?_
  intro p e s m below meth c A ls E hr hlk hP hD0 hA hA2 hS hl
  have hD := wC_D hD0
  have hl : lv_has ls 6 [(0, .ref (ad 17)), (1, .int (nI a)), (2, .int (nI b)), (3, .long (vJ v))] := hl
  refine lv_aload_n E.1.1 E.1.2.1 dJ7_fill_bad5a_0 rfl (lv_at hl 0 rfl) ?_
  refine va_alen (v := nI 1203) E.1.1 E.1.2.1 E.2 hP 17 1 rfl rfl rfl dJ7_fill_bad5a_1 ?_
  refine lv_iload_n E.1.1 E.1.2.1 dJ7_fill_bad5a_2 rfl (lv_at hl 1 rfl) ?_
  refine lv_iload_n E.1.1 E.1.2.1 dJ7_fill_bad5a_3 rfl (lv_at hl 2 rfl) ?_
  refine CM.callSv (n := 3) E (c_J7_rangeCheck_23922 l D cI cJ cZ ad σ 1203 a b (by omega) (by omega) (by omega)) ml_J7_13 st_J7_rangeCheck_23922 ini_J7 co_J7_rangeCheck_23922 hd_J7_rangeCheck_23922 ⟨Nat.le_of_ble_eq_true rfl, Nat.le_of_ble_eq_true rfl⟩ ⟨Nat.le_refl _, Nat.le_refl _⟩ hP (hD _) hS hA2 rfl hl.1 (Nat.le_of_ble_eq_true rfl) dJ7_fill_bad5a_4 rfl (fun H locs hP hS => ?_)
  refine lv_iload_n E.1.1 E.1.2.1 dJ7_fill_bad5a_7 rfl (lv_at hl 1 rfl) ?_
  refine lv_istore (lv' := [(5, .int (nI a)), (0, .ref (ad 17)), (1, .int (nI a)), (2, .int (nI b)), (3, .long (vJ v))]) E.1.1 E.1.2.1 dJ7_fill_bad5a_8 hl (by decide) rfl (fun ls hl => ?_)
  have LP10 : ∀ (n : Nat) (k : Nat) (H : Heap) (locs : List Loc) (ls : Array Slot), (a ≤ k) → (k + n = b) → va_P D vwCl (wC ad cI cJ cZ (scFl σ (fillF (gcFl σ) a k v))) H → va_S A s.heap H locs → lv_has ls 6 [(0, .ref (ad 17)), (1, .int (nI a)), (2, .int (nI b)), (3, .long (vJ v)), (5, .int (nI k))] → W p l e { frames := 1, cells := 0, slots := 0, locals := 40 * 1 } s m [.ref (ad 17), .int (nI a), .int (nI b), .long (vJ v)].toArray below meth c H locs 0 0 (MQ below (Qcm D (wC ad cI cJ cZ σ) s.heap.size (none) (wC ad cI cJ cZ (scFl σ (fillF (gcFl σ) a b v)))) [.ref (ad 17), .int (nI a), .int (nI b), .long (vJ v)].toArray s 0 0 A) (F0 m 10 ls []) := by
    intro n
    induction n with
    | zero =>
      intro k H locs ls hak hkn hP hS hl
      refine lv_iload E.1.1 E.1.2.1 dJ7_fill_bad5a_10 (lv_at hl 4 rfl) ?_
      refine lv_iload_n E.1.1 E.1.2.1 dJ7_fill_bad5a_12 rfl (lv_at hl 2 rfl) ?_
      refine nv_icmp_ge (by omega) (by omega) E dJ7_fill_bad5a_13 (tgt := 27) (by decide) (fun h13 => ?_) (fun h13 => ?_)
      · exact CM.retv E hr hlk hA (by have e9 : k = b := (by omega); rw [← e9]; exact hP) hS rfl dJ7_fill_bad5a_27
      · exact absurd h13 (by omega)
    | succ n ih10 =>
      intro k H locs ls hak hkn hP hS hl
      refine lv_iload E.1.1 E.1.2.1 dJ7_fill_bad5a_10 (lv_at hl 4 rfl) ?_
      refine lv_iload_n E.1.1 E.1.2.1 dJ7_fill_bad5a_12 rfl (lv_at hl 2 rfl) ?_
      refine nv_icmp_ge (by omega) (by omega) E dJ7_fill_bad5a_13 (tgt := 27) (by decide) (fun h13 => ?_) (fun h13 => ?_)
      · exact absurd h13 (by omega)
      · refine lv_aload_n E.1.1 E.1.2.1 dJ7_fill_bad5a_16 rfl (lv_at hl 0 rfl) ?_
        refine lv_iload E.1.1 E.1.2.1 dJ7_fill_bad5a_17 (lv_at hl 4 rfl) ?_
        refine lv_lload_n E.1.1 E.1.2.1 dJ7_fill_bad5a_19 rfl (lv_at hl 3 rfl) ?_
        refine as_CS_Fl (i := k) (v := v) E hP hD hS (by omega) dJ7_fill_bad5a_20 (fun H locs hP hS => ?_)
        refine lv_iinc (v := nI (k + 1)) (lv' := [(5, .int (nI (k + 1))), (0, .ref (ad 17)), (1, .int (nI a)), (2, .int (nI b)), (3, .long (vJ v))]) E.1.1 E.1.2.1 dJ7_fill_bad5a_21 hl (k := 4) rfl (nI_add k 1) (by decide) rfl (fun ls hl => ?_)
        refine lv_goto (tgt := 10) E.1.1 E.1.2.1 dJ7_fill_bad5a_24 (by decide) ?_
        exact ih10 (k + 1) _ _ _ (by omega) (by omega) (by rw [← fillF_up (gcFl σ) v hak]; exact hP) hS (lv_sub hl [1, 2, 3, 4, 0] rfl)
  exact LP10 (b - a) a _ _ _ (by omega) (by omega) (by rw [fillF_0]; exact hP) hS (lv_sub hl [1, 2, 3, 4, 0] rfl)
set_option maxRecDepth 100000 in
set_option maxHeartbeats 4000000 in
theorem c_J7_fill_53178_V (l : Launch) (D : va_G) (cI cJ cZ : ClassId) (ad : Nat → Nat) (σ : CS) (v : Nat)   : CM l D (t3 cI cJ cZ) yJ7_fill_53178 cJ7_fill_53178 4 none 0 [.ref (ad 10), .int (nI v)] (wC ad cI cJ cZ σ) (none) (wC ad cI cJ cZ (scV σ (fillF (gcV σ) 0 240 v))) := by
  refine CM.of (by decide) (Nat.le_of_ble_eq_true rfl) ?_
  intro p e s m below meth c A ls E hr hlk hP hD0 hA hA2 hS hl
  have hD := wC_D hD0
  have hl : lv_has ls 4 [(0, .ref (ad 10)), (1, .int (nI v))] := hl
  refine lv_iconst (v := nI 0) E.1.1 E.1.2.1 dJ7_fill_53178_0 rfl ?_
  refine lv_istore_n (lv' := [(2, .int (nI 0)), (0, .ref (ad 10)), (1, .int (nI v))]) E.1.1 E.1.2.1 dJ7_fill_53178_1 rfl hl (by decide) rfl (fun ls hl => ?_)
  refine lv_aload_n E.1.1 E.1.2.1 dJ7_fill_53178_2 rfl (lv_at hl 1 rfl) ?_
  refine va_alen (v := nI 240) E.1.1 E.1.2.1 E.2 hP 10 0 rfl rfl rfl dJ7_fill_53178_3 ?_
  refine lv_istore_n (lv' := [(3, .int (nI 240)), (2, .int (nI 0)), (0, .ref (ad 10)), (1, .int (nI v))]) E.1.1 E.1.2.1 dJ7_fill_53178_4 rfl hl (by decide) rfl (fun ls hl => ?_)
  have LP5 : ∀ (n : Nat) (k : Nat) (H : Heap) (locs : List Loc) (ls : Array Slot), (k + n = 240) → va_P D vwCl (wC ad cI cJ cZ (scV σ (fillF (gcV σ) 0 k v))) H → va_S A s.heap H locs → lv_has ls 4 [(0, .ref (ad 10)), (1, .int (nI v)), (2, .int (nI k)), (3, .int (nI 240))] → W p l e { frames := 0, cells := 0, slots := 0, locals := 40 * 0 } s m [.ref (ad 10), .int (nI v)].toArray below meth c H locs 0 0 (MQ below (Qcm D (wC ad cI cJ cZ σ) s.heap.size (none) (wC ad cI cJ cZ (scV σ (fillF (gcV σ) 0 240 v)))) [.ref (ad 10), .int (nI v)].toArray s 0 0 A) (F0 m 5 ls []) := by
    intro n
    induction n with
    | zero =>
      intro k H locs ls hkn hP hS hl
      refine lv_iload_n E.1.1 E.1.2.1 dJ7_fill_53178_5 rfl (lv_at hl 2 rfl) ?_
      refine lv_iload_n E.1.1 E.1.2.1 dJ7_fill_53178_6 rfl (lv_at hl 3 rfl) ?_
      refine nv_icmp_ge (by omega) (by omega) E dJ7_fill_53178_7 (tgt := 20) (by decide) (fun h7 => ?_) (fun h7 => ?_)
      · exact CM.retv E hr hlk hA (by have e9 : k = 240 := (by omega); rw [← e9]; exact hP) hS rfl dJ7_fill_53178_20
      · exact absurd h7 (by omega)
    | succ n ih5 =>
      intro k H locs ls hkn hP hS hl
      refine lv_iload_n E.1.1 E.1.2.1 dJ7_fill_53178_5 rfl (lv_at hl 2 rfl) ?_
      refine lv_iload_n E.1.1 E.1.2.1 dJ7_fill_53178_6 rfl (lv_at hl 3 rfl) ?_
      refine nv_icmp_ge (by omega) (by omega) E dJ7_fill_53178_7 (tgt := 20) (by decide) (fun h7 => ?_) (fun h7 => ?_)
      · exact absurd h7 (by omega)
      · refine lv_aload_n E.1.1 E.1.2.1 dJ7_fill_53178_10 rfl (lv_at hl 0 rfl) ?_
        refine lv_iload_n E.1.1 E.1.2.1 dJ7_fill_53178_11 rfl (lv_at hl 2 rfl) ?_
        refine lv_iload_n E.1.1 E.1.2.1 dJ7_fill_53178_12 rfl (lv_at hl 1 rfl) ?_
        refine as_CS_V (i := k) (v := v) E hP hD hS (by omega) dJ7_fill_53178_13 (fun H locs hP hS => ?_)
        refine lv_iinc (v := nI (k + 1)) (lv' := [(2, .int (nI (k + 1))), (0, .ref (ad 10)), (1, .int (nI v)), (3, .int (nI 240))]) E.1.1 E.1.2.1 dJ7_fill_53178_14 hl (k := 2) rfl (nI_add k 1) (by decide) rfl (fun ls hl => ?_)
        refine lv_goto (tgt := 5) E.1.1 E.1.2.1 dJ7_fill_53178_17 (by decide) ?_
        exact ih5 (k + 1) _ _ _ (by omega) (by rw [← fillF_up (gcV σ) v (Nat.zero_le k)]; exact hP) hS (lv_sub hl [1, 2, 0, 3] rfl)
  exact LP5 240 0 _ _ _ (by omega) (by rw [fillF_0]; exact hP) hS (lv_sub hl [2, 3, 1, 0] rfl)
set_option maxRecDepth 100000 in
set_option maxHeartbeats 4000000 in
theorem c_J7_fill_53178_Ct (l : Launch) (D : va_G) (cI cJ cZ : ClassId) (ad : Nat → Nat) (σ : CS) (v : Nat)   : CM l D (t3 cI cJ cZ) yJ7_fill_53178 cJ7_fill_53178 4 none 0 [.ref (ad 19), .int (nI v)] (wC ad cI cJ cZ σ) (none) (wC ad cI cJ cZ (scCt σ (fillF (gcCt σ) 0 6 v))) := by
  refine CM.of (by decide) (Nat.le_of_ble_eq_true rfl) ?_
  intro p e s m below meth c A ls E hr hlk hP hD0 hA hA2 hS hl
  have hD := wC_D hD0
  have hl : lv_has ls 4 [(0, .ref (ad 19)), (1, .int (nI v))] := hl
  refine lv_iconst (v := nI 0) E.1.1 E.1.2.1 dJ7_fill_53178_0 rfl ?_
  refine lv_istore_n (lv' := [(2, .int (nI 0)), (0, .ref (ad 19)), (1, .int (nI v))]) E.1.1 E.1.2.1 dJ7_fill_53178_1 rfl hl (by decide) rfl (fun ls hl => ?_)
  refine lv_aload_n E.1.1 E.1.2.1 dJ7_fill_53178_2 rfl (lv_at hl 1 rfl) ?_
  refine va_alen (v := nI 6) E.1.1 E.1.2.1 E.2 hP 19 0 rfl rfl rfl dJ7_fill_53178_3 ?_
  refine lv_istore_n (lv' := [(3, .int (nI 6)), (2, .int (nI 0)), (0, .ref (ad 19)), (1, .int (nI v))]) E.1.1 E.1.2.1 dJ7_fill_53178_4 rfl hl (by decide) rfl (fun ls hl => ?_)
  have LP5 : ∀ (n : Nat) (k : Nat) (H : Heap) (locs : List Loc) (ls : Array Slot), (k + n = 6) → va_P D vwCl (wC ad cI cJ cZ (scCt σ (fillF (gcCt σ) 0 k v))) H → va_S A s.heap H locs → lv_has ls 4 [(0, .ref (ad 19)), (1, .int (nI v)), (2, .int (nI k)), (3, .int (nI 6))] → W p l e { frames := 0, cells := 0, slots := 0, locals := 40 * 0 } s m [.ref (ad 19), .int (nI v)].toArray below meth c H locs 0 0 (MQ below (Qcm D (wC ad cI cJ cZ σ) s.heap.size (none) (wC ad cI cJ cZ (scCt σ (fillF (gcCt σ) 0 6 v)))) [.ref (ad 19), .int (nI v)].toArray s 0 0 A) (F0 m 5 ls []) := by
    intro n
    induction n with
    | zero =>
      intro k H locs ls hkn hP hS hl
      refine lv_iload_n E.1.1 E.1.2.1 dJ7_fill_53178_5 rfl (lv_at hl 2 rfl) ?_
      refine lv_iload_n E.1.1 E.1.2.1 dJ7_fill_53178_6 rfl (lv_at hl 3 rfl) ?_
      refine nv_icmp_ge (by omega) (by omega) E dJ7_fill_53178_7 (tgt := 20) (by decide) (fun h7 => ?_) (fun h7 => ?_)
      · exact CM.retv E hr hlk hA (by have e9 : k = 6 := (by omega); rw [← e9]; exact hP) hS rfl dJ7_fill_53178_20
      · exact absurd h7 (by omega)
    | succ n ih5 =>
      intro k H locs ls hkn hP hS hl
      refine lv_iload_n E.1.1 E.1.2.1 dJ7_fill_53178_5 rfl (lv_at hl 2 rfl) ?_
      refine lv_iload_n E.1.1 E.1.2.1 dJ7_fill_53178_6 rfl (lv_at hl 3 rfl) ?_
      refine nv_icmp_ge (by omega) (by omega) E dJ7_fill_53178_7 (tgt := 20) (by decide) (fun h7 => ?_) (fun h7 => ?_)
      · exact absurd h7 (by omega)
      · refine lv_aload_n E.1.1 E.1.2.1 dJ7_fill_53178_10 rfl (lv_at hl 0 rfl) ?_
        refine lv_iload_n E.1.1 E.1.2.1 dJ7_fill_53178_11 rfl (lv_at hl 2 rfl) ?_
        refine lv_iload_n E.1.1 E.1.2.1 dJ7_fill_53178_12 rfl (lv_at hl 1 rfl) ?_
        refine as_CS_Ct (i := k) (v := v) E hP hD hS (by omega) dJ7_fill_53178_13 (fun H locs hP hS => ?_)
        refine lv_iinc (v := nI (k + 1)) (lv' := [(2, .int (nI (k + 1))), (0, .ref (ad 19)), (1, .int (nI v)), (3, .int (nI 6))]) E.1.1 E.1.2.1 dJ7_fill_53178_14 hl (k := 2) rfl (nI_add k 1) (by decide) rfl (fun ls hl => ?_)
        refine lv_goto (tgt := 5) E.1.1 E.1.2.1 dJ7_fill_53178_17 (by decide) ?_
        exact ih5 (k + 1) _ _ _ (by omega) (by rw [← fillF_up (gcCt σ) v (Nat.zero_le k)]; exact hP) hS (lv_sub hl [1, 2, 0, 3] rfl)
  exact LP5 6 0 _ _ _ (by omega) (by rw [fillF_0]; exact hP) hS (lv_sub hl [2, 3, 1, 0] rfl)
set_option maxRecDepth 100000 in
set_option maxHeartbeats 4000000 in
theorem c_J6_bitCount_0f7a4 (l : Launch) (D : va_G) (cI cJ cZ : ClassId) (ad : Nat → Nat) (σ : CS) (x : Int32)   : CM l D (t3 cI cJ cZ) yJ6_bitCount_0f7a4 cJ6_bitCount_0f7a4 1 (some .int) 0 [.int x] (wC ad cI cJ cZ σ) (some (.int (bcF x))) (wC ad cI cJ cZ σ) := by
  refine CM.of (by decide) (Nat.le_of_ble_eq_true rfl) ?_
  intro p e s m below meth c A ls E hr hlk hP hD0 hA hA2 hS hl
  have hD := wC_D hD0
  have hl : lv_has ls 1 [(0, .int x)] := hl
  refine lv_iload_n E.1.1 E.1.2.1 dJ6_bitCount_0f7a4_0 rfl (lv_at hl 0 rfl) ?_
  refine lv_iload_n E.1.1 E.1.2.1 dJ6_bitCount_0f7a4_1 rfl (lv_at hl 0 rfl) ?_
  refine lv_iconst (v := nI 1) E.1.1 E.1.2.1 dJ6_bitCount_0f7a4_2 rfl ?_
  refine lv_iushr (v := (x.toUInt32 >>> ((nI 1).toUInt32 &&& Int32.toUInt32 31)).toInt32) E.1.1 E.1.2.1 dJ6_bitCount_0f7a4_3 rfl ?_
  refine lv_ldcw (v := 1431655765) E.1.1 E.1.2.1 E.1.2.2.2.1 (E.1.2.2.2.2 _ (List.mem_cons_of_mem _ kc_J6_265)) dJ6_bitCount_0f7a4_4 ?_
  refine lv_iand E.1.1 E.1.2.1 dJ6_bitCount_0f7a4_7 ?_
  refine lv_isub E.1.1 E.1.2.1 dJ6_bitCount_0f7a4_8 ?_
  refine lv_istore_n (lv' := [(0, .int (x - (((x.toUInt32 >>> ((nI 1).toUInt32 &&& Int32.toUInt32 31)).toInt32) &&& 1431655765)))]) E.1.1 E.1.2.1 dJ6_bitCount_0f7a4_9 rfl hl (by decide) rfl (fun ls hl => ?_)
  refine lv_iload_n E.1.1 E.1.2.1 dJ6_bitCount_0f7a4_10 rfl (lv_at hl 0 rfl) ?_
  refine lv_ldcw (v := 858993459) E.1.1 E.1.2.1 E.1.2.2.2.1 (E.1.2.2.2.2 _ (List.mem_cons_of_mem _ kc_J6_266)) dJ6_bitCount_0f7a4_11 ?_
  refine lv_iand E.1.1 E.1.2.1 dJ6_bitCount_0f7a4_14 ?_
  refine lv_iload_n E.1.1 E.1.2.1 dJ6_bitCount_0f7a4_15 rfl (lv_at hl 0 rfl) ?_
  refine lv_iconst (v := nI 2) E.1.1 E.1.2.1 dJ6_bitCount_0f7a4_16 rfl ?_
  refine lv_iushr (v := ((x - (((x.toUInt32 >>> ((nI 1).toUInt32 &&& Int32.toUInt32 31)).toInt32) &&& 1431655765)).toUInt32 >>> ((nI 2).toUInt32 &&& Int32.toUInt32 31)).toInt32) E.1.1 E.1.2.1 dJ6_bitCount_0f7a4_17 rfl ?_
  refine lv_ldcw (v := 858993459) E.1.1 E.1.2.1 E.1.2.2.2.1 (E.1.2.2.2.2 _ (List.mem_cons_of_mem _ kc_J6_266)) dJ6_bitCount_0f7a4_18 ?_
  refine lv_iand E.1.1 E.1.2.1 dJ6_bitCount_0f7a4_21 ?_
  refine lv_iadd E.1.1 E.1.2.1 dJ6_bitCount_0f7a4_22 ?_
  refine lv_istore_n (lv' := [(0, .int (((x - (((x.toUInt32 >>> ((nI 1).toUInt32 &&& Int32.toUInt32 31)).toInt32) &&& 1431655765)) &&& 858993459) + ((((x - (((x.toUInt32 >>> ((nI 1).toUInt32 &&& Int32.toUInt32 31)).toInt32) &&& 1431655765)).toUInt32 >>> ((nI 2).toUInt32 &&& Int32.toUInt32 31)).toInt32) &&& 858993459)))]) E.1.1 E.1.2.1 dJ6_bitCount_0f7a4_23 rfl hl (by decide) rfl (fun ls hl => ?_)
  refine lv_iload_n E.1.1 E.1.2.1 dJ6_bitCount_0f7a4_24 rfl (lv_at hl 0 rfl) ?_
  refine lv_iload_n E.1.1 E.1.2.1 dJ6_bitCount_0f7a4_25 rfl (lv_at hl 0 rfl) ?_
  refine lv_iconst (v := nI 4) E.1.1 E.1.2.1 dJ6_bitCount_0f7a4_26 rfl ?_
  refine lv_iushr (v := ((((x - (((x.toUInt32 >>> ((nI 1).toUInt32 &&& Int32.toUInt32 31)).toInt32) &&& 1431655765)) &&& 858993459) + ((((x - (((x.toUInt32 >>> ((nI 1).toUInt32 &&& Int32.toUInt32 31)).toInt32) &&& 1431655765)).toUInt32 >>> ((nI 2).toUInt32 &&& Int32.toUInt32 31)).toInt32) &&& 858993459)).toUInt32 >>> ((nI 4).toUInt32 &&& Int32.toUInt32 31)).toInt32) E.1.1 E.1.2.1 dJ6_bitCount_0f7a4_27 rfl ?_
  refine lv_iadd E.1.1 E.1.2.1 dJ6_bitCount_0f7a4_28 ?_
  refine lv_ldcw (v := 252645135) E.1.1 E.1.2.1 E.1.2.2.2.1 (E.1.2.2.2.2 _ (List.mem_cons_of_mem _ kc_J6_267)) dJ6_bitCount_0f7a4_29 ?_
  refine lv_iand E.1.1 E.1.2.1 dJ6_bitCount_0f7a4_32 ?_
  refine lv_istore_n (lv' := [(0, .int (((((x - (((x.toUInt32 >>> ((nI 1).toUInt32 &&& Int32.toUInt32 31)).toInt32) &&& 1431655765)) &&& 858993459) + ((((x - (((x.toUInt32 >>> ((nI 1).toUInt32 &&& Int32.toUInt32 31)).toInt32) &&& 1431655765)).toUInt32 >>> ((nI 2).toUInt32 &&& Int32.toUInt32 31)).toInt32) &&& 858993459)) + (((((x - (((x.toUInt32 >>> ((nI 1).toUInt32 &&& Int32.toUInt32 31)).toInt32) &&& 1431655765)) &&& 858993459) + ((((x - (((x.toUInt32 >>> ((nI 1).toUInt32 &&& Int32.toUInt32 31)).toInt32) &&& 1431655765)).toUInt32 >>> ((nI 2).toUInt32 &&& Int32.toUInt32 31)).toInt32) &&& 858993459)).toUInt32 >>> ((nI 4).toUInt32 &&& Int32.toUInt32 31)).toInt32)) &&& 252645135))]) E.1.1 E.1.2.1 dJ6_bitCount_0f7a4_33 rfl hl (by decide) rfl (fun ls hl => ?_)
  refine lv_iload_n E.1.1 E.1.2.1 dJ6_bitCount_0f7a4_34 rfl (lv_at hl 0 rfl) ?_
  refine lv_iload_n E.1.1 E.1.2.1 dJ6_bitCount_0f7a4_35 rfl (lv_at hl 0 rfl) ?_
  refine lv_bipush (v := nI 8) E.1.1 E.1.2.1 dJ6_bitCount_0f7a4_36 rfl ?_
  refine lv_iushr (v := ((((((x - (((x.toUInt32 >>> ((nI 1).toUInt32 &&& Int32.toUInt32 31)).toInt32) &&& 1431655765)) &&& 858993459) + ((((x - (((x.toUInt32 >>> ((nI 1).toUInt32 &&& Int32.toUInt32 31)).toInt32) &&& 1431655765)).toUInt32 >>> ((nI 2).toUInt32 &&& Int32.toUInt32 31)).toInt32) &&& 858993459)) + (((((x - (((x.toUInt32 >>> ((nI 1).toUInt32 &&& Int32.toUInt32 31)).toInt32) &&& 1431655765)) &&& 858993459) + ((((x - (((x.toUInt32 >>> ((nI 1).toUInt32 &&& Int32.toUInt32 31)).toInt32) &&& 1431655765)).toUInt32 >>> ((nI 2).toUInt32 &&& Int32.toUInt32 31)).toInt32) &&& 858993459)).toUInt32 >>> ((nI 4).toUInt32 &&& Int32.toUInt32 31)).toInt32)) &&& 252645135).toUInt32 >>> ((nI 8).toUInt32 &&& Int32.toUInt32 31)).toInt32) E.1.1 E.1.2.1 dJ6_bitCount_0f7a4_38 rfl ?_
  refine lv_iadd E.1.1 E.1.2.1 dJ6_bitCount_0f7a4_39 ?_
  refine lv_istore_n (lv' := [(0, .int ((((((x - (((x.toUInt32 >>> ((nI 1).toUInt32 &&& Int32.toUInt32 31)).toInt32) &&& 1431655765)) &&& 858993459) + ((((x - (((x.toUInt32 >>> ((nI 1).toUInt32 &&& Int32.toUInt32 31)).toInt32) &&& 1431655765)).toUInt32 >>> ((nI 2).toUInt32 &&& Int32.toUInt32 31)).toInt32) &&& 858993459)) + (((((x - (((x.toUInt32 >>> ((nI 1).toUInt32 &&& Int32.toUInt32 31)).toInt32) &&& 1431655765)) &&& 858993459) + ((((x - (((x.toUInt32 >>> ((nI 1).toUInt32 &&& Int32.toUInt32 31)).toInt32) &&& 1431655765)).toUInt32 >>> ((nI 2).toUInt32 &&& Int32.toUInt32 31)).toInt32) &&& 858993459)).toUInt32 >>> ((nI 4).toUInt32 &&& Int32.toUInt32 31)).toInt32)) &&& 252645135) + (((((((x - (((x.toUInt32 >>> ((nI 1).toUInt32 &&& Int32.toUInt32 31)).toInt32) &&& 1431655765)) &&& 858993459) + ((((x - (((x.toUInt32 >>> ((nI 1).toUInt32 &&& Int32.toUInt32 31)).toInt32) &&& 1431655765)).toUInt32 >>> ((nI 2).toUInt32 &&& Int32.toUInt32 31)).toInt32) &&& 858993459)) + (((((x - (((x.toUInt32 >>> ((nI 1).toUInt32 &&& Int32.toUInt32 31)).toInt32) &&& 1431655765)) &&& 858993459) + ((((x - (((x.toUInt32 >>> ((nI 1).toUInt32 &&& Int32.toUInt32 31)).toInt32) &&& 1431655765)).toUInt32 >>> ((nI 2).toUInt32 &&& Int32.toUInt32 31)).toInt32) &&& 858993459)).toUInt32 >>> ((nI 4).toUInt32 &&& Int32.toUInt32 31)).toInt32)) &&& 252645135).toUInt32 >>> ((nI 8).toUInt32 &&& Int32.toUInt32 31)).toInt32)))]) E.1.1 E.1.2.1 dJ6_bitCount_0f7a4_40 rfl hl (by decide) rfl (fun ls hl => ?_)
  refine lv_iload_n E.1.1 E.1.2.1 dJ6_bitCount_0f7a4_41 rfl (lv_at hl 0 rfl) ?_
  refine lv_iload_n E.1.1 E.1.2.1 dJ6_bitCount_0f7a4_42 rfl (lv_at hl 0 rfl) ?_
  refine lv_bipush (v := nI 16) E.1.1 E.1.2.1 dJ6_bitCount_0f7a4_43 rfl ?_
  refine lv_iushr (v := (((((((x - (((x.toUInt32 >>> ((nI 1).toUInt32 &&& Int32.toUInt32 31)).toInt32) &&& 1431655765)) &&& 858993459) + ((((x - (((x.toUInt32 >>> ((nI 1).toUInt32 &&& Int32.toUInt32 31)).toInt32) &&& 1431655765)).toUInt32 >>> ((nI 2).toUInt32 &&& Int32.toUInt32 31)).toInt32) &&& 858993459)) + (((((x - (((x.toUInt32 >>> ((nI 1).toUInt32 &&& Int32.toUInt32 31)).toInt32) &&& 1431655765)) &&& 858993459) + ((((x - (((x.toUInt32 >>> ((nI 1).toUInt32 &&& Int32.toUInt32 31)).toInt32) &&& 1431655765)).toUInt32 >>> ((nI 2).toUInt32 &&& Int32.toUInt32 31)).toInt32) &&& 858993459)).toUInt32 >>> ((nI 4).toUInt32 &&& Int32.toUInt32 31)).toInt32)) &&& 252645135) + (((((((x - (((x.toUInt32 >>> ((nI 1).toUInt32 &&& Int32.toUInt32 31)).toInt32) &&& 1431655765)) &&& 858993459) + ((((x - (((x.toUInt32 >>> ((nI 1).toUInt32 &&& Int32.toUInt32 31)).toInt32) &&& 1431655765)).toUInt32 >>> ((nI 2).toUInt32 &&& Int32.toUInt32 31)).toInt32) &&& 858993459)) + (((((x - (((x.toUInt32 >>> ((nI 1).toUInt32 &&& Int32.toUInt32 31)).toInt32) &&& 1431655765)) &&& 858993459) + ((((x - (((x.toUInt32 >>> ((nI 1).toUInt32 &&& Int32.toUInt32 31)).toInt32) &&& 1431655765)).toUInt32 >>> ((nI 2).toUInt32 &&& Int32.toUInt32 31)).toInt32) &&& 858993459)).toUInt32 >>> ((nI 4).toUInt32 &&& Int32.toUInt32 31)).toInt32)) &&& 252645135).toUInt32 >>> ((nI 8).toUInt32 &&& Int32.toUInt32 31)).toInt32)).toUInt32 >>> ((nI 16).toUInt32 &&& Int32.toUInt32 31)).toInt32) E.1.1 E.1.2.1 dJ6_bitCount_0f7a4_45 rfl ?_
  refine lv_iadd E.1.1 E.1.2.1 dJ6_bitCount_0f7a4_46 ?_
  refine lv_istore_n (lv' := [(0, .int (((((((x - (((x.toUInt32 >>> ((nI 1).toUInt32 &&& Int32.toUInt32 31)).toInt32) &&& 1431655765)) &&& 858993459) + ((((x - (((x.toUInt32 >>> ((nI 1).toUInt32 &&& Int32.toUInt32 31)).toInt32) &&& 1431655765)).toUInt32 >>> ((nI 2).toUInt32 &&& Int32.toUInt32 31)).toInt32) &&& 858993459)) + (((((x - (((x.toUInt32 >>> ((nI 1).toUInt32 &&& Int32.toUInt32 31)).toInt32) &&& 1431655765)) &&& 858993459) + ((((x - (((x.toUInt32 >>> ((nI 1).toUInt32 &&& Int32.toUInt32 31)).toInt32) &&& 1431655765)).toUInt32 >>> ((nI 2).toUInt32 &&& Int32.toUInt32 31)).toInt32) &&& 858993459)).toUInt32 >>> ((nI 4).toUInt32 &&& Int32.toUInt32 31)).toInt32)) &&& 252645135) + (((((((x - (((x.toUInt32 >>> ((nI 1).toUInt32 &&& Int32.toUInt32 31)).toInt32) &&& 1431655765)) &&& 858993459) + ((((x - (((x.toUInt32 >>> ((nI 1).toUInt32 &&& Int32.toUInt32 31)).toInt32) &&& 1431655765)).toUInt32 >>> ((nI 2).toUInt32 &&& Int32.toUInt32 31)).toInt32) &&& 858993459)) + (((((x - (((x.toUInt32 >>> ((nI 1).toUInt32 &&& Int32.toUInt32 31)).toInt32) &&& 1431655765)) &&& 858993459) + ((((x - (((x.toUInt32 >>> ((nI 1).toUInt32 &&& Int32.toUInt32 31)).toInt32) &&& 1431655765)).toUInt32 >>> ((nI 2).toUInt32 &&& Int32.toUInt32 31)).toInt32) &&& 858993459)).toUInt32 >>> ((nI 4).toUInt32 &&& Int32.toUInt32 31)).toInt32)) &&& 252645135).toUInt32 >>> ((nI 8).toUInt32 &&& Int32.toUInt32 31)).toInt32)) + ((((((((x - (((x.toUInt32 >>> ((nI 1).toUInt32 &&& Int32.toUInt32 31)).toInt32) &&& 1431655765)) &&& 858993459) + ((((x - (((x.toUInt32 >>> ((nI 1).toUInt32 &&& Int32.toUInt32 31)).toInt32) &&& 1431655765)).toUInt32 >>> ((nI 2).toUInt32 &&& Int32.toUInt32 31)).toInt32) &&& 858993459)) + (((((x - (((x.toUInt32 >>> ((nI 1).toUInt32 &&& Int32.toUInt32 31)).toInt32) &&& 1431655765)) &&& 858993459) + ((((x - (((x.toUInt32 >>> ((nI 1).toUInt32 &&& Int32.toUInt32 31)).toInt32) &&& 1431655765)).toUInt32 >>> ((nI 2).toUInt32 &&& Int32.toUInt32 31)).toInt32) &&& 858993459)).toUInt32 >>> ((nI 4).toUInt32 &&& Int32.toUInt32 31)).toInt32)) &&& 252645135) + (((((((x - (((x.toUInt32 >>> ((nI 1).toUInt32 &&& Int32.toUInt32 31)).toInt32) &&& 1431655765)) &&& 858993459) + ((((x - (((x.toUInt32 >>> ((nI 1).toUInt32 &&& Int32.toUInt32 31)).toInt32) &&& 1431655765)).toUInt32 >>> ((nI 2).toUInt32 &&& Int32.toUInt32 31)).toInt32) &&& 858993459)) + (((((x - (((x.toUInt32 >>> ((nI 1).toUInt32 &&& Int32.toUInt32 31)).toInt32) &&& 1431655765)) &&& 858993459) + ((((x - (((x.toUInt32 >>> ((nI 1).toUInt32 &&& Int32.toUInt32 31)).toInt32) &&& 1431655765)).toUInt32 >>> ((nI 2).toUInt32 &&& Int32.toUInt32 31)).toInt32) &&& 858993459)).toUInt32 >>> ((nI 4).toUInt32 &&& Int32.toUInt32 31)).toInt32)) &&& 252645135).toUInt32 >>> ((nI 8).toUInt32 &&& Int32.toUInt32 31)).toInt32)).toUInt32 >>> ((nI 16).toUInt32 &&& Int32.toUInt32 31)).toInt32)))]) E.1.1 E.1.2.1 dJ6_bitCount_0f7a4_47 rfl hl (by decide) rfl (fun ls hl => ?_)
  refine lv_iload_n E.1.1 E.1.2.1 dJ6_bitCount_0f7a4_48 rfl (lv_at hl 0 rfl) ?_
  refine lv_bipush (v := nI 63) E.1.1 E.1.2.1 dJ6_bitCount_0f7a4_49 rfl ?_
  refine lv_iand E.1.1 E.1.2.1 dJ6_bitCount_0f7a4_51 ?_
  exact CM.reti E hr hlk hA hP hS rfl dJ6_bitCount_0f7a4_52
