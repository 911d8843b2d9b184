theorem arr_K {args : Array Value} {s : State} {ty : FieldType} (h : (Cond.arrayClass ty).before args s = true) : ∃ cA, ArrOfT s cA ty ∧ s.vm.findClass ("[" ++ ty.toString) = some cA := by
  obtain ⟨c, k, comp, h1, h2, h3⟩ := Cond.arrayClass_spec h
  exact ⟨c, fun n z => ⟨fun k h => (by cases h), k, h2, comp, h3⟩, h1⟩
theorem inJ0x : ∀ w ∈ u_ws RJ0 TJ0 4, w ∈ lw_tbl := by decide +kernel
theorem inJ4x : ∀ w ∈ u_ws RJ4 TJ4 4, w ∈ lw_tbl := by decide +kernel
theorem ibJ0x : Cond.instantiable RJ0 4 ∈ lw_tbl := by decide +kernel
theorem ibJ4x : Cond.instantiable RJ4 4 ∈ lw_tbl := by decide +kernel
theorem G_t {w : Cond} (h : w ∈ G) : w ∈ lw_tbl := (List.mem_filter.mp h).1
theorem xwL_t : ∀ w ∈ xwL, w ∈ lw_tbl := by decide +kernel
theorem str_t : ∀ q ∈ strs, Cond.stringRef RX3 q.1 q.2 ∈ lw_tbl := by decide +kernel
theorem lyU : Cond.laysStatic Bundle.tN "UNASSIGNED_STACK" Bundle.steD ∈ lw_tbl := by decide +kernel
theorem lyS : Cond.laysStatic Bundle.tN "SUPPRESSED_SENTINEL" Bundle.listD ∈ lw_tbl := by decide +kernel
theorem iniTh : Cond.initialized Bundle.tN ∈ lw_tbl := by decide +kernel
theorem lw_XK {s : State} {b : Nat} (hts : ∀ w ∈ lw_tbl, w.before #[Value.ref b] s = true) (hgv : (Jvm.Cond.and given_1 narrow_1).before #[Value.ref b] s = true) : XK (LA s) s s.heap := by
  have hf := flat_of_before _ hgv
  have hA : ∀ a : Nat, a < s.heap.size → ¬ LA s a := fun a h => Nat.not_le.mpr h
  have ex : ∀ k, (Cond.exactly (.string RX3 k) "java/lang/String").before #[Value.ref b] s = true → ∀ tx, Cond.stringRef RX3 k tx ∈ lw_tbl → ∃ sa, vk_R RX3 k tx sa s := by
    intro k h tx ht
    obtain ⟨a, c, cell, k9, h1, -⟩ := Cond.exactly_spec h
    exact ⟨a, vk_R.of (hts _ ht) h1⟩
  refine ⟨fun q hq => ?_, vx_Zqof (hts _ lyU) (hts _ iniTh) (hf _ (by decide +kernel)) hA, vx_Zqof (hts _ lyS) (hts _ iniTh) (hf _ (by decide +kernel)) hA, fun w hw => ?_, va_Nc.of (hf _ (by decide +kernel))⟩
  · have ht := str_t q hq
    simp only [strs, List.mem_cons, List.not_mem_nil, or_false] at hq
    rcases hq with rfl | rfl | rfl | rfl | rfl | rfl | rfl | rfl | rfl
    · exact ex 40 (hf _ (by decide +kernel)) _ ht
    · exact ex 51 (hf _ (by decide +kernel)) _ ht
    · exact ex 62 (hf _ (by decide +kernel)) _ ht
    · exact ex 68 (hf _ (by decide +kernel)) _ ht
    · exact ex 77 (hf _ (by decide +kernel)) _ ht
    · exact ex 103 (hf _ (by decide +kernel)) _ ht
    · exact ex 111 (hf _ (by decide +kernel)) _ ht
    · exact ex 117 (hf _ (by decide +kernel)) _ ht
    · exact ex 122 (hf _ (by decide +kernel)) _ ht
  · have h1 := hts w (xwL_t w hw)
    simp only [xwL, List.mem_cons, List.not_mem_nil, or_false] at hw
    rcases hw with rfl | rfl | rfl | rfl | rfl | rfl <;> exact va_any rfl h1
set_option maxRecDepth 100000 in
set_option maxHeartbeats 1000000 in
theorem law_loop {p : Program} {l : Launch} {e : Env} {s : State} {m : MethodId} {b L : Nat} {xs : Nat → Int32} {below : List Frame} {meth : Method} {c : Code} {D : va_G} {cI cJ cZ : ClassId} {ad bd : Nat → Nat} {o : Nat} (hLK : LK p l s m b L xs c D cI cJ cZ ad bd o) (hr : meth.sig.returnType = ret) (hlk : meth.locks = false) :
    ∀ (n j : Nat) (σ : CS) (ρ : MS) (u : Int64) (H : Heap) (locs : List Loc) (ls : Array Slot) (cells slots : Nat), L < 7 * j + 7 * n → 7 * j ≤ L → cells ≤ 50 + j → slots ≤ 20000 + 6 * j → LI σ ρ → va_P D vwCl (wO ad cI cJ cZ o σ u) H → va_P D vwCl (wR bd cI cJ cZ ρ) H → va_S (LA s) s.heap H locs → lv_has ls 7 (lcl b (7 * j) ad bd o) →
      W p l e room_1 s m #[Value.ref b] below meth c H locs cells slots (lw_Z below #[Value.ref b] s) (F0 m 23 ls []) := by
  obtain ⟨E, hst, hXs, hbl, hL, hX, hD, hD2, hAP⟩ := id hLK
  have hbA : ¬ LA s b := Nat.not_le.mpr hbl
  intro n
  induction n with
  | zero => intro j σ ρ u H locs ls cells slots h1 h2; omega
  | succ n ih =>
    intro j σ ρ u H locs ls cells slots hn hj hc hs h hP hP2 hS hl
    refine lv_iload E.1.1 E.1.2.1 dL_law_23 (lv_at hl 4 rfl) ?_
    refine lv_aload_n E.1.1 E.1.2.1 dL_law_25 rfl (lv_at hl 0 rfl) ?_
    refine va_slen E.1.1 E.1.2.1 hXs hbl hbA hS dL_law_26 ?_
    refine lv_bipush (v := nI 7) E.1.1 E.1.2.1 dL_law_27 rfl ?_
    refine lv_isub E.1.1 E.1.2.1 dL_law_29 ?_
    refine lv_icmp_gt (tgt := 642) E.1.1 E.1.2.1 dL_law_30 (by decide) (fun h9 => ?_) (fun h9 => ?_)
    · refine lv_iconst (v := 1) E.1.1 E.1.2.1 dL_law_642 rfl ?_
      refine va_forget (fun q hq => hS.2.2 q hq) ?_
      refine W.widen (k := 601024) (n := 7293034) (by omega) (by omega) ?_
      exact lw_ret E.1.1 E.1.2.1 hr hlk dL_law_643
    · have hi : 7 * j + 7 ≤ L := by
        apply Nat.le_of_not_lt
        intro z
        exact h9 ((loop_gt hL (by omega)).mpr z)
      have hK : KC p l e s m b below meth c D cI cJ cZ ad bd o (7 * j) (cells + 1) (slots + 6) := by
        intro σ ρ u H locs ls h hP hP2 hS hl
        refine lv_iinc (v := nI (7 * (j + 1))) (lv' := [(4, .int (nI (7 * (j + 1)))), (0, .ref b), (1, .ref (ad 0)), (2, .ref (bd 0)), (3, .ref o)]) E.1.1 E.1.2.1 dL_law_636 hl (k := 4) rfl (by rw [show 7 * (j + 1) = 7 * j + 7 by omega]; exact nI_add (7 * j) 7) (by decide) rfl (fun ls hl => ?_)
        refine lv_goto (tgt := 23) E.1.1 E.1.2.1 dL_law_639 (by decide) ?_
        exact ih (j + 1) σ ρ u H locs ls (cells + 1) (slots + 6) (by omega) (by omega) (by omega) (by omega) h hP hP2 hS (lv_sub hl [1, 2, 3, 4, 0] rfl)
      refine lv_aload_n E.1.1 E.1.2.1 dL_law_33 rfl (lv_at hl 0 rfl) ?_
      refine lv_iload E.1.1 E.1.2.1 dL_law_34 (lv_at hl 4 rfl) ?_
      refine LL.sld (i := 7 * j) E hXs hbl hbA hS (by omega) hL dL_law_36 ?_
      refine lv_bipush (v := nI 15) E.1.1 E.1.2.1 dL_law_37 rfl ?_
      refine lv_iand E.1.1 E.1.2.1 dL_law_39 ?_
      obtain ⟨k, hk, ek⟩ := and15 (xs (7 * j))
      refine tpi (y := nI k) ek ?_
      have hk16 : k = 0 ∨ k = 1 ∨ k = 2 ∨ k = 3 ∨ k = 4 ∨ k = 5 ∨ k = 6 ∨ k = 7 ∨ k = 8 ∨ k = 9 ∨ k = 10 ∨ k = 11 ∨ k = 12 ∨ k = 13 ∨ k = 14 ∨ k = 15 := by omega
      clear ek hk
      · rcases hk16 with rfl | rfl | rfl | rfl | rfl | rfl | rfl | rfl | rfl | rfl | rfl | rfl | rfl | rfl | rfl | rfl
        · refine lv_tableIn (off := 52) (tgt := 92) E.1.1 E.1.2.1 dL_law_40 (by decide) (by decide) (by decide) (by decide) ?_
          exact lw_type hLK (by omega) (by omega) (by omega) hK h hP hP2 hS hl
        · refine lv_tableIn (off := 108) (tgt := 148) E.1.1 E.1.2.1 dL_law_40 (by decide) (by decide) (by decide) (by decide) ?_
          exact lw_operation hLK (by omega) (by omega) (by omega) hK h hP hP2 hS hl
        · refine lv_tableIn (off := 226) (tgt := 266) E.1.1 E.1.2.1 dL_law_40 (by decide) (by decide) (by decide) (by decide) ?_
          exact lw_strip hLK (by omega) (by omega) (by omega) hK h hP hP2 hS hl
        · refine lv_tableIn (off := 294) (tgt := 334) E.1.1 E.1.2.1 dL_law_40 (by decide) (by decide) (by decide) (by decide) ?_
          exact lw_shape hLK (by omega) (by omega) (by omega) hK h hP hP2 hS hl
        · refine lv_tableIn (off := 307) (tgt := 347) E.1.1 E.1.2.1 dL_law_40 (by decide) (by decide) (by decide) (by decide) ?_
          exact lw_reach hLK (by omega) (by omega) (by omega) hK h hP hP2 hS hl
        · refine lv_tableIn (off := 320) (tgt := 360) E.1.1 E.1.2.1 dL_law_40 (by decide) (by decide) (by decide) (by decide) ?_
          exact lw_site hLK (by omega) (by omega) (by omega) hK h hP hP2 hS hl
        · refine lv_tableIn (off := 400) (tgt := 440) E.1.1 E.1.2.1 dL_law_40 (by decide) (by decide) (by decide) (by decide) ?_
          exact lw_run hLK (by omega) (by omega) (by omega) hK h hP hP2 hS hl
        · refine lv_tableIn (off := 484) (tgt := 524) E.1.1 E.1.2.1 dL_law_40 (by decide) (by decide) (by decide) (by decide) ?_
          exact lw_count hLK (by omega) (by omega) (by omega) hK h hP hP2 hS hl
        · refine lv_tableIn (off := 540) (tgt := 580) E.1.1 E.1.2.1 dL_law_40 (by decide) (by decide) (by decide) (by decide) ?_
          exact lw_out hLK (by omega) (by omega) (by omega) hK h hP hP2 hS hl
        · refine lv_tableOut (tgt := 636) E.1.1 E.1.2.1 dL_law_40 (by decide) (by decide) ?_
          refine W.widen (k := cells + 1) (n := slots + 6) (Nat.le_succ _) (Nat.le_add_right _ _) ?_
          exact hK σ ρ u _ _ _ h hP hP2 hS hl
        · refine lv_tableOut (tgt := 636) E.1.1 E.1.2.1 dL_law_40 (by decide) (by decide) ?_
          refine W.widen (k := cells + 1) (n := slots + 6) (Nat.le_succ _) (Nat.le_add_right _ _) ?_
          exact hK σ ρ u _ _ _ h hP hP2 hS hl
        · refine lv_tableOut (tgt := 636) E.1.1 E.1.2.1 dL_law_40 (by decide) (by decide) ?_
          refine W.widen (k := cells + 1) (n := slots + 6) (Nat.le_succ _) (Nat.le_add_right _ _) ?_
          exact hK σ ρ u _ _ _ h hP hP2 hS hl
        · refine lv_tableOut (tgt := 636) E.1.1 E.1.2.1 dL_law_40 (by decide) (by decide) ?_
          refine W.widen (k := cells + 1) (n := slots + 6) (Nat.le_succ _) (Nat.le_add_right _ _) ?_
          exact hK σ ρ u _ _ _ h hP hP2 hS hl
        · refine lv_tableOut (tgt := 636) E.1.1 E.1.2.1 dL_law_40 (by decide) (by decide) ?_
          refine W.widen (k := cells + 1) (n := slots + 6) (Nat.le_succ _) (Nat.le_add_right _ _) ?_
          exact hK σ ρ u _ _ _ h hP hP2 hS hl
        · refine lv_tableOut (tgt := 636) E.1.1 E.1.2.1 dL_law_40 (by decide) (by decide) ?_
          refine W.widen (k := cells + 1) (n := slots + 6) (Nat.le_succ _) (Nat.le_add_right _ _) ?_
          exact hK σ ρ u _ _ _ h hP hP2 hS hl
        · refine lv_tableOut (tgt := 636) E.1.1 E.1.2.1 dL_law_40 (by decide) (by decide) ?_
          refine W.widen (k := cells + 1) (n := slots + 6) (Nat.le_succ _) (Nat.le_add_right _ _) ?_
          exact hK σ ρ u _ _ _ h hP hP2 hS hl
set_option maxRecDepth 100000 in
set_option maxHeartbeats 4000000 in
theorem whole_start {p : Program} {e : Env} {s : State} {m : MethodId} {below : List Frame} {meth : Method} {c : Code} (l : Launch) (hst : l.stackTraces = false) {b L : Nat} {xs : Nat → Int32} (hL : L ≤ 3584) (C0 : lw_At p s m meth c b L xs) : W p l e room_1 s m #[Value.ref b] below meth c s.heap [] 0 0 (lw_Z below #[Value.ref b] s) (entryFrame m ([Value.ref b] : List Value).toArray 7) := by
  obtain ⟨hx, hb, hr, hml, hown, hts, hXs, hbl, hlk, hgv⟩ := id C0
  have hX := lw_XK hts hgv
  obtain ⟨k0, i0, hk0⟩ := u_known (C := RJ0) (T := TJ0) (N := 4) (n := 4) hts inJ0x (hts _ ibJ0x)
  obtain ⟨k1, i1, hk1⟩ := u_known (C := RJ4) (T := TJ4) (N := 4) (n := 4) hts inJ4x (hts _ ibJ4x)
  obtain ⟨k2, i2, hk2⟩ := u_known (C := RX0) (T := TX0) (N := 15) (n := 15) hts (fun w hw => G_t (inG_X0 w hw)) (hts _ (G_t ib_X0))
  obtain ⟨k3, i3, hk3⟩ := u_known (C := RX1) (T := TX1) (N := 7) (n := 7) hts (fun w hw => G_t (inG_X1 w hw)) (hts _ (G_t ib_X1))
  obtain ⟨k4, i4, hk4⟩ := u_known (C := RX2) (T := TX2) (N := 6) (n := 6) hts (fun w hw => G_t (inG_X2 w hw)) (hts _ (G_t ib_X2))
  obtain ⟨k5, i5, hk5⟩ := u_known (C := RX3) (T := TX3) (N := 3) (n := 3) hts (fun w hw => G_t (inG_X3 w hw)) (hts _ (G_t ib_X3))
  obtain ⟨k6, i6, hk6⟩ := u_known (C := RX4) (T := TX4) (N := 23) (n := 23) hts (fun w hw => G_t (inG_X4 w hw)) (hts _ (G_t ib_X4))
  obtain ⟨cI, hI1, hI2⟩ := arr_K (hts _ (G_t ar_int))
  obtain ⟨cJ, hJ1, hJ2⟩ := arr_K (hts _ (G_t ar_long))
  obtain ⟨cZ, hZ1, hZ2⟩ := arr_K (hts _ (G_t ar_boolean))
  obtain ⟨D, hKc⟩ : ∃ D : va_G, ∀ (k : Nat) (q : vw_C), vwCl[k]? = some q → u_Kn s q.1 q.2.1 q.2.2 (D.1 k) (D.2 k) := by
    refine ⟨(fun k => if k = 0 then k0 else if k = 1 then k1 else if k = 2 then k2 else if k = 3 then k3 else if k = 4 then k4 else if k = 5 then k5 else k6, fun k => if k = 0 then i0 else if k = 1 then i1 else if k = 2 then i2 else if k = 3 then i3 else if k = 4 then i4 else if k = 5 then i5 else i6), ?_⟩
    intro k q hq
    match k, hq with
    | 0, hq => cases hq; exact hk0
    | 1, hq => cases hq; exact hk1
    | 2, hq => cases hq; exact hk2
    | 3, hq => cases hq; exact hk3
    | 4, hq => cases hq; exact hk4
    | 5, hq => cases hq; exact hk5
    | 6, hq => cases hq; exact hk6
    | k + 7, hq => simp [vwCl] at hq
  have hK : va_K D vwCl (t3 cI cJ cZ) s := by
    refine ⟨hKc, fun k q hq => ?_⟩
    match k, hq with
    | 0, hq => cases hq; exact ⟨hI1, hI2⟩
    | 1, hq => cases hq; exact ⟨hJ1, hJ2⟩
    | 2, hq => cases hq; exact ⟨hZ1, hZ2⟩
    | k + 3, hq => simp [t3] at hq
  have E : Cx p s m #[Value.ref b] c cL_law 7 RL (.initialized RL) D (t3 cI cJ cZ) := ⟨⟨hx, hb, hml, hown, fun w hw => (List.mem_cons.mp hw).elim (fun e => by rw [e]; exact hts _ (G_t ini_L)) (fun h => hts _ (G_t h))⟩, hK⟩
  have hA2 : ∀ q : Nat, s.heap.size ≤ q → LA s q := fun _ h => h
  have hS : va_S (LA s) s.heap s.heap [] := va_S.rf
  have hP : va_P D vwCl [] s.heap := fun k q h => by simp at h
  have hD : va_D (LA s) [] := ⟨fun i j p q h => by simp at h, fun k q h => by simp at h⟩
  have hl := lv_entry ([.ref b]) (n := 7) (Nat.le_of_ble_eq_true rfl)
  rw [lg_entry_eq]
  generalize (lg_sl ([.ref b]) ++ List.replicate (7 - (lg_sl ([.ref b])).length) Slot.unset).toArray = ls at hl ⊢
  have hl : lv_has ls 7 [(0, .ref b)] := hl
  refine CN.new (T := TX3) (N := 3) (ci := 5) (fs := [.null, .null, .null]) E inG_X3 tyX3 tyX3_ok cl_L_8 ib_X3 ini_X3 hP hD hS hA2 rfl (fun j hj => by rcases (show j = 0 ∨ j = 1 ∨ j = 2 by omega) with rfl | rfl | rfl <;> rfl) (by decide) (by decide) dL_law_0 (fun q0 H hP hD hS => ?_)
  have hP : va_P D vwCl [(q0, .inr (5, [.null, .null, .null]))] H := hP
  have hD : va_D (LA s) [(q0, .inr (5, [.null, .null, .null]))] := hD
  refine lv_dup E.1.1 E.1.2.1 dL_law_3 rfl ?_
  refine CN.callI (n := 0) (rest := [.ref q0]) (wr := []) E (c_X3_init l D cI cJ cZ q0) ml_L_41 im_X3_init ini_X3 co_X3_init rfl (by decide +kernel) ⟨by decide, by decide⟩ ⟨by decide, by decide⟩ hP hD hS hA2 [0] [] rfl rfl (by decide) rfl (by decide) (by decide) rfl hl.1 (Nat.le_of_ble_eq_true rfl) dL_law_4 rfl (fun w1 H locs hB hP hD hS => ?_)
  obtain ⟨ad, rfl, rfl⟩ := hB
  have hP : va_P D vwCl (wC ad cI cJ cZ c00) H := hP
  have hD : va_D (LA s) (wC ad cI cJ cZ c00) := hD
  refine lv_astore_n (lv' := [(1, .ref (ad 0)), (0, .ref b)]) E.1.1 E.1.2.1 dL_law_7 rfl hl (by decide) rfl (fun ls hl => ?_)
  refine CN.new (T := TX4) (N := 23) (ci := 6) (fs := [.int 0, .int 0, .null, .null, .null, .null, .null, .null, .null, .null, .int 0, .int 0, .null, .null, .null, .int 0, .null, .null, .null, .null, .null, .null, .null]) E inG_X4 tyX4 tyX4_ok cl_L_42 ib_X4 ini_X4 hP hD hS hA2 rfl (fun j hj => by rcases (show j = 0 ∨ j = 1 ∨ j = 2 ∨ j = 3 ∨ j = 4 ∨ j = 5 ∨ j = 6 ∨ j = 7 ∨ j = 8 ∨ j = 9 ∨ j = 10 ∨ j = 11 ∨ j = 12 ∨ j = 13 ∨ j = 14 ∨ j = 15 ∨ j = 16 ∨ j = 17 ∨ j = 18 ∨ j = 19 ∨ j = 20 ∨ j = 21 ∨ j = 22 by omega) with rfl | rfl | rfl | rfl | rfl | rfl | rfl | rfl | rfl | rfl | rfl | rfl | rfl | rfl | rfl | rfl | rfl | rfl | rfl | rfl | rfl | rfl | rfl <;> rfl) (by decide) (by decide) dL_law_8 (fun q1 H hP hD hS => ?_)
  refine lv_dup E.1.1 E.1.2.1 dL_law_11 rfl ?_
  refine CN.callI (n := 0) (rest := [.ref q1]) (wr := wC ad cI cJ cZ c00) E (c_X4_init l D cI cJ cZ q1) ml_L_44 im_X4_init ini_X4 co_X4_init rfl (by decide +kernel) ⟨by decide, by decide⟩ ⟨by decide, by decide⟩ hP hD hS hA2 [20] [0, 1, 2, 3, 4, 5, 6, 7, 8, 9, 10, 11, 12, 13, 14, 15, 16, 17, 18, 19] rfl rfl (by decide) rfl (by decide) (by decide) rfl hl.1 (Nat.le_of_ble_eq_true rfl) dL_law_12 rfl (fun w1 H locs hB hP hD hS => ?_)
  obtain ⟨bd, rfl, rfl⟩ := hB
  refine lv_astore_n (lv' := [(2, .ref (bd 0)), (1, .ref (ad 0)), (0, .ref b)]) E.1.1 E.1.2.1 dL_law_15 rfl hl (by decide) rfl (fun ls hl => ?_)
  refine lv_iconst (v := nI 1) E.1.1 E.1.2.1 dL_law_16 rfl ?_
  refine CN.newJ (N := 1) E hP hD hS hA2 (by decide) (by decide) (by decide) dL_law_17 (fun o H hP hD hS => ?_)
  rw [vJ0] at hP hD
  refine lv_astore_n (lv' := [(3, .ref o), (2, .ref (bd 0)), (1, .ref (ad 0)), (0, .ref b)]) E.1.1 E.1.2.1 dL_law_19 rfl hl (by decide) rfl (fun ls hl => ?_)
  refine lv_iconst (v := nI 0) E.1.1 E.1.2.1 dL_law_20 rfl ?_
  refine lv_istore (lv' := [(4, .int (nI 0)), (3, .ref o), (2, .ref (bd 0)), (1, .ref (ad 0)), (0, .ref b)]) E.1.1 E.1.2.1 dL_law_21 hl (by decide) rfl (fun ls hl => ?_)
  have hPo : va_P D vwCl (wO ad cI cJ cZ o c00 0) H := (blk_l (blk_l hP)).app (blk_r hP)
  have hPr : va_P D vwCl (wR bd cI cJ cZ m00) H := blk_r (blk_l hP)
  have hDa : va_D (LA s) (wO ad cI cJ cZ o c00 0 ++ wR bd cI cJ cZ m00) := hD.sub [0, 1, 2, 3, 4, 5, 6, 7, 8, 9, 10, 11, 12, 13, 14, 15, 16, 17, 18, 19, 39, 20, 21, 22, 23, 24, 25, 26, 27, 28, 29, 30, 31, 32, 33, 34, 35, 36, 37, 38] (by decide) rfl
  have hLK : LK p l s m b L xs c D cI cJ cZ ad bd o := ⟨E, hst, hXs, hbl, hL, hX, blD_l hDa, blD_r hDa, AP.of hDa⟩
  exact law_loop hLK hr hlk 513 0 c00 m00 0 _ _ _ _ _ (by omega) (by omega) (by decide) (by decide) li_0 hPo hPr hS (lv_sub hl [4, 3, 2, 1, 0] rfl)
