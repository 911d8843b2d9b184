/-! each call of the script: what the class does and what the reference does go together -/
def OPS (l : Launch) (D : va_G) (cI cJ cZ : ClassId) (ad bd : Nat → Nat) (o : Nat) (y : MethodName) (cd : ByteArray) (nL : Nat) (hh : List (Nat × Nat × Nat × Nat)) (a1 : List Value) (y2 : MethodName) (cd2 : ByteArray) (nL2 lev2 : Nat) (a2 : List Value) (c : CS) (ρ : MS) (u : Int64) : Prop :=
  ∃ (c' : CS) (ρ' : MS) (k : Nat) (bb : Int32) (u' : Int64), CY l D (t3 cI cJ cZ) y cd nL hh 8 a1 (wO ad cI cJ cZ o c u) (nI k) (wO ad cI cJ cZ o c' u') ∧ CM l D (t3 cI cJ cZ) y2 cd2 nL2 (some .int) lev2 a2 (wR bd cI cJ cZ ρ) (some (.int bb)) (wR bd cI cJ cZ ρ') ∧ gmth ρ' = k ∧ (k = 0 → u' = bb.toInt64) ∧ LI c' ρ' ∧ k ≤ 2
theorem isW_x {v : Int32} {n : Nat} (hn : n < 2147483648) (h : isW v (nI n) = true) : ∃ k, k < n ∧ v = nI k := ⟨_, (isW_n hn h).2, (isW_n hn h).1⟩
theorem ty_out {v : Int32} {n : Nat} (h0 : 0 < n) (hn : n ≤ 6) : ouF v (-1) (nI (n - 1)) = true ↔ (¬ v = -1 ∧ isW v (nI n) = false) := by
  have e1 : (-1 : Int32).toInt = -1 := by decide
  have e0 : (0 : Int32).toInt = 0 := by decide
  have ev : v = -1 ↔ v.toInt = -1 := by rw [← Int32.toInt_inj, e1]
  have hv := i32_rng v
  unfold ouF isW
  rw [Bool.or_eq_true, decide_eq_true_eq, Bool.not_eq_true', decide_eq_false_iff_not, Bool.and_eq_false_iff, Bool.not_eq_false', Bool.not_eq_false', decide_eq_true_eq, decide_eq_true_eq, ev, Int32.lt_iff_toInt_lt, Int32.le_iff_toInt_le, Int32.lt_iff_toInt_lt, Int32.le_iff_toInt_le, nI_toInt (by omega), nI_toInt (by omega), e1, e0]
  omega
theorem wfK_in {k y z : Int32} (h : wfK k y z = true) : ∃ j, j < 12 ∧ k = nI j := by
  rcases sw12 k with e | e | e | e | e | e | e | e | e | e | e | e | e
  · exact ⟨0, by decide, e⟩
  · exact ⟨1, by decide, e⟩
  · exact ⟨2, by decide, e⟩
  · exact ⟨3, by decide, e⟩
  · exact ⟨4, by decide, e⟩
  · exact ⟨5, by decide, e⟩
  · exact ⟨6, by decide, e⟩
  · exact ⟨7, by decide, e⟩
  · exact ⟨8, by decide, e⟩
  · exact ⟨9, by decide, e⟩
  · exact ⟨10, by decide, e⟩
  · exact ⟨11, by decide, e⟩
  · rw [wfK_out e] at h; cases h
theorem lo_n {c : CS} {ρ : MS} (h : LI c ρ) : gcn c = gmty ρ ∧ gcL c = gmmy ρ ∧ 0 < gcn c ∧ gcn c ≤ 6 ∧ QI ρ := ⟨h.1.2.1.1, h.1.2.1.2.1, h.1.2.1.2.2.2.2.2.2.1, h.2.1.1.1.2.2.2.2, QI_of h.1.2.1 h.2.1.1.1⟩
/-- the run throws nothing -/
theorem run_th (n : Nat) (sh : Bool) (ρ : MS) : gmth (mrF sh n ρ).2 = 0 := by
  have q0 : gmth (rn0 n ρ) = 0 := by unfold rn0; rw [hs_th_rm, hs_th_fr, hs_th_ob, hs_th_ct, hs_th_th]; rfl
  have se : ∀ (i : Nat) (b : Bool) (v : Int32) (τ : MS), gmth τ = 0 → gmth (seF i b v τ) = 0 := fun i b v τ h => by rw [q_seF_th]; exact h
  have ic : ∀ (j : Nat) (τ : MS), gmth τ = 0 → gmth (icM j τ) = 0 := fun j τ h => by rw [q_icM_th]; exact h
  have ma : ∀ (t : Nat) (b : Bool) (τ : MS), gmth τ = 0 → gmth (maF t b τ) = 0 := fun t b τ h => by
    unfold maF
    split
    · exact h
    · rw [q_mk1_th, q_mk0_th]; exact h
  have es : ∀ (b : Nat) (v : Int32) (x : Bool) (w : Int32) (g : Nat) (τ : MS), gmth τ = 0 → gmth (esF b v x w g τ) = 0 := fun b v x w g τ h => by
    rw [es_eq, esA, q_es3_th, q_es2_th, q_es1_th]; exact h
  have aw : ∀ (b : Bool) (v : Int32) (τ : MS), gmth τ = 0 → gmth (awF b v τ) = 0 := fun b v τ h => by
    unfold awF
    split
    · rw [hs_th_fr]; exact h
    · refine se _ _ _ _ ?_; rw [hs_th_fr]; exact h
  have dp : ∀ (ba p z f : Nat) (τ : MS), gmth τ = 0 → gmth (dpF ba p z f τ) = 0 := fun ba p z f τ h => by
    unfold dpF
    split
    · exact se _ _ _ _ h
    · exact se _ _ _ _ h
    · unfold suF; split
      · exact h
      · exact se _ _ _ _ h
    · unfold suF; split
      · exact h
      · exact se _ _ _ _ h
    · unfold nwF; split
      · exact ma _ _ _ h
      · exact se _ _ _ _ (ma _ _ _ h)
    · split
      · exact se _ _ _ _ h
      · exact h
    · split
      · rw [hs_th_fV, hs_th_fI]; exact h
      · exact h
    · unfold clF; split
      · split
        · exact h
        · split
          · exact h
          · refine es _ _ _ _ _ _ ?_; rw [q_mcF_th]; exact h
      · exact h
    · unfold puF; split
      · exact h
      · rw [hs_th_ct, hs_th_ou]; exact h
    · split
      · rw [hs_th_pl]; exact h
      · exact h
    · exact h
    · exact aw _ _ _ h
  have rl : ∀ (k : Nat) (τ : MS), gmth τ = 0 → gmth (rnL k sh τ).2 = 0 := by
    intro k
    induction k with
    | zero => intro τ h; exact h
    | succ k ih =>
      intro τ h
      have hd : gmth (doF sh (icM 4 τ)) = 0 := by
        unfold doF
        refine dp _ _ _ _ _ ?_
        rw [q_nxM_th]; exact ic 4 τ h
      rw [rnL]
      split
      · exact h
      · split
        · exact ih _ (aw _ _ _ h)
        · split
          · exact h
          · split
            · exact ih _ hd
            · exact hd
  unfold mrF
  split
  · exact ma _ _ _ q0
  · unfold mrB
    split
    · exact ma _ _ _ q0
    · exact rl _ _ (es _ _ _ _ _ _ (ic 3 _ (ma _ _ _ q0)))
section OPX
variable {l : Launch} {D : va_G} {cI cJ cZ : ClassId} {ad bd : Nat → Nat} {o : Nat} {c : CS} {ρ : MS} {u : Int64}
theorem op_type (hst : l.stackTraces = false) (h : LI c ρ) (v : Int32) : OPS l D cI cJ cZ ad bd o yL_type cL_type 4 [(0, 9, 12, 13), (0, 9, 15, 15)] [.ref (ad 0), .int v, .ref o] yX4_type cX4_type 2 1 [.ref (bd 0), .int v] c ρ u := by
  obtain ⟨hn, hL, hp, h6, hQ⟩ := lo_n h
  by_cases hv : ¬ v = -1 ∧ isW v (nI (gcn c)) = false
  · refine ⟨c, _, 1, _, u, cL_type_IA (σ1 := c) (c_X3_type_noA l hst D cI cJ cZ ad c v hv.1 hv.2), c_X4_type_no l D cI cJ cZ bd ρ v hQ ((ty_out (by omega) (by omega)).mpr (by rw [← hn]; exact hv)), ?_, (fun e => by cases e), li_th _ h, by decide⟩
    rw [hs_th_th]; rfl
  · have ho : ∃ q : Option Nat, v = oI q ∧ ∀ j, q = some j → j < gcn c := by
      by_cases h1 : v = -1
      · exact ⟨none, h1, fun j hj => by cases hj⟩
      · obtain ⟨k, hk, e⟩ := isW_x (v := v) (n := gcn c) (by omega) (by
          cases hw : isW v (nI (gcn c)) with
          | true => rfl
          | false => exact absurd ⟨h1, hw⟩ hv)
        exact ⟨some k, e, fun j hj => by cases hj; exact hk⟩
    obtain ⟨q, rfl, hq⟩ := ho
    by_cases hf : gcn c < 6
    · refine ⟨tyC q c, tyM q ρ, 0, _, _, cL_type_ok (c_X3_type_ok l D cI cJ cZ ad c q h.2.1.1.1 hf hq) (by decide), c_X4_type_ok l D cI cJ cZ bd ρ q hQ (by omega) (by rw [← hn]; exact hq), q_tyM_th .., fun _ => by rw [hn], li_type h hf hq, by decide⟩
    · refine ⟨c, _, 2, _, u, cL_type_IS (σ1 := c) (c_X3_type_noS l hst D cI cJ cZ ad c q h.2.1.1.1 (by omega) hq), c_X4_type_no2 l D cI cJ cZ bd ρ q hQ (by omega) (by rw [← hn]; exact hq), ?_, (fun e => by cases e), li_th _ h, by decide⟩
      rw [hs_th_th]; rfl
theorem pl_ok {c : CS} {t q : Int32} (h6 : gcn c ≤ 6) (hv : (isW t (nI (gcn c)) && isW q (nI 4)) = true) : ∃ a b, a < gcn c ∧ b < 4 ∧ t = nI a ∧ q = nI b := by
  rw [Bool.and_eq_true] at hv
  obtain ⟨a, ha, ea⟩ := isW_x (by omega) hv.1
  obtain ⟨b, hb, eb⟩ := isW_x (by decide) hv.2
  exact ⟨a, b, ha, hb, ea, eb⟩
theorem op_operation (hst : l.stackTraces = false) (h : LI c ρ) (t q k x y z : Int32) : OPS l D cI cJ cZ ad bd o yL_operation cL_operation 9 [(0, 18, 21, 13), (0, 18, 25, 15)] [.ref (ad 0), .int t, .int q, .int k, .int x, .int y, .int z, .ref o] yX4_operation cX4_operation 10 2 [.ref (bd 0), .int t, .int q, .int k, .int x, .int y, .int z] c ρ u := by
  obtain ⟨hn, hL, hp, h6, hQ⟩ := lo_n h
  have th1 : ∀ v, gmth (smth ρ v) = v := fun v => by rw [hs_th_th]
  cases hv : (isW t (nI (gcn c)) && isW q (nI 4)) with
  | false => exact ⟨c, _, 1, _, u, cL_operation_IA (σ1 := c) (c_X3_operation_noA l hst D cI cJ cZ ad c t q k x y z hv), c_X4_operation_no l D cI cJ cZ bd ρ t q k x y z hQ (by rw [← hn, hv]; rfl), th1 _, (fun e => by cases e), li_th _ h, by decide⟩
  | true =>
    cases hw : wfF k x y z with
    | false => exact ⟨c, _, 1, _, u, cL_operation_IA (σ1 := c) (c_X3_operation_noB l hst D cI cJ cZ ad c t q k x y z hv hw), c_X4_operation_no l D cI cJ cZ bd ρ t q k x y z hQ (by rw [hw, Bool.and_false]), th1 _, (fun e => by cases e), li_th _ h, by decide⟩
    | true =>
      obtain ⟨a, b, ha, hb, rfl, rfl⟩ := pl_ok h6 hv
      have hw2 := hw
      unfold wfF at hw2
      rw [Bool.and_eq_true] at hw2
      obtain ⟨x1, hx1, rfl⟩ := isW_x (by decide) hw2.1
      obtain ⟨k1, hk1, rfl⟩ := wfK_in hw2.2
      have hb4 : 4 * a + b = a * 4 + b := by omega
      have h10 := h.2.1.1.1.2.1 (a * 4 + b)
      by_cases hf : gcL c (a * 4 + b) < 10
      · have hr := c_X4_operation_ok l D cI cJ cZ bd ρ a b k1 x1 y z hQ (by omega) hb hw (by rw [hb4, ← hL]; exact hf)
        rw [hb4, ← hL] at hr
        exact ⟨_, _, 0, _, _, cL_operation_ok (c_X3_operation_ok l D cI cJ cZ ad c a b k1 x1 y z ha hb h.2.1.1.1 hw hf) (by decide), hr, q_opG_th .., fun _ => rfl, li_op h (by omega) hf hk1 hx1 hw2.2, by decide⟩
      · exact ⟨c, _, 2, _, u, cL_operation_IS (σ1 := c) (c_X3_operation_noS l hst D cI cJ cZ ad c a b k1 x1 y z ha hb h.2.1.1.1 hw (by omega)), c_X4_operation_no2 l D cI cJ cZ bd ρ a b k1 x1 y z hQ (by omega) hb hw (by rw [hb4, ← hL]; omega), th1 _, (fun e => by cases e), li_th _ h, by decide⟩
theorem op_strip (hst : l.stackTraces = false) (h : LI c ρ) (t q : Int32) : OPS l D cI cJ cZ ad bd o yL_strip cL_strip 5 [(0, 10, 13, 13)] [.ref (ad 0), .int t, .int q, .ref o] yX4_strip cX4_strip 5 1 [.ref (bd 0), .int t, .int q] c ρ u := by
  obtain ⟨hn, hL, hp, h6, hQ⟩ := lo_n h
  have th1 : ∀ v, gmth (smth ρ v) = v := fun v => by rw [hs_th_th]
  cases hv : (isW t (nI (gcn c)) && isW q (nI 4)) with
  | false => exact ⟨c, _, 1, _, u, cL_strip_IA (σ1 := c) (c_X3_strip_noA l hst D cI cJ cZ ad c t q hv), c_X4_strip_no l D cI cJ cZ bd ρ t q hQ (by rw [← hn, hv]), th1 _, (fun e => by cases e), li_th _ h, by decide⟩
  | true =>
    obtain ⟨a, b, ha, hb, rfl, rfl⟩ := pl_ok h6 hv
    have hb4 : 4 * a + b = a * 4 + b := by omega
    have hr := c_X4_strip_ok l D cI cJ cZ bd ρ a b hQ (by omega) hb
    rw [hb4] at hr
    have hr : CM l D (t3 cI cJ cZ) yX4_strip cX4_strip 5 (some .int) 1 [.ref (bd 0), .int (nI a), .int (nI b)] (wR bd cI cJ cZ ρ) (some (.int (nI (gmmy ρ (a * 4 + b))))) (wR bd cI cJ cZ (stM (a * 4 + b) ρ)) := hr
    rw [← hL] at hr
    exact ⟨_, _, 0, _, _, cL_strip_ok (c_X3_strip_ok l D cI cJ cZ ad c a b ha hb h.2.1.1.1) (by decide), hr, q_stM_th .., fun _ => rfl, li_strip h, by decide⟩
theorem op_site (hst : l.stackTraces = false) (h : LI c ρ) (t q k : Int32) : OPS l D cI cJ cZ ad bd o yL_site cL_site 6 [(0, 12, 15, 29)] [.ref (ad 0), .int t, .int q, .int k, .ref o] yX4_site cX4_site 5 1 [.ref (bd 0), .int t, .int q, .int k] c ρ u := by
  obtain ⟨hn, hL, hp, h6, hQ⟩ := lo_n h
  have th1 : ∀ v, gmth (smth ρ v) = v := fun v => by rw [hs_th_th]
  cases hv : (isW t (nI (gcn c)) && isW q (nI 4)) with
  | false => exact ⟨c, _, 1, _, u, cL_site_NS (σ1 := c) (c_X3_site_noA l hst D cI cJ cZ ad c t q k hv), c_X4_site_no l D cI cJ cZ bd ρ t q k hQ (by rw [← hn, hv]), th1 _, (fun e => by cases e), li_th _ h, by decide⟩
  | true =>
    obtain ⟨a, b, ha, hb, rfl, rfl⟩ := pl_ok h6 hv
    have hb4 : 4 * a + b = a * 4 + b := by omega
    have h10 := h.2.1.1.1.2.1 (a * 4 + b)
    cases hk : isW k (nI (gcL c (a * 4 + b))) with
    | false => exact ⟨c, _, 1, _, u, cL_site_NS (σ1 := c) (c_X3_site_noB l hst D cI cJ cZ ad c a b k ha hb h.2.1.1.1 hk), c_X4_site_no2 l D cI cJ cZ bd ρ a b k hQ (by omega) hb (by rw [hb4, ← hL]; exact hk), th1 _, (fun e => by cases e), li_th _ h, by decide⟩
    | true =>
      obtain ⟨k1, hk1, rfl⟩ := isW_x (by omega) hk
      have hr := c_X4_site_ok l D cI cJ cZ bd ρ a b k1 hQ (by omega) hb (by rw [hb4, ← hL]; exact hk1)
      rw [hb4] at hr
      have hs : siF (smth ρ (thF false false)) (a * 4 + b) k1 = gcV c ((a * 4 + b) * 10 + k1) := (h.1.2.2.1 (a * 4 + b) k1 hk1).symm
      rw [hs] at hr
      exact ⟨c, _, 0, _, _, cL_site_ok (c_X3_site_ok l D cI cJ cZ ad c a b k1 ha hb h.2.1.1.1 hk1) (by decide), hr, th1 _, fun _ => rfl, li_th _ h, by decide⟩
theorem op_run (hst : l.stackTraces = false) (h : LI c ρ) (b : Bool) (v : Int32) : OPS l D cI cJ cZ ad bd o yL_run cL_run 5 [(0, 10, 13, 13)] [.ref (ad 0), .int (bI b), .int v, .ref o] yX4_run cX4_run 5 3 [.ref (bd 0), .int (bI b), .int v] c ρ u := by
  have th1 : ∀ v, gmth (smth ρ v) = v := fun v => by rw [hs_th_th]
  cases hv : isW v (nI 61) with
  | false => exact ⟨c, _, 1, _, u, cL_run_IA (σ1 := c) (c_X3_run_no l hst D cI cJ cZ ad c b v hv), c_X4_run_no l D cI cJ cZ bd ρ b v hv, th1 _, (fun e => by cases e), li_th _ h, by decide⟩
  | true =>
    obtain ⟨n, hn, rfl⟩ := isW_x (by decide) hv
    obtain ⟨e1, h1⟩ := run_li n b h (by omega)
    have e2 : gmth (mrF b n ρ).2 = 0 := run_th n b ρ
    exact ⟨_, _, 0, _, _, cL_run_ok (c_X3_run_ok l D cI cJ cZ ad c b n h.2.1 (by omega)) (by decide), c_X4_run_ok l D cI cJ cZ bd ρ b n c h.1 h.2.1 (by omega), e2, fun _ => by rw [e1], h1, by decide⟩
theorem op_count (hst : l.stackTraces = false) (h : LI c ρ) (v : Int32) : OPS l D cI cJ cZ ad bd o yL_count cL_count 4 [(0, 9, 12, 29)] [.ref (ad 0), .int v, .ref o] yX4_count cX4_count 2 1 [.ref (bd 0), .int v] c ρ u := by
  have th1 : ∀ v, gmth (smth ρ v) = v := fun v => by rw [hs_th_th]
  cases hv : isW v (nI 6) with
  | false => exact ⟨c, _, 1, _, u, cL_count_NS (σ1 := c) (c_X3_count_no l hst D cI cJ cZ ad c v hv), c_X4_count_no l D cI cJ cZ bd ρ v hv, th1 _, (fun e => by cases e), li_th _ h, by decide⟩
  | true =>
    obtain ⟨n, hn, rfl⟩ := isW_x (by decide) hv
    exact ⟨c, _, 0, _, _, cL_count_ok (c_X3_count_ok l D cI cJ cZ ad c n hn) (by decide), c_X4_count_ok l D cI cJ cZ bd ρ n hn, th1 _, fun _ => by rw [h.1.1.2.2.2.2.2.2.2.2.1], li_th _ h, by decide⟩
theorem op_out (hst : l.stackTraces = false) (h : LI c ρ) (v : Int32) : OPS l D cI cJ cZ ad bd o yL_out cL_out 4 [(0, 9, 12, 29)] [.ref (ad 0), .int v, .ref o] yX4_out cX4_out 2 1 [.ref (bd 0), .int v] c ρ u := by
  have th1 : ∀ v, gmth (smth ρ v) = v := fun v => by rw [hs_th_th]
  have hc := h.2.1.2.2.2.2.1.1
  have ec : gcCt c = gmct ρ := h.1.1.2.2.2.2.2.2.2.2.1
  cases hv : isW v (nI (gcCt c 0)) with
  | false => exact ⟨c, _, 1, _, u, cL_out_NS (σ1 := c) (c_X3_out_no l hst D cI cJ cZ ad c v hv hc), c_X4_out_no l D cI cJ cZ bd ρ v (by rw [← ec]; exact hv) (by rw [← ec]; exact hc), th1 _, (fun e => by cases e), li_th _ h, by decide⟩
  | true =>
    obtain ⟨n, hn, rfl⟩ := isW_x (by omega) hv
    exact ⟨c, _, 0, _, _, cL_out_ok (c_X3_out_ok l D cI cJ cZ ad c n hn hc) (by decide), c_X4_out_ok l D cI cJ cZ bd ρ n (by rw [← ec]; exact hn) (by rw [← ec]; exact hc), th1 _, fun _ => by rw [h.1.1.2.2.2.2.2.2.2.1], li_th _ h, by decide⟩
end OPX
