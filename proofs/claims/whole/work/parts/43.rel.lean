/-! the class's state and the reference's: how they go together -/
def RV (v : Val) (b : Bool) (w : Int32) : Prop := match v with
  | .inl a => b = false ∧ w = a
  | .inr k => b = true ∧ w = nI k
def PR (c : CS) (ρ : MS) : Prop := gcn c = gmty ρ ∧ gcL c = gmmy ρ ∧ (∀ i, i < gcn c → gcP c i = gmpa ρ i) ∧ (∀ i, gcn c ≤ i → gcP c i = none) ∧ (∀ i, 4 * gcn c ≤ i → gcL c i = 0) ∧ (∀ i k, gmpa ρ i = some k → k < i) ∧ 0 < gcn c ∧ (∀ p, gmcd ρ (4 * p) = nI (gcK c p) ∧ gmcd ρ (4 * p + 1) = nI (gcX c p) ∧ gmcd ρ (4 * p + 2) = gcY c p ∧ gmcd ρ (4 * p + 3) = gcZ c p)
def SV (c : CS) (ρ : MS) : Prop := (∀ b k, k < gcL c b → gcV c (b * 10 + k) = siF ρ b k) ∧ (∀ i, gmsi ρ i ≤ 6)
/-- an object's number, where the reference says that there is one -/
def RW (b : Bool) (w : Int32) : Prop := b = true → w = nI w.toNatClampNeg ∧ w.toNatClampNeg < 401
/-- the registers of the frames that there are -/
def RLn (n : Nat) (f : Nat → Val) (g : Nat → Bool) (h : Nat → Int32) : Prop := ∀ i, (i < 6 * n → RV (f i) (g i) (h i)) ∧ RW (g i) (h i)
def RR (c : CS) (ρ : MS) : Prop := RLn (gcfr c) (gcRg c) (gmis ρ) (gmva ρ) ∧ (∀ i, RV (gcFl c i) (gmfI ρ i) (gmfV ρ i)) ∧ gcCl c = gmcl ρ ∧ gcBo c = gmbo ρ ∧ gcNe c = gmpl ρ ∧ (∀ i, 1 ≤ i → i < gcfr c → gcAn c i = 6 * (i - 1) + gmwa ρ i) ∧ (∀ i, gmwa ρ i < 6) ∧ gcPo c = gmou ρ ∧ gcCt c = gmct ρ ∧ gcfr c = gmfr ρ ∧ gcob c = gmob ρ ∧ gcrm c = gmrm ρ
def XR (c : CS) (ρ : MS) : Prop := RR c ρ ∧ PR c ρ ∧ SV c ρ
/-- .. between the runs: the class has left ended frames, the reference need not -/
def RZ (c : CS) (ρ : MS) : Prop := (∀ i, RW (gmis ρ i) (gmva ρ i)) ∧ (∀ i, RV (gcFl c i) (gmfI ρ i) (gmfV ρ i)) ∧ gcCl c = gmcl ρ ∧ gcBo c = gmbo ρ ∧ gcNe c = gmpl ρ ∧ True ∧ (∀ i, gmwa ρ i < 6) ∧ gcPo c = gmou ρ ∧ gcCt c = gmct ρ ∧ True ∧ gcob c = gmob ρ ∧ gcrm c = gmrm ρ
def XZ (c : CS) (ρ : MS) : Prop := RZ c ρ ∧ PR c ρ ∧ SV c ρ
theorem XZ_of {c : CS} {ρ : MS} (h : XR c ρ) : XZ c ρ := by
  obtain ⟨⟨r1, r2, r3, r4, r5, r6, r7, r8, r9, r10, r11, r12⟩, h2⟩ := h
  exact ⟨⟨fun i => (r1 i).2, r2, r3, r4, r5, trivial, r7, r8, r9, trivial, r11, r12⟩, h2⟩
/-- the class's program and verdicts stay -/
def KP (c d : CS) : Prop := gcP d = gcP c ∧ gcL d = gcL c ∧ gcK d = gcK c ∧ gcX d = gcX c ∧ gcY d = gcY c ∧ gcZ d = gcZ c ∧ gcn d = gcn c ∧ gcV d = gcV c ∧ gcsh d = gcsh c
/-- the reference's program and sites stay -/
def KM (ρ π : MS) : Prop := gmty π = gmty ρ ∧ gmmy π = gmmy ρ ∧ gmpa π = gmpa ρ ∧ gmcd π = gmcd ρ ∧ gmsi π = gmsi ρ ∧ gmrd π = gmrd ρ ∧ gmch π = gmch ρ
theorem KP_rf (c : CS) : KP c c := ⟨rfl, rfl, rfl, rfl, rfl, rfl, rfl, rfl, rfl⟩
theorem KM_rf (ρ : MS) : KM ρ ρ := ⟨rfl, rfl, rfl, rfl, rfl, rfl, rfl⟩
theorem KP_tr {a b c : CS} (h : KP a b) (k : KP b c) : KP a c := ⟨k.1.trans h.1, k.2.1.trans h.2.1, k.2.2.1.trans h.2.2.1, k.2.2.2.1.trans h.2.2.2.1, k.2.2.2.2.1.trans h.2.2.2.2.1, k.2.2.2.2.2.1.trans h.2.2.2.2.2.1, k.2.2.2.2.2.2.1.trans h.2.2.2.2.2.2.1, k.2.2.2.2.2.2.2.1.trans h.2.2.2.2.2.2.2.1, k.2.2.2.2.2.2.2.2.trans h.2.2.2.2.2.2.2.2⟩
theorem KM_tr {a b c : MS} (h : KM a b) (k : KM b c) : KM a c := ⟨k.1.trans h.1, k.2.1.trans h.2.1, k.2.2.1.trans h.2.2.1, k.2.2.2.1.trans h.2.2.2.1, k.2.2.2.2.1.trans h.2.2.2.2.1, k.2.2.2.2.2.1.trans h.2.2.2.2.2.1, k.2.2.2.2.2.2.trans h.2.2.2.2.2.2⟩
theorem PS_of {c d : CS} {ρ π : MS} (k : KP c d) (k2 : KM ρ π) (h : PR c ρ ∧ SV c ρ) : PR d π ∧ SV d π := by
  obtain ⟨e1, e2, e3, e4, e5, e6, e7, e8, e9⟩ := k
  obtain ⟨f1, f2, f3, f4, f5, f6, f7⟩ := k2
  obtain ⟨h1, h2⟩ := h
  unfold PR at h1 ⊢
  unfold SV siF at h2 ⊢
  rw [e1, e2, e3, e4, e5, e6, e7, e8, f1, f2, f3, f4, f5, f6, f7]
  exact ⟨h1, h2⟩
theorem XR_of {c d : CS} {ρ π : MS} (h : XR c ρ) (k : KP c d) (k2 : KM ρ π) (r : RR d π) : XR d π := ⟨r, PS_of k k2 h.2⟩
/-! the targets are the same -/
theorem tg_eq {c : CS} {ρ : MS} (h : PR c ρ) (t : Nat) {q : Nat} (hq : q < 4) : tgC c t q = tgM ρ t q := by
  obtain ⟨h1, h2, h3, h4, h5, h6, h7, h8⟩ := h
  have key : ∀ (f : Nat) (o : Option Nat), (∀ j, o = some j → j < gcn c) → tgtF (gcP c) (gcL c) q f o = mtgF (gmpa ρ) (gcL c) q f o := by
    intro f
    induction f with
    | zero => intro o _; cases o <;> rfl
    | succ f ih =>
      intro o ho
      cases o with
      | none => rfl
      | some a =>
        have ha := ho a rfl
        unfold tgtF mtgF
        rw [Nat.mul_comm a 4, h3 a ha, ih (gmpa ρ a) (fun j hj => by have := h6 a j hj; omega)]
  unfold tgC tgM
  rw [← h2]
  by_cases ht : t < gmty ρ
  · rw [if_pos ht]
    exact key 6 (some t) (fun j hj => by cases hj; omega)
  · rw [if_neg ht]
    unfold tgtF
    rw [if_neg (by rw [h5 (t * 4 + q) (by omega)]; decide), h4 t (by omega)]
    rfl
theorem is_eq {c : CS} {ρ : MS} (h : PR c ρ) (o : Nat) : ∀ (f : Nat) (a : Option Nat), isF (gcP c) o f a = misF (gmpa ρ) (gmty ρ) o f a := by
  obtain ⟨h1, h2, h3, h4, h5, h6, h7, h8⟩ := h
  intro f
  induction f with
  | zero => intro a; cases a <;> rfl
  | succ f ih =>
    intro a
    cases a with
    | none => rfl
    | some a =>
      unfold isF misF
      have e : gcP c a = if a < gmty ρ then gmpa ρ a else none := by
        by_cases ha : a < gmty ρ
        · rw [if_pos ha]; exact h3 a (by omega)
        · rw [if_neg ha]; exact h4 a (by omega)
      rw [e, ih]
theorem kM_eq {c : CS} {ρ : MS} (h : PR c ρ) (hI : PI c) (p : Nat) : kM ρ p = gcK c p := by
  unfold kM
  rw [(h.2.2.2.2.2.2.2 p).1, nI_clamp (by have := hI.2.2.1 p; omega)]
theorem xM_eq {c : CS} {ρ : MS} (h : PR c ρ) (hI : PI c) (p : Nat) : xM ρ p = gcX c p := by
  unfold xM
  rw [(h.2.2.2.2.2.2.2 p).2.1, nI_clamp (by have := hI.2.2.2.1 p; omega)]
theorem yM_eq {c : CS} {ρ : MS} (h : PR c ρ) (p : Nat) : yM ρ p = yN c p := by
  unfold yM yN
  rw [(h.2.2.2.2.2.2.2 p).2.2.1]
theorem zM_eq {c : CS} {ρ : MS} (h : PR c ρ) (p : Nat) : zM ρ p = zN c p := by
  unfold zM zN
  rw [(h.2.2.2.2.2.2.2 p).2.2.2]
theorem QI_of {c : CS} {ρ : MS} (h : PR c ρ) (hI : PI c) : QI ρ := ⟨h.2.2.2.2.2.1, fun i => by rw [← h.2.1]; exact hI.2.1 i, by rw [← h.1]; exact ⟨h.2.2.2.2.2.2.1, hI.2.2.2.2⟩⟩
theorem CI_of {c : CS} {ρ : MS} (h : PR c ρ) (hI : PI c) (hW : WI c) : CI ρ := fun p => by
  have e := h.2.2.2.2.2.2.2 p
  rw [kM_eq h hI, xM_eq h hI]
  refine ⟨⟨e.1, hI.2.2.1 p⟩, ⟨e.2.1, hI.2.2.2.1 p⟩, ?_⟩
  rw [e.2.2.1, e.2.2.2]
  exact hW p
theorem Kr_of {c : CS} {ρ : MS} (h : PR c ρ) (hI : PI c) (hW : WI c) : Kr ρ ρ := Kr_rf ⟨QI_of h hI, CI_of h hI hW⟩
theorem RV_n {v : Val} {b : Bool} {w : Int32} (h : RV v b w) (hv : ∀ k, v = .inr k → k < 401) (hb : b = true) : v = .inr w.toNatClampNeg ∧ w = nI w.toNatClampNeg ∧ w.toNatClampNeg < 401 := by
  cases v with
  | inl a => obtain ⟨h1, h2⟩ := h; rw [h1] at hb; cases hb
  | inr k =>
    obtain ⟨h1, h2⟩ := h
    have hk := hv k rfl
    subst h2
    rw [nI_clamp (by omega)]
    exact ⟨rfl, rfl, hk⟩
theorem RV_i {v : Val} {b : Bool} {w : Int32} (h : RV v b w) (hb : b = false) : v = .inl w := by
  cases v with
  | inl a => obtain ⟨h1, h2⟩ := h; rw [h2]
  | inr k => obtain ⟨h1, h2⟩ := h; rw [h1] at hb; cases hb
theorem RV_k {k : Nat} {b : Bool} {w : Int32} (h : RV (.inr k) b w) (hk : k < 401) : b = true ∧ w.toNatClampNeg = k := by
  obtain ⟨h1, h2⟩ := h
  subst h2
  exact ⟨h1, nI_clamp (by omega)⟩
theorem VI_of {c : CS} {ρ : MS} (h : XR c ρ) (hR : RI c) : VI ρ := by
  obtain ⟨⟨r1, r2, r3, r4, r5, r6, r7, r8, r9, r10, r11, r12⟩, hP, hV⟩ := h
  refine ⟨QI_of hP hR.1.1, ⟨?_, ?_, ?_, r7, hV.2⟩, ⟨?_, ?_⟩, ?_, ?_, ?_, ?_⟩
  · rw [← r3]; exact hR.2.2.1.2.2.2
  · rw [← r4]; exact hR.2.2.1.1
  · rw [← r5]; exact hR.2.2.1.2.1
  · exact fun i hi => (r1 i).2 hi
  · exact fun i hi => (RV_n (r2 i) (hR.2.2.2.1.2 i) hi).2
  · rw [← r9, ← r11]; exact hR.2.2.2.2.1
  · rw [← r10]; exact hR.2.2.2.2.2.1
  · rw [← r12]; exact hR.2.2.2.2.2.2.1
  · rw [← r11]; exact hR.2.2.2.2.2.2.2.1
/-! steps of both sides -/
theorem RV_W {v : Val} {b : Bool} {w : Int32} (h : RV v b w) (hv : ∀ k, v = .inr k → k < 401) : RW b w := fun hb => (RV_n h hv hb).2
theorem rv_up {f : Nat → Val} {g : Nat → Bool} {h : Nat → Int32} (H : ∀ i, RV (f i) (g i) (h i)) (x : Nat) {v : Val} {b : Bool} {w : Int32} (hv : RV v b w) : ∀ i, RV (va_up f x v i) (va_up g x b i) (va_up h x w i) := by
  intro i
  unfold va_up
  by_cases e : i = x
  · rw [if_pos e, if_pos e, if_pos e]; exact hv
  · rw [if_neg e, if_neg e, if_neg e]; exact H i
theorem rl_up {n : Nat} {f : Nat → Val} {g : Nat → Bool} {h : Nat → Int32} (H : RLn n f g h) (x : Nat) {v : Val} {b : Bool} {w : Int32} (hv : RV v b w) (hb : ∀ k, v = .inr k → k < 401) : RLn n (va_up f x v) (va_up g x b) (va_up h x w) := by
  intro i
  unfold va_up
  by_cases e : i = x
  · rw [if_pos e, if_pos e, if_pos e]; exact ⟨fun _ => hv, RV_W hv hb⟩
  · rw [if_neg e, if_neg e, if_neg e]; exact H i
theorem rr_tr {c : CS} {ρ : MS} {v : Nat} (h : RR c ρ) : RR (sctr c v) ρ := h
theorem kp_tr (c : CS) (v : Nat) : KP c (sctr c v) := ⟨rfl, rfl, rfl, rfl, rfl, rfl, rfl, rfl, rfl⟩
theorem x_tr {c : CS} {ρ : MS} (v : Nat) (h : XR c ρ) : XR (sctr c v) ρ := XR_of h (kp_tr c v) (KM_rf ρ) (rr_tr h.1)
theorem km_se (i : Nat) (b : Bool) (w : Int32) (ρ : MS) : KM ρ (seF i b w ρ) := ⟨q_seF_ty .., q_seF_my .., q_seF_pa .., q_seF_cd .., q_seF_si .., q_seF_rd .., q_seF_ch ..⟩
theorem x_se {c : CS} {ρ : MS} (h : XR c ρ) (i : Nat) {v : Val} {b : Bool} {w : Int32} (hv : RV v b w) (hb : ∀ k, v = .inr k → k < 401) : XR (scRg c (va_up (gcRg c) i v)) (seF i b w ρ) := by
  refine XR_of h ⟨rfl, rfl, rfl, rfl, rfl, rfl, rfl, rfl, rfl⟩ (km_se ..) ?_
  obtain ⟨r1, r2, r3, r4, r5, r6, r7, r8, r9, r10, r11, r12⟩ := h.1
  unfold RR
  rw [q_seF_is, q_seF_va, q_seF_fI, q_seF_fV, q_seF_cl, q_seF_bo, q_seF_pl, q_seF_wa, q_seF_ou, q_seF_ct, q_seF_fr, q_seF_ob, q_seF_rm]
  exact ⟨rl_up r1 i hv hb, r2, r3, r4, r5, r6, r7, r8, r9, r10, r11, r12⟩
theorem x_fl {c : CS} {ρ : MS} (h : XR c ρ) (i : Nat) {v : Val} {b : Bool} {w : Int32} (hv : RV v b w) : XR (scFl c (va_up (gcFl c) i v)) (smfV (smfI ρ (va_up (gmfI ρ) i b)) (va_up (gmfV ρ) i w)) := by
  refine XR_of h ⟨rfl, rfl, rfl, rfl, rfl, rfl, rfl, rfl, rfl⟩ ⟨by rw [hs_ty_fV, hs_ty_fI], by rw [hs_my_fV, hs_my_fI], by rw [hs_pa_fV, hs_pa_fI], by rw [hs_cd_fV, hs_cd_fI], by rw [hs_si_fV, hs_si_fI], by rw [hs_rd_fV, hs_rd_fI], by rw [hs_ch_fV, hs_ch_fI]⟩ ?_
  obtain ⟨r1, r2, r3, r4, r5, r6, r7, r8, r9, r10, r11, r12⟩ := h.1
  unfold RR
  rw [hs_is_fV, hs_va_fV, hs_fI_fV, hs_fV_fV, hs_cl_fV, hs_bo_fV, hs_pl_fV, hs_wa_fV, hs_ou_fV, hs_ct_fV, hs_fr_fV, hs_ob_fV, hs_rm_fV, hs_is_fI, hs_va_fI, hs_fI_fI, hs_cl_fI, hs_bo_fI, hs_pl_fI, hs_wa_fI, hs_ou_fI, hs_ct_fI, hs_fr_fI, hs_ob_fI, hs_rm_fI]
  exact ⟨r1, rv_up r2 i hv, r3, r4, r5, r6, r7, r8, r9, r10, r11, r12⟩
theorem kp_inc (j : Nat) (c : CS) : KP c (inc j c) := ⟨q_inc_P .., q_inc_L .., q_inc_K .., q_inc_X .., q_inc_Y .., q_inc_Z .., q_inc_n .., q_inc_V .., q_inc_sh ..⟩
theorem km_ic (j : Nat) (ρ : MS) : KM ρ (icM j ρ) := ⟨q_icM_ty .., q_icM_my .., q_icM_pa .., q_icM_cd .., q_icM_si .., q_icM_rd .., q_icM_ch ..⟩
theorem x_inc {c : CS} {ρ : MS} (j : Nat) (h : XR c ρ) : XR (inc j c) (icM j ρ) := by
  refine XR_of h (kp_inc ..) (km_ic ..) ?_
  obtain ⟨r1, r2, r3, r4, r5, r6, r7, r8, r9, r10, r11, r12⟩ := h.1
  unfold RR
  rw [q_inc_Rg, q_inc_Fl, q_inc_Cl, q_inc_Bo, q_inc_Ne, q_inc_An, q_inc_Po, q_inc_Ct, q_inc_fr, q_inc_ob, q_inc_rm, q_icM_is, q_icM_va, q_icM_fI, q_icM_fV, q_icM_cl, q_icM_bo, q_icM_pl, q_icM_wa, q_icM_ou, q_icM_ct, q_icM_fr, q_icM_ob, q_icM_rm, r9]
  exact ⟨r1, r2, r3, r4, r5, r6, r7, r8, rfl, r10, r11, r12⟩
theorem kp_nx (j : Nat) (c : CS) : KP c (nxF j c) := ⟨q_nxF_P .., q_nxF_L .., q_nxF_K .., q_nxF_X .., q_nxF_Y .., q_nxF_Z .., q_nxF_n .., q_nxF_V .., q_nxF_sh ..⟩
theorem km_nx (j : Nat) (ρ : MS) : KM ρ (nxM j ρ) := ⟨q_nxM_ty .., q_nxM_my .., q_nxM_pa .., q_nxM_cd .., q_nxM_si .., q_nxM_rd .., q_nxM_ch ..⟩
theorem x_nx {c : CS} {ρ : MS} (j : Nat) (h : XR c ρ) : XR (nxF j c) (nxM j ρ) := by
  refine XR_of h (kp_nx ..) (km_nx ..) ?_
  obtain ⟨r1, r2, r3, r4, r5, r6, r7, r8, r9, r10, r11, r12⟩ := h.1
  unfold RR
  rw [q_nxF_Rg, q_nxF_Fl, q_nxF_Cl, q_nxF_Bo, q_nxF_Ne, q_nxF_An, q_nxF_Po, q_nxF_Ct, q_nxF_fr, q_nxF_ob, q_nxF_rm, q_nxM_is, q_nxM_va, q_nxM_fI, q_nxM_fV, q_nxM_cl, q_nxM_bo, q_nxM_pl, q_nxM_wa, q_nxM_ou, q_nxM_ct, q_nxM_fr, q_nxM_ob, q_nxM_rm, r5]
  exact ⟨r1, r2, r3, r4, rfl, r6, r7, r8, r9, r10, r11, r12⟩
theorem rv_fill {f : Nat → Val} {g : Nat → Bool} {h : Nat → Int32} (H : ∀ i, RV (f i) (g i) (h i)) {a b x y : Nat} (ha : a = x) (hb : b = y) : ∀ i, RV (fillF f a b (.inl 0) i) (genF g x y (fun _ => false) i) (genF h x y (fun _ => 0) i) := by
  subst ha; subst hb
  intro i
  unfold fillF genF
  by_cases e : a ≤ i ∧ i < b
  · rw [if_pos e, if_pos e, if_pos e]; exact ⟨rfl, rfl⟩
  · rw [if_neg e, if_neg e, if_neg e]; exact H i
theorem kp_no (t : Nat) (c : CS) : KP c (noF t c) := ⟨q_noF_P .., q_noF_L .., q_noF_K .., q_noF_X .., q_noF_Y .., q_noF_Z .., q_noF_n .., q_noF_V .., q_noF_sh ..⟩
theorem km_mk (t : Nat) (b : Bool) (ρ : MS) : KM ρ (mk1 (mk0 t b ρ)) := ⟨by rw [q_mk1_ty, q_mk0_ty], by rw [q_mk1_my, q_mk0_my], by rw [q_mk1_pa, q_mk0_pa], by rw [q_mk1_cd, q_mk0_cd], by rw [q_mk1_si, q_mk0_si], by rw [q_mk1_rd, q_mk0_rd], by rw [q_mk1_ch, q_mk0_ch]⟩
theorem up_id {α : Type} (f : Nat → α) (k : Nat) : va_up f k (f k) = f := by
  funext i
  unfold va_up
  by_cases e : i = k
  · rw [if_pos e, e]
  · rw [if_neg e]
/-- an object is made; the room counts it or not -/
theorem x_no {c : CS} {ρ : MS} (t : Nat) (h : XR c ρ) : XR (noF t c) (mk1 (mk0 t true ρ)) := by
  refine XR_of h (kp_no ..) (km_mk ..) ?_
  obtain ⟨r1, r2, r3, r4, r5, r6, r7, r8, r9, r10, r11, r12⟩ := h.1
  unfold RR
  rw [q_noF_Rg, q_noF_Fl, q_noF_Cl, q_noF_Bo, q_noF_Ne, q_noF_An, q_noF_Po, q_noF_Ct, q_noF_fr, q_noF_ob, q_noF_rm, q_mk1_is, q_mk1_va, q_mk1_fI, q_mk1_fV, q_mk1_cl, q_mk1_bo, q_mk1_pl, q_mk1_wa, q_mk1_ou, q_mk1_ct, q_mk1_fr, q_mk1_ob, q_mk1_rm, q_mk0_is, q_mk0_va, q_mk0_fI, q_mk0_fV, q_mk0_cl, q_mk0_bo, q_mk0_pl, q_mk0_wa, q_mk0_ou, q_mk0_ct, q_mk0_fr, q_mk0_ob, q_mk0_rm, r11, r3]
  refine ⟨r1, rv_fill r2 (Nat.mul_comm _ _) (by rw [Nat.mul_comm]), rfl, r4, r5, r6, r7, r8, ?_, r10, rfl, r12⟩
  rw [r9, if_pos rfl, Nat.add_zero, up_id]
theorem x_ni {c : CS} {ρ : MS} (t : Nat) (h : XR c ρ) : XR (inc 1 (noF t c)) (mk1 (mk0 t false ρ)) := by
  refine XR_of h (KP_tr (kp_no t c) (kp_inc 1 _)) (km_mk ..) ?_
  obtain ⟨r1, r2, r3, r4, r5, r6, r7, r8, r9, r10, r11, r12⟩ := h.1
  unfold RR
  rw [q_inc_Rg, q_inc_Fl, q_inc_Cl, q_inc_Bo, q_inc_Ne, q_inc_An, q_inc_Po, q_inc_Ct, q_inc_fr, q_inc_ob, q_inc_rm, q_noF_Rg, q_noF_Fl, q_noF_Cl, q_noF_Bo, q_noF_Ne, q_noF_An, q_noF_Po, q_noF_Ct, q_noF_fr, q_noF_ob, q_noF_rm, q_mk1_is, q_mk1_va, q_mk1_fI, q_mk1_fV, q_mk1_cl, q_mk1_bo, q_mk1_pl, q_mk1_wa, q_mk1_ou, q_mk1_ct, q_mk1_fr, q_mk1_ob, q_mk1_rm, q_mk0_is, q_mk0_va, q_mk0_fI, q_mk0_fV, q_mk0_cl, q_mk0_bo, q_mk0_pl, q_mk0_wa, q_mk0_ou, q_mk0_ct, q_mk0_fr, q_mk0_ob, q_mk0_rm, r11, r3, r9]
  exact ⟨r1, rv_fill r2 (Nat.mul_comm _ _) (by rw [Nat.mul_comm]), rfl, r4, r5, r6, r7, r8, by rw [if_neg (by decide)], r10, rfl, r12⟩
theorem kp_en (b : Nat) (x y : Val) (c : CS) : KP c (enF b x y c) := ⟨q_enF_P .., q_enF_L .., q_enF_K .., q_enF_X .., q_enF_Y .., q_enF_Z .., q_enF_n .., q_enF_V .., q_enF_sh ..⟩
def esA (b : Nat) (v : Int32) (x : Bool) (w : Int32) (g : Nat) (ρ : MS) : MS := es2 b g (es1 v x w ρ)
theorem es_eq (b : Nat) (v : Int32) (x : Bool) (w : Int32) (g : Nat) (ρ : MS) : esF b v x w g ρ = es3 (esA b v x w g ρ) := rfl
theorem km_es (b : Nat) (v : Int32) (x : Bool) (w : Int32) (g : Nat) (ρ : MS) : KM ρ (esF b v x w g ρ) := by
  rw [es_eq, esA]
  exact ⟨by rw [q_es3_ty, q_es2_ty, q_es1_ty], by rw [q_es3_my, q_es2_my, q_es1_my], by rw [q_es3_pa, q_es2_pa, q_es1_pa], by rw [q_es3_cd, q_es2_cd, q_es1_cd], by rw [q_es3_si, q_es2_si, q_es1_si], by rw [q_es3_rd, q_es2_rd, q_es1_rd], by rw [q_es3_ch, q_es2_ch, q_es1_ch]⟩
theorem rv_en {f : Nat → Val} {g : Nat → Bool} {h : Nat → Int32} (a x : Nat) (hx : a = x) {v y : Val} {w : Int32} {b2 : Bool} {w2 : Int32} (hv : RV v true w) (hy : RV y b2 w2) : ∀ i, (i < a + 6 → i < a → RV (f i) (g i) (h i)) → i < a + 6 → RV (va_up (va_up (fillF f a (a + 6) (.inl 0)) a v) (a + 1) y i) (genF g x (x + 6) (eI b2) i) (genF h x (x + 6) (eV w w2) i) := by
  subst hx
  intro i H hi
  unfold va_up fillF genF eI eV
  by_cases e : a ≤ i ∧ i < a + 6
  · rw [if_pos e, if_pos e, if_pos e]
    by_cases e1 : i = a + 1
    · rw [if_pos e1, show i - a = 1 from (by omega)]
      exact hy
    · rw [if_neg e1]
      by_cases e0 : i = a
      · rw [if_pos e0, show i - a = 0 from (by omega)]
        exact hv
      · rw [if_neg e0, if_neg (show ¬ i - a = 0 from (by omega)), if_neg (show ¬ i - a = 1 from (by omega)), decide_eq_false (show ¬ i - a = 0 from (by omega)), decide_eq_false (show ¬ i - a = 1 from (by omega))]
        exact ⟨rfl, rfl⟩
  · rw [if_neg e, if_neg e, if_neg e, if_neg (show ¬ i = a + 1 from (by omega)), if_neg (show ¬ i = a from (by omega))]
    exact H hi (by omega)
theorem rw_en {g : Nat → Bool} {h : Nat → Int32} (H : ∀ i, RW (g i) (h i)) (x : Nat) {w : Int32} {b2 : Bool} {w2 : Int32} (hv : RW true w) (hy : RW b2 w2) : ∀ i, RW (genF g x (x + 6) (eI b2) i) (genF h x (x + 6) (eV w w2) i) := by
  intro i
  unfold genF eI eV
  by_cases e : x ≤ i ∧ i < x + 6
  · rw [if_pos e, if_pos e]
    by_cases e1 : i - x = 1
    · rw [e1]
      exact hy
    · by_cases e0 : i - x = 0
      · rw [e0]
        exact hv
      · rw [if_neg e0, if_neg e1, decide_eq_false e0, decide_eq_false e1]
        intro z
        cases z
  · rw [if_neg e, if_neg e]
    exact H i
theorem rl_en {n : Nat} {f : Nat → Val} {g : Nat → Bool} {h : Nat → Int32} (H : RLn n f g h) (a x : Nat) (hn : a = n * 6) (hx : a = x) {v y : Val} {w : Int32} {b2 : Bool} {w2 : Int32} (hv : RV v true w) (hy : RV y b2 w2) (hv2 : RW true w) (hy2 : RW b2 w2) : RLn (n + 1) (va_up (va_up (fillF f a (a + 6) (.inl 0)) a v) (a + 1) y) (genF g x (x + 6) (eI b2)) (genF h x (x + 6) (eV w w2)) := fun i =>
  ⟨fun hi => rv_en a x hx hv hy i (fun _ h2 => (H i).1 (by omega)) (by omega), rw_en (fun j => (H j).2) x hv2 hy2 i⟩
theorem es3_ct (τ : MS) : gmct (es3 τ) = va_up (gmct τ) 5 (max (gmct τ 5) (gmfr τ)) := by
  unfold es3
  by_cases h : gmct τ 5 < gmfr τ
  · rw [if_pos h, hs_ct_ct, Nat.max_eq_right (by omega)]
  · rw [if_neg h, Nat.max_eq_left (by omega), up_id]
/-- a frame comes: the class has noted where its answer goes -/
theorem x_en {c : CS} {ρ : MS} (b g : Nat) {x y : Val} {v : Int32} {b2 : Bool} {w : Int32} (h : XR c ρ) (hx : RV x true v) (hy : RV y b2 w) (hx2 : RW true v) (hy2 : RW b2 w) (hg : g < 6) (hAn : 1 ≤ gcfr c → gcAn c (gcfr c) = 6 * (gcfr c - 1) + g) : XR (enF b x y c) (esF b v b2 w g ρ) := by
  refine XR_of h (kp_en ..) (km_es ..) ?_
  obtain ⟨r1, r2, r3, r4, r5, r6, r7, r8, r9, r10, r11, r12⟩ := h.1
  rw [es_eq, esA]
  unfold RR
  rw [q_enF_Rg, q_enF_Fl, q_enF_Cl, q_enF_Bo, q_enF_Ne, q_enF_An, q_enF_Po, q_enF_Ct, q_enF_fr, q_enF_ob, q_enF_rm, es3_ct, q_es3_is, q_es3_va, q_es3_fI, q_es3_fV, q_es3_cl, q_es3_bo, q_es3_pl, q_es3_wa, q_es3_ou, q_es3_fr, q_es3_ob, q_es3_rm,
    q_es2_is, q_es2_va, q_es2_fI, q_es2_fV, q_es2_cl, q_es2_bo, q_es2_pl, q_es2_wa, q_es2_ou, q_es2_fr, q_es2_ob, q_es2_rm, q_es2_ct, q_es1_is, q_es1_va, q_es1_fI, q_es1_fV, q_es1_cl, q_es1_bo, q_es1_pl, q_es1_wa, q_es1_ou, q_es1_fr, q_es1_ob, q_es1_rm, q_es1_ct]
  refine ⟨rl_en r1 _ _ rfl (by rw [r10, Nat.mul_comm]) hx hy hx2 hy2, r2, r3, by rw [r4, r10], by rw [r5, r10], ?_, ?_, r8, by rw [r9, r10], by rw [r10], r11, r12⟩
  · intro i h1 h2
    by_cases e : i = gcfr c
    · subst e
      rw [← r10, va_up_self]
      exact hAn h1
    · rw [← r10, va_up_ne _ _ e]
      exact r6 i h1 (by omega)
  · intro i
    exact va_up_i _ _ _ i (fun z => z < 6) hg (r7 i)
/-- a frame goes -/
theorem x_an {c : CS} {ρ : MS} {v : Val} {b : Bool} {w : Int32} (h : XR c ρ) (hf : 0 < gcfr c) (hv : RV v b w) (hb : ∀ k, v = .inr k → k < 401) : XR (anF v c) (awF b w ρ) := by
  have hfr : ∀ n, n ≤ gcfr c → XR (scfr c n) (smfr ρ n) := fun n hn => by
    refine XR_of h ⟨rfl, rfl, rfl, rfl, rfl, rfl, rfl, rfl, rfl⟩ ⟨rfl, rfl, rfl, rfl, rfl, rfl, rfl⟩ ?_
    obtain ⟨r1, r2, r3, r4, r5, r6, r7, r8, r9, r10, r11, r12⟩ := h.1
    exact ⟨fun i => ⟨fun h1 => (r1 i).1 (Nat.lt_of_lt_of_le h1 (Nat.mul_le_mul_left 6 hn)), (r1 i).2⟩, r2, r3, r4, r5, fun i h1 h2 => r6 i h1 (Nat.lt_of_lt_of_le h2 hn), r7, r8, r9, rfl, r11, r12⟩
  have e10 := h.1.2.2.2.2.2.2.2.2.2.1
  unfold anF awF
  rw [← e10]
  by_cases h1 : 0 < gcfr c - 1
  · rw [if_pos h1, if_neg (by omega)]
    have hA := h.1.2.2.2.2.2.1 (gcfr c - 1) (by omega) (by omega)
    rw [hA]
    exact x_se (hfr _ (by omega)) _ hv hb
  · rw [if_neg h1, if_pos (by omega)]
    exact hfr _ (by omega)
theorem cc_mc {c : CS} {ρ : MS} (v : Nat) (h : XR c ρ) : XR (ccF v c) (mcF v ρ) := by
  unfold ccF mcF
  by_cases e : v = 2
  · rw [if_pos e, if_pos e]; exact x_inc 3 h
  · rw [if_neg e, if_neg e]
    by_cases e3 : v = 3
    · rw [if_pos e3, if_pos e3]; exact h
    · rw [if_neg e3, if_neg e3]; exact x_inc 3 (x_inc 2 h)
theorem x_sAn {c : CS} {ρ : MS} (h : XR c ρ) (g : Nat) : XR (scAn c (va_up (gcAn c) (gcfr c) g)) ρ := by
  refine XR_of h ⟨rfl, rfl, rfl, rfl, rfl, rfl, rfl, rfl, rfl⟩ (KM_rf ρ) ?_
  obtain ⟨r1, r2, r3, r4, r5, r6, r7, r8, r9, r10, r11, r12⟩ := h.1
  refine ⟨r1, r2, r3, r4, r5, fun i h1 h2 => ?_, r7, r8, r9, r10, r11, r12⟩
  rw [gs_An_An, va_up_ne _ _ (show i ≠ gcfr c from Nat.ne_of_lt h2)]
  exact r6 i h1 h2
/-- the class leaves a frame after the run's end -/
theorem XZ_an {c : CS} {ρ : MS} (v : Val) (h : XZ c ρ) : XZ (anF v c) ρ := by
  unfold anF
  split
  · exact ⟨h.1, (PS_of ⟨rfl, rfl, rfl, rfl, rfl, rfl, rfl, rfl, rfl⟩ (KM_rf ρ) h.2)⟩
  · exact ⟨h.1, (PS_of ⟨rfl, rfl, rfl, rfl, rfl, rfl, rfl, rfl, rfl⟩ (KM_rf ρ) h.2)⟩
theorem XZ_igL {ρ : MS} : ∀ (n : Nat) (c : CS), XZ c ρ → XZ (igL n c) ρ := by
  intro n
  induction n with
  | zero => intro c h; exact h
  | succ n ih =>
    intro c h
    unfold igL
    split
    · exact ih _ (XZ_an _ h)
    · exact h
