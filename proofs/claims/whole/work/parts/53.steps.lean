def SU (Q : CS → Prop) : Prop := (∀ τ v, Q τ → Q (scRg τ v)) ∧ (∀ τ v, Q τ → Q (scFl τ v)) ∧ (∀ τ v, Q τ → Q (scCl τ v)) ∧ (∀ τ v, Q τ → Q (scBo τ v)) ∧ (∀ τ v, Q τ → Q (scNe τ v)) ∧ (∀ τ v, Q τ → Q (scAn τ v)) ∧ (∀ τ v, Q τ → Q (scPo τ v)) ∧ (∀ τ v, Q τ → Q (scCt τ v)) ∧ (∀ τ v, Q τ → Q (scfr τ v)) ∧ (∀ τ v, Q τ → Q (scob τ v)) ∧ (∀ τ v, Q τ → Q (scrm τ v)) ∧ (∀ τ v, Q τ → Q (sctr τ v)) ∧ (∀ τ v, Q τ → Q (scsh τ v))
theorem su_Rg {Q : CS → Prop} (h : SU Q) {τ : CS} {v : _} (q : Q τ) : Q (scRg τ v) := h.1 τ v q
theorem su_Fl {Q : CS → Prop} (h : SU Q) {τ : CS} {v : _} (q : Q τ) : Q (scFl τ v) := h.2.1 τ v q
theorem su_Cl {Q : CS → Prop} (h : SU Q) {τ : CS} {v : _} (q : Q τ) : Q (scCl τ v) := h.2.2.1 τ v q
theorem su_Bo {Q : CS → Prop} (h : SU Q) {τ : CS} {v : _} (q : Q τ) : Q (scBo τ v) := h.2.2.2.1 τ v q
theorem su_Ne {Q : CS → Prop} (h : SU Q) {τ : CS} {v : _} (q : Q τ) : Q (scNe τ v) := h.2.2.2.2.1 τ v q
theorem su_An {Q : CS → Prop} (h : SU Q) {τ : CS} {v : _} (q : Q τ) : Q (scAn τ v) := h.2.2.2.2.2.1 τ v q
theorem su_Po {Q : CS → Prop} (h : SU Q) {τ : CS} {v : _} (q : Q τ) : Q (scPo τ v) := h.2.2.2.2.2.2.1 τ v q
theorem su_Ct {Q : CS → Prop} (h : SU Q) {τ : CS} {v : _} (q : Q τ) : Q (scCt τ v) := h.2.2.2.2.2.2.2.1 τ v q
theorem su_fr {Q : CS → Prop} (h : SU Q) {τ : CS} {v : _} (q : Q τ) : Q (scfr τ v) := h.2.2.2.2.2.2.2.2.1 τ v q
theorem su_ob {Q : CS → Prop} (h : SU Q) {τ : CS} {v : _} (q : Q τ) : Q (scob τ v) := h.2.2.2.2.2.2.2.2.2.1 τ v q
theorem su_rm {Q : CS → Prop} (h : SU Q) {τ : CS} {v : _} (q : Q τ) : Q (scrm τ v) := h.2.2.2.2.2.2.2.2.2.2.1 τ v q
theorem su_tr {Q : CS → Prop} (h : SU Q) {τ : CS} {v : _} (q : Q τ) : Q (sctr τ v) := h.2.2.2.2.2.2.2.2.2.2.2.1 τ v q
theorem su_sh {Q : CS → Prop} (h : SU Q) {τ : CS} {v : _} (q : Q τ) : Q (scsh τ v) := h.2.2.2.2.2.2.2.2.2.2.2.2 τ v q
def TU (Q : MS → Prop) : Prop := (∀ τ v, Q τ → Q (smth τ v)) ∧ (∀ τ v, Q τ → Q (smis τ v)) ∧ (∀ τ v, Q τ → Q (smva τ v)) ∧ (∀ τ v, Q τ → Q (smfI τ v)) ∧ (∀ τ v, Q τ → Q (smfV τ v)) ∧ (∀ τ v, Q τ → Q (smcl τ v)) ∧ (∀ τ v, Q τ → Q (smbo τ v)) ∧ (∀ τ v, Q τ → Q (smpl τ v)) ∧ (∀ τ v, Q τ → Q (smwa τ v)) ∧ (∀ τ v, Q τ → Q (smou τ v)) ∧ (∀ τ v, Q τ → Q (smct τ v)) ∧ (∀ τ v, Q τ → Q (smfr τ v)) ∧ (∀ τ v, Q τ → Q (smob τ v)) ∧ (∀ τ v, Q τ → Q (smrm τ v))
theorem tu_th {Q : MS → Prop} (h : TU Q) {τ : MS} {v : _} (q : Q τ) : Q (smth τ v) := h.1 τ v q
theorem tu_is {Q : MS → Prop} (h : TU Q) {τ : MS} {v : _} (q : Q τ) : Q (smis τ v) := h.2.1 τ v q
theorem tu_va {Q : MS → Prop} (h : TU Q) {τ : MS} {v : _} (q : Q τ) : Q (smva τ v) := h.2.2.1 τ v q
theorem tu_fI {Q : MS → Prop} (h : TU Q) {τ : MS} {v : _} (q : Q τ) : Q (smfI τ v) := h.2.2.2.1 τ v q
theorem tu_fV {Q : MS → Prop} (h : TU Q) {τ : MS} {v : _} (q : Q τ) : Q (smfV τ v) := h.2.2.2.2.1 τ v q
theorem tu_cl {Q : MS → Prop} (h : TU Q) {τ : MS} {v : _} (q : Q τ) : Q (smcl τ v) := h.2.2.2.2.2.1 τ v q
theorem tu_bo {Q : MS → Prop} (h : TU Q) {τ : MS} {v : _} (q : Q τ) : Q (smbo τ v) := h.2.2.2.2.2.2.1 τ v q
theorem tu_pl {Q : MS → Prop} (h : TU Q) {τ : MS} {v : _} (q : Q τ) : Q (smpl τ v) := h.2.2.2.2.2.2.2.1 τ v q
theorem tu_wa {Q : MS → Prop} (h : TU Q) {τ : MS} {v : _} (q : Q τ) : Q (smwa τ v) := h.2.2.2.2.2.2.2.2.1 τ v q
theorem tu_ou {Q : MS → Prop} (h : TU Q) {τ : MS} {v : _} (q : Q τ) : Q (smou τ v) := h.2.2.2.2.2.2.2.2.2.1 τ v q
theorem tu_ct {Q : MS → Prop} (h : TU Q) {τ : MS} {v : _} (q : Q τ) : Q (smct τ v) := h.2.2.2.2.2.2.2.2.2.2.1 τ v q
theorem tu_fr {Q : MS → Prop} (h : TU Q) {τ : MS} {v : _} (q : Q τ) : Q (smfr τ v) := h.2.2.2.2.2.2.2.2.2.2.2.1 τ v q
theorem tu_ob {Q : MS → Prop} (h : TU Q) {τ : MS} {v : _} (q : Q τ) : Q (smob τ v) := h.2.2.2.2.2.2.2.2.2.2.2.2.1 τ v q
theorem tu_rm {Q : MS → Prop} (h : TU Q) {τ : MS} {v : _} (q : Q τ) : Q (smrm τ v) := h.2.2.2.2.2.2.2.2.2.2.2.2.2 τ v q
theorem su_no {Q : CS → Prop} (h : SU Q) {τ : CS} (t : Nat) (q : Q τ) : Q (noF t τ) := su_Fl h (su_Cl h (su_ob h q))
theorem su_inc {Q : CS → Prop} (h : SU Q) {τ : CS} (j : Nat) (q : Q τ) : Q (inc j τ) := su_Ct h q
theorem su_mk2 {Q : CS → Prop} (h : SU Q) {τ : CS} (t r : Nat) (q : Q τ) : Q (mk2 t r τ) := su_Rg h (su_no h t q)
theorem su_mkF {Q : CS → Prop} (h : SU Q) {τ : CS} (pl r : Nat) (q : Q τ) : Q (mkF pl r τ) := by
  unfold mkF
  split
  · exact su_mk2 h _ _ q
  · split
    · exact su_tr h q
    · exact su_mk2 h _ _ (su_inc h 1 q)
theorem su_rk {Q : CS → Prop} (h : SU Q) {τ : CS} (pl ba : Nat) (q : Q τ) : Q (rkF pl ba τ) := by
  unfold rkF
  split
  · split
    · exact su_Rg h q
    · exact su_Rg h q
  · exact su_tr h q
theorem su_rf {Q : CS → Prop} (h : SU Q) {τ : CS} (pl ba : Nat) (q : Q τ) : Q (rfF pl ba τ) := by
  unfold rfF
  split
  · exact su_Rg h q
  · exact su_tr h q
theorem su_wf {Q : CS → Prop} (h : SU Q) {τ : CS} (pl ba : Nat) (q : Q τ) : Q (wfF2 pl ba τ) := by
  unfold wfF2
  split
  · exact su_Fl h q
  · exact su_tr h q
theorem su_cc {Q : CS → Prop} (h : SU Q) {τ : CS} (v : Nat) (q : Q τ) : Q (ccF v τ) := by
  unfold ccF
  split
  · exact su_inc h 3 q
  · split
    · exact q
    · exact su_inc h 3 (su_inc h 2 q)
theorem su_en {Q : CS → Prop} (h : SU Q) {τ : CS} (b : Nat) (x y : Val) (q : Q τ) : Q (enF b x y τ) := su_Ct h (su_fr h (su_Ne h (su_Bo h (su_Rg h q))))
theorem su_sd {Q : CS → Prop} (h : SU Q) {τ : CS} (pl ba : Nat) (q : Q τ) : Q (sdF pl ba τ) := by
  unfold sdF
  split
  · exact su_tr h q
  · split
    · exact su_tr h q
    · split
      · exact su_tr h q
      · exact su_en h _ _ _ (su_An h (su_cc h _ q))
theorem su_an {Q : CS → Prop} (h : SU Q) {τ : CS} (v : Val) (q : Q τ) : Q (anF v τ) := by
  unfold anF
  split
  · exact su_Rg h (su_fr h q)
  · exact su_fr h q
theorem su_pr {Q : CS → Prop} (h : SU Q) {τ : CS} (v : Val) (q : Q τ) : Q (prF v τ) := by
  unfold prF
  split
  · exact su_tr h q
  · exact su_inc h 0 (su_Po h q)
theorem su_ck {Q : CS → Prop} (h : SU Q) {τ : CS} (v : Val) (t : Nat) (q : Q τ) : Q (ckF v t τ) := by
  unfold ckF
  split
  · exact su_tr h q
  · split
    · exact q
    · exact su_tr h q
theorem su_sk {Q : CS → Prop} (h : SU Q) {τ : CS} (pl x : Nat) (q : Q τ) : Q (skF pl x τ) := by
  unfold skF
  split
  · exact su_Ne h q
  · exact q
theorem su_pf {Q : CS → Prop} (h : SU Q) {τ : CS} (pl ba : Nat) (q : Q τ) : Q (pfF pl ba τ) := by
  unfold pfF
  split
  · exact su_Rg h q
  · exact su_Rg h q
  · exact su_rk h _ _ q
  · exact su_rk h _ _ q
  · exact su_mkF h _ _ q
  · exact su_rf h _ _ q
  · exact su_wf h _ _ q
  · exact su_sd h _ _ q
  · exact su_pr h _ q
  · exact su_sk h _ _ q
  · exact su_ck h _ _ q
  · exact su_an h _ q
theorem su_st {Q : CS → Prop} (h : SU Q) {τ : CS} (q : Q τ) : Q (stF τ) := by
  unfold stF
  split
  · exact su_tr h q
  · exact su_pf h _ _ (su_Ne h (su_inc h 4 q))
theorem su_igL {Q : CS → Prop} (h : SU Q) : ∀ (n : Nat) (τ : CS), Q τ → Q (igL n τ) := by
  intro n
  induction n with
  | zero => intro τ q; exact q
  | succ n ih =>
    intro τ q
    rw [igL]
    split
    · exact ih _ (su_an h _ q)
    · exact q
theorem su_bg {Q : CS → Prop} (h : SU Q) {τ : CS} (q : Q τ) : Q (bgF τ) := by
  unfold bgF
  split
  · exact su_tr h q
  · split
    · exact su_tr h (su_inc h 1 (su_no h 0 q))
    · exact su_en h _ _ _ (su_inc h 3 (su_inc h 1 (su_no h 0 q)))
theorem su_exL {Q : CS → Prop} (h : SU Q) : ∀ (n : Nat) (τ : CS), Q τ → Q (exL n τ) := by
  intro n
  induction n with
  | zero => intro τ q; exact q
  | succ n ih =>
    intro τ q
    rw [exL]
    split
    · exact ih _ (su_igL h _ _ (su_st h q))
    · exact q
theorem su_ex {Q : CS → Prop} (h : SU Q) {τ : CS} (b : Bool) (n : Nat) (q : Q τ) : Q (exF b n τ) := su_exL h _ _ (su_bg h (su_Ct h (su_tr h (su_ob h (su_fr h (su_rm h (su_sh h q)))))))
theorem tu_ic {Q : MS → Prop} (h : TU Q) {τ : MS} (j : Nat) (q : Q τ) : Q (icM j τ) := tu_ct h q
theorem tu_se {Q : MS → Prop} (h : TU Q) {τ : MS} (i : Nat) (b : Bool) (v : Int32) (q : Q τ) : Q (seF i b v τ) := tu_va h (tu_is h q)
theorem tu_pu {Q : MS → Prop} (h : TU Q) {τ : MS} (i : Nat) (q : Q τ) : Q (puF i τ) := by
  unfold puF
  split
  · exact q
  · exact tu_ct h (tu_ou h q)
theorem tu_ma {Q : MS → Prop} (h : TU Q) {τ : MS} (t : Nat) (b : Bool) (q : Q τ) : Q (maF t b τ) := by
  unfold maF
  split
  · exact q
  · exact tu_ob h (tu_fV h (tu_fI h (tu_cl h (tu_ct h q))))
theorem tu_nw {Q : MS → Prop} (h : TU Q) {τ : MS} (z i t : Nat) (q : Q τ) : Q (nwF z i t τ) := by
  unfold nwF
  split
  · exact tu_ma h _ _ q
  · exact tu_se h _ _ _ (tu_ma h _ _ q)
theorem tu_su {Q : MS → Prop} (h : TU Q) {τ : MS} (ba : Nat) (b : Bool) (x y z : Nat) (q : Q τ) : Q (suF ba b x y z τ) := by
  unfold suF
  split
  · exact q
  · exact tu_se h _ _ _ q
theorem tu_mc {Q : MS → Prop} (h : TU Q) {τ : MS} (v : Nat) (q : Q τ) : Q (mcF v τ) := by
  unfold mcF
  split
  · exact tu_ic h 3 q
  · split
    · exact q
    · exact tu_ic h 3 (tu_ic h 2 q)
theorem tu_e3 {Q : MS → Prop} (h : TU Q) {τ : MS} (q : Q τ) : Q (es3 τ) := by
  unfold es3
  split
  · exact tu_ct h q
  · exact q
theorem tu_es {Q : MS → Prop} (h : TU Q) {τ : MS} (b : Nat) (v : Int32) (x : Bool) (w : Int32) (g : Nat) (q : Q τ) : Q (esF b v x w g τ) := tu_e3 h (tu_fr h (tu_wa h (tu_pl h (tu_bo h (tu_va h (tu_is h q))))))
theorem tu_cl2 {Q : MS → Prop} (h : TU Q) {τ : MS} (z ba x y k : Nat) (q : Q τ) : Q (clF z ba x y k τ) := by
  unfold clF
  split
  · split
    · exact q
    · split
      · exact q
      · exact tu_es h _ _ _ _ _ (tu_mc h _ q)
  · exact q
theorem tu_aw {Q : MS → Prop} (h : TU Q) {τ : MS} (b : Bool) (v : Int32) (q : Q τ) : Q (awF b v τ) := by
  unfold awF
  split
  · exact tu_fr h q
  · exact tu_se h _ _ _ (tu_fr h q)
theorem tu_dp {Q : MS → Prop} (h : TU Q) {τ : MS} (ba p z f : Nat) (q : Q τ) : Q (dpF ba p z f τ) := by
  unfold dpF
  split
  · exact tu_se h _ _ _ q
  · exact tu_se h _ _ _ q
  · exact tu_su h _ _ _ _ _ q
  · exact tu_su h _ _ _ _ _ q
  · exact tu_nw h _ _ _ q
  · split
    · exact tu_se h _ _ _ q
    · exact q
  · split
    · exact tu_fV h (tu_fI h q)
    · exact q
  · exact tu_cl2 h _ _ _ _ _ q
  · exact tu_pu h _ q
  · split
    · exact tu_pl h q
    · exact q
  · exact q
  · exact tu_aw h _ _ q
theorem tu_do {Q : MS → Prop} (h : TU Q) {τ : MS} (sh : Bool) (q : Q τ) : Q (doF sh τ) := tu_dp h _ _ _ _ (tu_pl h q)
theorem tu_rnL {Q : MS → Prop} (h : TU Q) : ∀ (n : Nat) (sh : Bool) (τ : MS), Q τ → Q (rnL n sh τ).2 := by
  intro n
  induction n with
  | zero => intro sh τ q; exact q
  | succ n ih =>
    intro sh τ q
    rw [rnL]
    split
    · exact q
    · split
      · exact ih _ _ (tu_aw h _ _ q)
      · split
        · exact q
        · split
          · exact ih _ _ (tu_do h sh (tu_ic h 4 q))
          · exact tu_do h sh (tu_ic h 4 q)
theorem tu_mr {Q : MS → Prop} (h : TU Q) {τ : MS} (sh : Bool) (n : Nat) (q : Q τ) : Q (mrF sh n τ).2 := by
  have q0 : Q (rn0 n τ) := tu_rm h (tu_fr h (tu_ob h (tu_ct h (tu_th h q))))
  have q1 : Q (maF 0 false (rn0 n τ)) := tu_ma h _ _ q0
  unfold mrF
  split
  · exact q1
  · unfold mrB
    split
    · exact q1
    · exact tu_rnL h _ _ _ (tu_es h _ _ _ _ _ (tu_ic h 3 q1))
theorem run_li {c : CS} {ρ : MS} (h : Nat) (sh : Bool) (hL : LI c ρ) (hh : h ≤ 60) : (mrF sh h ρ).1 = gctr (exF sh h c) ∧ LI (exF sh h c) (mrF sh h ρ).2 := by
  have r := run_top sh hL.1 hL.2.1 hh
  have e1 : gcma (exF sh h c) = gcma c ∧ gcre (exF sh h c) = gcre c := su_ex (Q := fun x => gcma x = gcma c ∧ gcre x = gcre c) ⟨fun _ _ q => q, fun _ _ q => q, fun _ _ q => q, fun _ _ q => q, fun _ _ q => q, fun _ _ q => q, fun _ _ q => q, fun _ _ q => q, fun _ _ q => q, fun _ _ q => q, fun _ _ q => q, fun _ _ q => q, fun _ _ q => q⟩ sh h ⟨rfl, rfl⟩
  have e2 : gmmd (mrF sh h ρ).2 = gmmd ρ ∧ gmrd (mrF sh h ρ).2 = gmrd ρ := tu_mr (Q := fun x => gmmd x = gmmd ρ ∧ gmrd x = gmrd ρ) ⟨fun _ _ q => q, fun _ _ q => q, fun _ _ q => q, fun _ _ q => q, fun _ _ q => q, fun _ _ q => q, fun _ _ q => q, fun _ _ q => q, fun _ _ q => q, fun _ _ q => q, fun _ _ q => q, fun _ _ q => q, fun _ _ q => q, fun _ _ q => q⟩ sh h ⟨rfl, rfl⟩
  refine ⟨r.1, r.2.1, r.2.2, ?_⟩
  unfold BR
  rw [e1.1, e1.2, e2.1, e2.2]
  exact hL.2.2
theorem li_th {c : CS} {ρ : MS} (v : Nat) (h : LI c ρ) : LI c (smth ρ v) := h
def tyC (o : Option Nat) (σ : CS) : CS := scn (scP σ (va_up (gcP σ) (gcn σ) o)) (gcn σ + 1)
def tyM (o : Option Nat) (σ : MS) : MS := smty (smpa (smth σ (thF false false)) (va_up (gmpa σ) (gmty σ) o)) (gmty σ + 1)
def fgC (b : Nat) (σ : CS) : CS := scV σ (fillF (gcV σ) (b * 10 + 0) ((b * 10 + 0) + 10) 0)
def apC (b k x : Nat) (y z : Int32) (σ : CS) : CS := scL (scZ (scY (scX (scK σ (va_up (gcK σ) (b * 10 + gcL σ b) k)) (va_up (gcX σ) (b * 10 + gcL σ b) x)) (va_up (gcY σ) (b * 10 + gcL σ b) y)) (va_up (gcZ σ) (b * 10 + gcL σ b) z)) (va_up (gcL σ) b (gcL σ b + 1))
def emC (b : Nat) (σ : CS) : CS := scL σ (va_up (gcL σ) b 0)
def stM (b : Nat) (σ : MS) : MS := smch (smmy (smth σ (thF false false)) (va_up (gmmy σ) b 0)) (va_up (gmch σ) b (gmch σ b || decide (0 < gmmy σ b)))
theorem q_tyC_P (o : Option Nat) (σ : CS) : gcP (tyC o σ) = va_up (gcP σ) (gcn σ) o := by unfold tyC; rw [gs_P_n, gs_P_P]
theorem q_tyC_L (o : Option Nat) (σ : CS) : gcL (tyC o σ) = gcL σ := by unfold tyC; rw [gs_L_n, gs_L_P]
theorem q_tyC_K (o : Option Nat) (σ : CS) : gcK (tyC o σ) = gcK σ := by unfold tyC; rw [gs_K_n, gs_K_P]
theorem q_tyC_X (o : Option Nat) (σ : CS) : gcX (tyC o σ) = gcX σ := by unfold tyC; rw [gs_X_n, gs_X_P]
theorem q_tyC_Y (o : Option Nat) (σ : CS) : gcY (tyC o σ) = gcY σ := by unfold tyC; rw [gs_Y_n, gs_Y_P]
theorem q_tyC_Z (o : Option Nat) (σ : CS) : gcZ (tyC o σ) = gcZ σ := by unfold tyC; rw [gs_Z_n, gs_Z_P]
theorem q_tyC_n (o : Option Nat) (σ : CS) : gcn (tyC o σ) = gcn σ + 1 := by unfold tyC; rw [gs_n_n]
theorem q_tyC_V (o : Option Nat) (σ : CS) : gcV (tyC o σ) = gcV σ := by unfold tyC; rw [gs_V_n, gs_V_P]
theorem q_tyC_CV (o : Option Nat) (σ : CS) : gcCV (tyC o σ) = gcCV σ := by unfold tyC; rw [gs_CV_n, gs_CV_P]
theorem q_tyC_ma (o : Option Nat) (σ : CS) : gcma (tyC o σ) = gcma σ := by unfold tyC; rw [gs_ma_n, gs_ma_P]
theorem q_tyC_re (o : Option Nat) (σ : CS) : gcre (tyC o σ) = gcre σ := by unfold tyC; rw [gs_re_n, gs_re_P]
theorem q_tyC_ca (o : Option Nat) (σ : CS) : gcca (tyC o σ) = gcca σ := by unfold tyC; rw [gs_ca_n, gs_ca_P]
theorem q_tyC_Rg (o : Option Nat) (σ : CS) : gcRg (tyC o σ) = gcRg σ := by unfold tyC; rw [gs_Rg_n, gs_Rg_P]
theorem q_tyC_Bo (o : Option Nat) (σ : CS) : gcBo (tyC o σ) = gcBo σ := by unfold tyC; rw [gs_Bo_n, gs_Bo_P]
theorem q_tyC_Ne (o : Option Nat) (σ : CS) : gcNe (tyC o σ) = gcNe σ := by unfold tyC; rw [gs_Ne_n, gs_Ne_P]
theorem q_tyC_An (o : Option Nat) (σ : CS) : gcAn (tyC o σ) = gcAn σ := by unfold tyC; rw [gs_An_n, gs_An_P]
theorem q_tyC_Cl (o : Option Nat) (σ : CS) : gcCl (tyC o σ) = gcCl σ := by unfold tyC; rw [gs_Cl_n, gs_Cl_P]
theorem q_tyC_Fl (o : Option Nat) (σ : CS) : gcFl (tyC o σ) = gcFl σ := by unfold tyC; rw [gs_Fl_n, gs_Fl_P]
theorem q_tyC_Po (o : Option Nat) (σ : CS) : gcPo (tyC o σ) = gcPo σ := by unfold tyC; rw [gs_Po_n, gs_Po_P]
theorem q_tyC_Ct (o : Option Nat) (σ : CS) : gcCt (tyC o σ) = gcCt σ := by unfold tyC; rw [gs_Ct_n, gs_Ct_P]
theorem q_tyC_sh (o : Option Nat) (σ : CS) : gcsh (tyC o σ) = gcsh σ := by unfold tyC; rw [gs_sh_n, gs_sh_P]
theorem q_tyC_rm (o : Option Nat) (σ : CS) : gcrm (tyC o σ) = gcrm σ := by unfold tyC; rw [gs_rm_n, gs_rm_P]
theorem q_tyC_fr (o : Option Nat) (σ : CS) : gcfr (tyC o σ) = gcfr σ := by unfold tyC; rw [gs_fr_n, gs_fr_P]
theorem q_tyC_ob (o : Option Nat) (σ : CS) : gcob (tyC o σ) = gcob σ := by unfold tyC; rw [gs_ob_n, gs_ob_P]
theorem q_tyC_tr (o : Option Nat) (σ : CS) : gctr (tyC o σ) = gctr σ := by unfold tyC; rw [gs_tr_n, gs_tr_P]
theorem q_tyM_th (o : Option Nat) (σ : MS) : gmth (tyM o σ) = thF false false := by unfold tyM; rw [hs_th_ty, hs_th_pa, hs_th_th]
theorem q_tyM_ty (o : Option Nat) (σ : MS) : gmty (tyM o σ) = gmty σ + 1 := by unfold tyM; rw [hs_ty_ty]
theorem q_tyM_pa (o : Option Nat) (σ : MS) : gmpa (tyM o σ) = va_up (gmpa σ) (gmty σ) o := by unfold tyM; rw [hs_pa_ty, hs_pa_pa]
theorem q_tyM_my (o : Option Nat) (σ : MS) : gmmy (tyM o σ) = gmmy σ := by unfold tyM; rw [hs_my_ty, hs_my_pa, hs_my_th]
theorem q_tyM_cd (o : Option Nat) (σ : MS) : gmcd (tyM o σ) = gmcd σ := by unfold tyM; rw [hs_cd_ty, hs_cd_pa, hs_cd_th]
theorem q_tyM_md (o : Option Nat) (σ : MS) : gmmd (tyM o σ) = gmmd σ := by unfold tyM; rw [hs_md_ty, hs_md_pa, hs_md_th]
theorem q_tyM_rd (o : Option Nat) (σ : MS) : gmrd (tyM o σ) = gmrd σ := by unfold tyM; rw [hs_rd_ty, hs_rd_pa, hs_rd_th]
theorem q_tyM_ch (o : Option Nat) (σ : MS) : gmch (tyM o σ) = gmch σ := by unfold tyM; rw [hs_ch_ty, hs_ch_pa, hs_ch_th]
theorem q_tyM_si (o : Option Nat) (σ : MS) : gmsi (tyM o σ) = gmsi σ := by unfold tyM; rw [hs_si_ty, hs_si_pa, hs_si_th]
theorem q_tyM_ho (o : Option Nat) (σ : MS) : gmho (tyM o σ) = gmho σ := by unfold tyM; rw [hs_ho_ty, hs_ho_pa, hs_ho_th]
theorem q_tyM_ob (o : Option Nat) (σ : MS) : gmob (tyM o σ) = gmob σ := by unfold tyM; rw [hs_ob_ty, hs_ob_pa, hs_ob_th]
theorem q_tyM_rm (o : Option Nat) (σ : MS) : gmrm (tyM o σ) = gmrm σ := by unfold tyM; rw [hs_rm_ty, hs_rm_pa, hs_rm_th]
theorem q_tyM_cl (o : Option Nat) (σ : MS) : gmcl (tyM o σ) = gmcl σ := by unfold tyM; rw [hs_cl_ty, hs_cl_pa, hs_cl_th]
theorem q_tyM_fI (o : Option Nat) (σ : MS) : gmfI (tyM o σ) = gmfI σ := by unfold tyM; rw [hs_fI_ty, hs_fI_pa, hs_fI_th]
theorem q_tyM_fV (o : Option Nat) (σ : MS) : gmfV (tyM o σ) = gmfV σ := by unfold tyM; rw [hs_fV_ty, hs_fV_pa, hs_fV_th]
theorem q_tyM_fr (o : Option Nat) (σ : MS) : gmfr (tyM o σ) = gmfr σ := by unfold tyM; rw [hs_fr_ty, hs_fr_pa, hs_fr_th]
theorem q_tyM_bo (o : Option Nat) (σ : MS) : gmbo (tyM o σ) = gmbo σ := by unfold tyM; rw [hs_bo_ty, hs_bo_pa, hs_bo_th]
theorem q_tyM_pl (o : Option Nat) (σ : MS) : gmpl (tyM o σ) = gmpl σ := by unfold tyM; rw [hs_pl_ty, hs_pl_pa, hs_pl_th]
theorem q_tyM_wa (o : Option Nat) (σ : MS) : gmwa (tyM o σ) = gmwa σ := by unfold tyM; rw [hs_wa_ty, hs_wa_pa, hs_wa_th]
theorem q_tyM_is (o : Option Nat) (σ : MS) : gmis (tyM o σ) = gmis σ := by unfold tyM; rw [hs_is_ty, hs_is_pa, hs_is_th]
theorem q_tyM_va (o : Option Nat) (σ : MS) : gmva (tyM o σ) = gmva σ := by unfold tyM; rw [hs_va_ty, hs_va_pa, hs_va_th]
theorem q_tyM_ou (o : Option Nat) (σ : MS) : gmou (tyM o σ) = gmou σ := by unfold tyM; rw [hs_ou_ty, hs_ou_pa, hs_ou_th]
theorem q_tyM_ct (o : Option Nat) (σ : MS) : gmct (tyM o σ) = gmct σ := by unfold tyM; rw [hs_ct_ty, hs_ct_pa, hs_ct_th]
theorem q_fgC_P (b : Nat) (σ : CS) : gcP (fgC b σ) = gcP σ := by unfold fgC; rw [gs_P_V]
theorem q_fgC_L (b : Nat) (σ : CS) : gcL (fgC b σ) = gcL σ := by unfold fgC; rw [gs_L_V]
theorem q_fgC_K (b : Nat) (σ : CS) : gcK (fgC b σ) = gcK σ := by unfold fgC; rw [gs_K_V]
theorem q_fgC_X (b : Nat) (σ : CS) : gcX (fgC b σ) = gcX σ := by unfold fgC; rw [gs_X_V]
theorem q_fgC_Y (b : Nat) (σ : CS) : gcY (fgC b σ) = gcY σ := by unfold fgC; rw [gs_Y_V]
theorem q_fgC_Z (b : Nat) (σ : CS) : gcZ (fgC b σ) = gcZ σ := by unfold fgC; rw [gs_Z_V]
theorem q_fgC_n (b : Nat) (σ : CS) : gcn (fgC b σ) = gcn σ := by unfold fgC; rw [gs_n_V]
theorem q_fgC_V (b : Nat) (σ : CS) : gcV (fgC b σ) = fillF (gcV σ) (b * 10 + 0) ((b * 10 + 0) + 10) 0 := by unfold fgC; rw [gs_V_V]
theorem q_fgC_CV (b : Nat) (σ : CS) : gcCV (fgC b σ) = gcCV σ := by unfold fgC; rw [gs_CV_V]
theorem q_fgC_ma (b : Nat) (σ : CS) : gcma (fgC b σ) = gcma σ := by unfold fgC; rw [gs_ma_V]
theorem q_fgC_re (b : Nat) (σ : CS) : gcre (fgC b σ) = gcre σ := by unfold fgC; rw [gs_re_V]
theorem q_fgC_ca (b : Nat) (σ : CS) : gcca (fgC b σ) = gcca σ := by unfold fgC; rw [gs_ca_V]
theorem q_fgC_Rg (b : Nat) (σ : CS) : gcRg (fgC b σ) = gcRg σ := by unfold fgC; rw [gs_Rg_V]
theorem q_fgC_Bo (b : Nat) (σ : CS) : gcBo (fgC b σ) = gcBo σ := by unfold fgC; rw [gs_Bo_V]
theorem q_fgC_Ne (b : Nat) (σ : CS) : gcNe (fgC b σ) = gcNe σ := by unfold fgC; rw [gs_Ne_V]
theorem q_fgC_An (b : Nat) (σ : CS) : gcAn (fgC b σ) = gcAn σ := by unfold fgC; rw [gs_An_V]
theorem q_fgC_Cl (b : Nat) (σ : CS) : gcCl (fgC b σ) = gcCl σ := by unfold fgC; rw [gs_Cl_V]
theorem q_fgC_Fl (b : Nat) (σ : CS) : gcFl (fgC b σ) = gcFl σ := by unfold fgC; rw [gs_Fl_V]
theorem q_fgC_Po (b : Nat) (σ : CS) : gcPo (fgC b σ) = gcPo σ := by unfold fgC; rw [gs_Po_V]
theorem q_fgC_Ct (b : Nat) (σ : CS) : gcCt (fgC b σ) = gcCt σ := by unfold fgC; rw [gs_Ct_V]
theorem q_fgC_sh (b : Nat) (σ : CS) : gcsh (fgC b σ) = gcsh σ := by unfold fgC; rw [gs_sh_V]
theorem q_fgC_rm (b : Nat) (σ : CS) : gcrm (fgC b σ) = gcrm σ := by unfold fgC; rw [gs_rm_V]
theorem q_fgC_fr (b : Nat) (σ : CS) : gcfr (fgC b σ) = gcfr σ := by unfold fgC; rw [gs_fr_V]
theorem q_fgC_ob (b : Nat) (σ : CS) : gcob (fgC b σ) = gcob σ := by unfold fgC; rw [gs_ob_V]
theorem q_fgC_tr (b : Nat) (σ : CS) : gctr (fgC b σ) = gctr σ := by unfold fgC; rw [gs_tr_V]
theorem q_apC_P (b : Nat) (k : Nat) (x : Nat) (y : Int32) (z : Int32) (σ : CS) : gcP (apC b k x y z σ) = gcP σ := by unfold apC; rw [gs_P_L, gs_P_Z, gs_P_Y, gs_P_X, gs_P_K]
theorem q_apC_L (b : Nat) (k : Nat) (x : Nat) (y : Int32) (z : Int32) (σ : CS) : gcL (apC b k x y z σ) = va_up (gcL σ) b (gcL σ b + 1) := by unfold apC; rw [gs_L_L]
theorem q_apC_K (b : Nat) (k : Nat) (x : Nat) (y : Int32) (z : Int32) (σ : CS) : gcK (apC b k x y z σ) = va_up (gcK σ) (b * 10 + gcL σ b) k := by unfold apC; rw [gs_K_L, gs_K_Z, gs_K_Y, gs_K_X, gs_K_K]
theorem q_apC_X (b : Nat) (k : Nat) (x : Nat) (y : Int32) (z : Int32) (σ : CS) : gcX (apC b k x y z σ) = va_up (gcX σ) (b * 10 + gcL σ b) x := by unfold apC; rw [gs_X_L, gs_X_Z, gs_X_Y, gs_X_X]
theorem q_apC_Y (b : Nat) (k : Nat) (x : Nat) (y : Int32) (z : Int32) (σ : CS) : gcY (apC b k x y z σ) = va_up (gcY σ) (b * 10 + gcL σ b) y := by unfold apC; rw [gs_Y_L, gs_Y_Z, gs_Y_Y]
theorem q_apC_Z (b : Nat) (k : Nat) (x : Nat) (y : Int32) (z : Int32) (σ : CS) : gcZ (apC b k x y z σ) = va_up (gcZ σ) (b * 10 + gcL σ b) z := by unfold apC; rw [gs_Z_L, gs_Z_Z]
theorem q_apC_n (b : Nat) (k : Nat) (x : Nat) (y : Int32) (z : Int32) (σ : CS) : gcn (apC b k x y z σ) = gcn σ := by unfold apC; rw [gs_n_L, gs_n_Z, gs_n_Y, gs_n_X, gs_n_K]
theorem q_apC_V (b : Nat) (k : Nat) (x : Nat) (y : Int32) (z : Int32) (σ : CS) : gcV (apC b k x y z σ) = gcV σ := by unfold apC; rw [gs_V_L, gs_V_Z, gs_V_Y, gs_V_X, gs_V_K]
theorem q_apC_CV (b : Nat) (k : Nat) (x : Nat) (y : Int32) (z : Int32) (σ : CS) : gcCV (apC b k x y z σ) = gcCV σ := by unfold apC; rw [gs_CV_L, gs_CV_Z, gs_CV_Y, gs_CV_X, gs_CV_K]
theorem q_apC_ma (b : Nat) (k : Nat) (x : Nat) (y : Int32) (z : Int32) (σ : CS) : gcma (apC b k x y z σ) = gcma σ := by unfold apC; rw [gs_ma_L, gs_ma_Z, gs_ma_Y, gs_ma_X, gs_ma_K]
theorem q_apC_re (b : Nat) (k : Nat) (x : Nat) (y : Int32) (z : Int32) (σ : CS) : gcre (apC b k x y z σ) = gcre σ := by unfold apC; rw [gs_re_L, gs_re_Z, gs_re_Y, gs_re_X, gs_re_K]
theorem q_apC_ca (b : Nat) (k : Nat) (x : Nat) (y : Int32) (z : Int32) (σ : CS) : gcca (apC b k x y z σ) = gcca σ := by unfold apC; rw [gs_ca_L, gs_ca_Z, gs_ca_Y, gs_ca_X, gs_ca_K]
theorem q_apC_Rg (b : Nat) (k : Nat) (x : Nat) (y : Int32) (z : Int32) (σ : CS) : gcRg (apC b k x y z σ) = gcRg σ := by unfold apC; rw [gs_Rg_L, gs_Rg_Z, gs_Rg_Y, gs_Rg_X, gs_Rg_K]
theorem q_apC_Bo (b : Nat) (k : Nat) (x : Nat) (y : Int32) (z : Int32) (σ : CS) : gcBo (apC b k x y z σ) = gcBo σ := by unfold apC; rw [gs_Bo_L, gs_Bo_Z, gs_Bo_Y, gs_Bo_X, gs_Bo_K]
theorem q_apC_Ne (b : Nat) (k : Nat) (x : Nat) (y : Int32) (z : Int32) (σ : CS) : gcNe (apC b k x y z σ) = gcNe σ := by unfold apC; rw [gs_Ne_L, gs_Ne_Z, gs_Ne_Y, gs_Ne_X, gs_Ne_K]
theorem q_apC_An (b : Nat) (k : Nat) (x : Nat) (y : Int32) (z : Int32) (σ : CS) : gcAn (apC b k x y z σ) = gcAn σ := by unfold apC; rw [gs_An_L, gs_An_Z, gs_An_Y, gs_An_X, gs_An_K]
theorem q_apC_Cl (b : Nat) (k : Nat) (x : Nat) (y : Int32) (z : Int32) (σ : CS) : gcCl (apC b k x y z σ) = gcCl σ := by unfold apC; rw [gs_Cl_L, gs_Cl_Z, gs_Cl_Y, gs_Cl_X, gs_Cl_K]
theorem q_apC_Fl (b : Nat) (k : Nat) (x : Nat) (y : Int32) (z : Int32) (σ : CS) : gcFl (apC b k x y z σ) = gcFl σ := by unfold apC; rw [gs_Fl_L, gs_Fl_Z, gs_Fl_Y, gs_Fl_X, gs_Fl_K]
theorem q_apC_Po (b : Nat) (k : Nat) (x : Nat) (y : Int32) (z : Int32) (σ : CS) : gcPo (apC b k x y z σ) = gcPo σ := by unfold apC; rw [gs_Po_L, gs_Po_Z, gs_Po_Y, gs_Po_X, gs_Po_K]
theorem q_apC_Ct (b : Nat) (k : Nat) (x : Nat) (y : Int32) (z : Int32) (σ : CS) : gcCt (apC b k x y z σ) = gcCt σ := by unfold apC; rw [gs_Ct_L, gs_Ct_Z, gs_Ct_Y, gs_Ct_X, gs_Ct_K]
theorem q_apC_sh (b : Nat) (k : Nat) (x : Nat) (y : Int32) (z : Int32) (σ : CS) : gcsh (apC b k x y z σ) = gcsh σ := by unfold apC; rw [gs_sh_L, gs_sh_Z, gs_sh_Y, gs_sh_X, gs_sh_K]
theorem q_apC_rm (b : Nat) (k : Nat) (x : Nat) (y : Int32) (z : Int32) (σ : CS) : gcrm (apC b k x y z σ) = gcrm σ := by unfold apC; rw [gs_rm_L, gs_rm_Z, gs_rm_Y, gs_rm_X, gs_rm_K]
theorem q_apC_fr (b : Nat) (k : Nat) (x : Nat) (y : Int32) (z : Int32) (σ : CS) : gcfr (apC b k x y z σ) = gcfr σ := by unfold apC; rw [gs_fr_L, gs_fr_Z, gs_fr_Y, gs_fr_X, gs_fr_K]
theorem q_apC_ob (b : Nat) (k : Nat) (x : Nat) (y : Int32) (z : Int32) (σ : CS) : gcob (apC b k x y z σ) = gcob σ := by unfold apC; rw [gs_ob_L, gs_ob_Z, gs_ob_Y, gs_ob_X, gs_ob_K]
theorem q_apC_tr (b : Nat) (k : Nat) (x : Nat) (y : Int32) (z : Int32) (σ : CS) : gctr (apC b k x y z σ) = gctr σ := by unfold apC; rw [gs_tr_L, gs_tr_Z, gs_tr_Y, gs_tr_X, gs_tr_K]
theorem q_emC_P (b : Nat) (σ : CS) : gcP (emC b σ) = gcP σ := by unfold emC; rw [gs_P_L]
theorem q_emC_L (b : Nat) (σ : CS) : gcL (emC b σ) = va_up (gcL σ) b 0 := by unfold emC; rw [gs_L_L]
theorem q_emC_K (b : Nat) (σ : CS) : gcK (emC b σ) = gcK σ := by unfold emC; rw [gs_K_L]
theorem q_emC_X (b : Nat) (σ : CS) : gcX (emC b σ) = gcX σ := by unfold emC; rw [gs_X_L]
theorem q_emC_Y (b : Nat) (σ : CS) : gcY (emC b σ) = gcY σ := by unfold emC; rw [gs_Y_L]
theorem q_emC_Z (b : Nat) (σ : CS) : gcZ (emC b σ) = gcZ σ := by unfold emC; rw [gs_Z_L]
theorem q_emC_n (b : Nat) (σ : CS) : gcn (emC b σ) = gcn σ := by unfold emC; rw [gs_n_L]
theorem q_emC_V (b : Nat) (σ : CS) : gcV (emC b σ) = gcV σ := by unfold emC; rw [gs_V_L]
theorem q_emC_CV (b : Nat) (σ : CS) : gcCV (emC b σ) = gcCV σ := by unfold emC; rw [gs_CV_L]
theorem q_emC_ma (b : Nat) (σ : CS) : gcma (emC b σ) = gcma σ := by unfold emC; rw [gs_ma_L]
theorem q_emC_re (b : Nat) (σ : CS) : gcre (emC b σ) = gcre σ := by unfold emC; rw [gs_re_L]
theorem q_emC_ca (b : Nat) (σ : CS) : gcca (emC b σ) = gcca σ := by unfold emC; rw [gs_ca_L]
theorem q_emC_Rg (b : Nat) (σ : CS) : gcRg (emC b σ) = gcRg σ := by unfold emC; rw [gs_Rg_L]
theorem q_emC_Bo (b : Nat) (σ : CS) : gcBo (emC b σ) = gcBo σ := by unfold emC; rw [gs_Bo_L]
theorem q_emC_Ne (b : Nat) (σ : CS) : gcNe (emC b σ) = gcNe σ := by unfold emC; rw [gs_Ne_L]
theorem q_emC_An (b : Nat) (σ : CS) : gcAn (emC b σ) = gcAn σ := by unfold emC; rw [gs_An_L]
theorem q_emC_Cl (b : Nat) (σ : CS) : gcCl (emC b σ) = gcCl σ := by unfold emC; rw [gs_Cl_L]
theorem q_emC_Fl (b : Nat) (σ : CS) : gcFl (emC b σ) = gcFl σ := by unfold emC; rw [gs_Fl_L]
theorem q_emC_Po (b : Nat) (σ : CS) : gcPo (emC b σ) = gcPo σ := by unfold emC; rw [gs_Po_L]
theorem q_emC_Ct (b : Nat) (σ : CS) : gcCt (emC b σ) = gcCt σ := by unfold emC; rw [gs_Ct_L]
theorem q_emC_sh (b : Nat) (σ : CS) : gcsh (emC b σ) = gcsh σ := by unfold emC; rw [gs_sh_L]
theorem q_emC_rm (b : Nat) (σ : CS) : gcrm (emC b σ) = gcrm σ := by unfold emC; rw [gs_rm_L]
theorem q_emC_fr (b : Nat) (σ : CS) : gcfr (emC b σ) = gcfr σ := by unfold emC; rw [gs_fr_L]
theorem q_emC_ob (b : Nat) (σ : CS) : gcob (emC b σ) = gcob σ := by unfold emC; rw [gs_ob_L]
theorem q_emC_tr (b : Nat) (σ : CS) : gctr (emC b σ) = gctr σ := by unfold emC; rw [gs_tr_L]
theorem q_stM_th (b : Nat) (σ : MS) : gmth (stM b σ) = thF false false := by unfold stM; rw [hs_th_ch, hs_th_my, hs_th_th]
theorem q_stM_ty (b : Nat) (σ : MS) : gmty (stM b σ) = gmty σ := by unfold stM; rw [hs_ty_ch, hs_ty_my, hs_ty_th]
theorem q_stM_pa (b : Nat) (σ : MS) : gmpa (stM b σ) = gmpa σ := by unfold stM; rw [hs_pa_ch, hs_pa_my, hs_pa_th]
theorem q_stM_my (b : Nat) (σ : MS) : gmmy (stM b σ) = va_up (gmmy σ) b 0 := by unfold stM; rw [hs_my_ch, hs_my_my]
theorem q_stM_cd (b : Nat) (σ : MS) : gmcd (stM b σ) = gmcd σ := by unfold stM; rw [hs_cd_ch, hs_cd_my, hs_cd_th]
theorem q_stM_md (b : Nat) (σ : MS) : gmmd (stM b σ) = gmmd σ := by unfold stM; rw [hs_md_ch, hs_md_my, hs_md_th]
theorem q_stM_rd (b : Nat) (σ : MS) : gmrd (stM b σ) = gmrd σ := by unfold stM; rw [hs_rd_ch, hs_rd_my, hs_rd_th]
theorem q_stM_ch (b : Nat) (σ : MS) : gmch (stM b σ) = va_up (gmch σ) b (gmch σ b || decide (0 < gmmy σ b)) := by unfold stM; rw [hs_ch_ch]
theorem q_stM_si (b : Nat) (σ : MS) : gmsi (stM b σ) = gmsi σ := by unfold stM; rw [hs_si_ch, hs_si_my, hs_si_th]
theorem q_stM_ho (b : Nat) (σ : MS) : gmho (stM b σ) = gmho σ := by unfold stM; rw [hs_ho_ch, hs_ho_my, hs_ho_th]
theorem q_stM_ob (b : Nat) (σ : MS) : gmob (stM b σ) = gmob σ := by unfold stM; rw [hs_ob_ch, hs_ob_my, hs_ob_th]
theorem q_stM_rm (b : Nat) (σ : MS) : gmrm (stM b σ) = gmrm σ := by unfold stM; rw [hs_rm_ch, hs_rm_my, hs_rm_th]
theorem q_stM_cl (b : Nat) (σ : MS) : gmcl (stM b σ) = gmcl σ := by unfold stM; rw [hs_cl_ch, hs_cl_my, hs_cl_th]
theorem q_stM_fI (b : Nat) (σ : MS) : gmfI (stM b σ) = gmfI σ := by unfold stM; rw [hs_fI_ch, hs_fI_my, hs_fI_th]
theorem q_stM_fV (b : Nat) (σ : MS) : gmfV (stM b σ) = gmfV σ := by unfold stM; rw [hs_fV_ch, hs_fV_my, hs_fV_th]
theorem q_stM_fr (b : Nat) (σ : MS) : gmfr (stM b σ) = gmfr σ := by unfold stM; rw [hs_fr_ch, hs_fr_my, hs_fr_th]
theorem q_stM_bo (b : Nat) (σ : MS) : gmbo (stM b σ) = gmbo σ := by unfold stM; rw [hs_bo_ch, hs_bo_my, hs_bo_th]
theorem q_stM_pl (b : Nat) (σ : MS) : gmpl (stM b σ) = gmpl σ := by unfold stM; rw [hs_pl_ch, hs_pl_my, hs_pl_th]
theorem q_stM_wa (b : Nat) (σ : MS) : gmwa (stM b σ) = gmwa σ := by unfold stM; rw [hs_wa_ch, hs_wa_my, hs_wa_th]
theorem q_stM_is (b : Nat) (σ : MS) : gmis (stM b σ) = gmis σ := by unfold stM; rw [hs_is_ch, hs_is_my, hs_is_th]
theorem q_stM_va (b : Nat) (σ : MS) : gmva (stM b σ) = gmva σ := by unfold stM; rw [hs_va_ch, hs_va_my, hs_va_th]
theorem q_stM_ou (b : Nat) (σ : MS) : gmou (stM b σ) = gmou σ := by unfold stM; rw [hs_ou_ch, hs_ou_my, hs_ou_th]
theorem q_stM_ct (b : Nat) (σ : MS) : gmct (stM b σ) = gmct σ := by unfold stM; rw [hs_ct_ch, hs_ct_my, hs_ct_th]
theorem q_opG_th (b : Nat) (k : Nat) (x : Nat) (y : Int32) (z : Int32) (σ : MS) : gmth (opG b k x y z σ) = thF false false := by unfold opG; rw [hs_th_ch, hs_th_my, hs_th_cd, hs_th_th]
theorem q_opG_ty (b : Nat) (k : Nat) (x : Nat) (y : Int32) (z : Int32) (σ : MS) : gmty (opG b k x y z σ) = gmty σ := by unfold opG; rw [hs_ty_ch, hs_ty_my, hs_ty_cd, hs_ty_th]
theorem q_opG_pa (b : Nat) (k : Nat) (x : Nat) (y : Int32) (z : Int32) (σ : MS) : gmpa (opG b k x y z σ) = gmpa σ := by unfold opG; rw [hs_pa_ch, hs_pa_my, hs_pa_cd, hs_pa_th]
theorem q_opG_my (b : Nat) (k : Nat) (x : Nat) (y : Int32) (z : Int32) (σ : MS) : gmmy (opG b k x y z σ) = va_up (gmmy σ) b (gmmy σ b + 1) := by unfold opG; rw [hs_my_ch, hs_my_my]
theorem q_opG_cd (b : Nat) (k : Nat) (x : Nat) (y : Int32) (z : Int32) (σ : MS) : gmcd (opG b k x y z σ) = va_up (va_up (va_up (va_up (gmcd σ) (40 * b + 4 * gmmy σ b) (nI k)) (40 * b + 4 * gmmy σ b + 1) (nI x)) (40 * b + 4 * gmmy σ b + 2) y) (40 * b + 4 * gmmy σ b + 3) z := by unfold opG; rw [hs_cd_ch, hs_cd_my, hs_cd_cd]
theorem q_opG_md (b : Nat) (k : Nat) (x : Nat) (y : Int32) (z : Int32) (σ : MS) : gmmd (opG b k x y z σ) = gmmd σ := by unfold opG; rw [hs_md_ch, hs_md_my, hs_md_cd, hs_md_th]
theorem q_opG_rd (b : Nat) (k : Nat) (x : Nat) (y : Int32) (z : Int32) (σ : MS) : gmrd (opG b k x y z σ) = gmrd σ := by unfold opG; rw [hs_rd_ch, hs_rd_my, hs_rd_cd, hs_rd_th]
theorem q_opG_ch (b : Nat) (k : Nat) (x : Nat) (y : Int32) (z : Int32) (σ : MS) : gmch (opG b k x y z σ) = va_up (gmch σ) b true := by unfold opG; rw [hs_ch_ch]
theorem q_opG_si (b : Nat) (k : Nat) (x : Nat) (y : Int32) (z : Int32) (σ : MS) : gmsi (opG b k x y z σ) = gmsi σ := by unfold opG; rw [hs_si_ch, hs_si_my, hs_si_cd, hs_si_th]
theorem q_opG_ho (b : Nat) (k : Nat) (x : Nat) (y : Int32) (z : Int32) (σ : MS) : gmho (opG b k x y z σ) = gmho σ := by unfold opG; rw [hs_ho_ch, hs_ho_my, hs_ho_cd, hs_ho_th]
theorem q_opG_ob (b : Nat) (k : Nat) (x : Nat) (y : Int32) (z : Int32) (σ : MS) : gmob (opG b k x y z σ) = gmob σ := by unfold opG; rw [hs_ob_ch, hs_ob_my, hs_ob_cd, hs_ob_th]
theorem q_opG_rm (b : Nat) (k : Nat) (x : Nat) (y : Int32) (z : Int32) (σ : MS) : gmrm (opG b k x y z σ) = gmrm σ := by unfold opG; rw [hs_rm_ch, hs_rm_my, hs_rm_cd, hs_rm_th]
theorem q_opG_cl (b : Nat) (k : Nat) (x : Nat) (y : Int32) (z : Int32) (σ : MS) : gmcl (opG b k x y z σ) = gmcl σ := by unfold opG; rw [hs_cl_ch, hs_cl_my, hs_cl_cd, hs_cl_th]
theorem q_opG_fI (b : Nat) (k : Nat) (x : Nat) (y : Int32) (z : Int32) (σ : MS) : gmfI (opG b k x y z σ) = gmfI σ := by unfold opG; rw [hs_fI_ch, hs_fI_my, hs_fI_cd, hs_fI_th]
theorem q_opG_fV (b : Nat) (k : Nat) (x : Nat) (y : Int32) (z : Int32) (σ : MS) : gmfV (opG b k x y z σ) = gmfV σ := by unfold opG; rw [hs_fV_ch, hs_fV_my, hs_fV_cd, hs_fV_th]
theorem q_opG_fr (b : Nat) (k : Nat) (x : Nat) (y : Int32) (z : Int32) (σ : MS) : gmfr (opG b k x y z σ) = gmfr σ := by unfold opG; rw [hs_fr_ch, hs_fr_my, hs_fr_cd, hs_fr_th]
theorem q_opG_bo (b : Nat) (k : Nat) (x : Nat) (y : Int32) (z : Int32) (σ : MS) : gmbo (opG b k x y z σ) = gmbo σ := by unfold opG; rw [hs_bo_ch, hs_bo_my, hs_bo_cd, hs_bo_th]
theorem q_opG_pl (b : Nat) (k : Nat) (x : Nat) (y : Int32) (z : Int32) (σ : MS) : gmpl (opG b k x y z σ) = gmpl σ := by unfold opG; rw [hs_pl_ch, hs_pl_my, hs_pl_cd, hs_pl_th]
theorem q_opG_wa (b : Nat) (k : Nat) (x : Nat) (y : Int32) (z : Int32) (σ : MS) : gmwa (opG b k x y z σ) = gmwa σ := by unfold opG; rw [hs_wa_ch, hs_wa_my, hs_wa_cd, hs_wa_th]
theorem q_opG_is (b : Nat) (k : Nat) (x : Nat) (y : Int32) (z : Int32) (σ : MS) : gmis (opG b k x y z σ) = gmis σ := by unfold opG; rw [hs_is_ch, hs_is_my, hs_is_cd, hs_is_th]
theorem q_opG_va (b : Nat) (k : Nat) (x : Nat) (y : Int32) (z : Int32) (σ : MS) : gmva (opG b k x y z σ) = gmva σ := by unfold opG; rw [hs_va_ch, hs_va_my, hs_va_cd, hs_va_th]
theorem q_opG_ou (b : Nat) (k : Nat) (x : Nat) (y : Int32) (z : Int32) (σ : MS) : gmou (opG b k x y z σ) = gmou σ := by unfold opG; rw [hs_ou_ch, hs_ou_my, hs_ou_cd, hs_ou_th]
theorem q_opG_ct (b : Nat) (k : Nat) (x : Nat) (y : Int32) (z : Int32) (σ : MS) : gmct (opG b k x y z σ) = gmct σ := by unfold opG; rw [hs_ct_ch, hs_ct_my, hs_ct_cd, hs_ct_th]
theorem zc_ty (o : Option Nat) (c : CS) : Zc c (tyC o c) := ⟨q_tyC_Rg .., q_tyC_Fl .., q_tyC_Cl .., q_tyC_Bo .., q_tyC_Ne .., q_tyC_An .., q_tyC_Po .., q_tyC_Ct .., q_tyC_fr .., q_tyC_ob .., q_tyC_rm .., q_tyC_tr .., q_tyC_sh ..⟩
theorem zm_ty (o : Option Nat) (c : MS) : Zm c (tyM o c) := ⟨q_tyM_is .., q_tyM_va .., q_tyM_fI .., q_tyM_fV .., q_tyM_cl .., q_tyM_bo .., q_tyM_pl .., q_tyM_wa .., q_tyM_ou .., q_tyM_ct .., q_tyM_fr .., q_tyM_ob .., q_tyM_rm ..⟩
theorem zc_ap (b k x : Nat) (y z : Int32) (c : CS) : Zc c (apC b k x y z (fgC b c)) := ⟨by rw [q_apC_Rg, q_fgC_Rg], by rw [q_apC_Fl, q_fgC_Fl], by rw [q_apC_Cl, q_fgC_Cl], by rw [q_apC_Bo, q_fgC_Bo], by rw [q_apC_Ne, q_fgC_Ne], by rw [q_apC_An, q_fgC_An], by rw [q_apC_Po, q_fgC_Po], by rw [q_apC_Ct, q_fgC_Ct], by rw [q_apC_fr, q_fgC_fr], by rw [q_apC_ob, q_fgC_ob], by rw [q_apC_rm, q_fgC_rm], by rw [q_apC_tr, q_fgC_tr], by rw [q_apC_sh, q_fgC_sh]⟩
theorem zm_op (b k x : Nat) (y z : Int32) (c : MS) : Zm c (opG b k x y z c) := ⟨q_opG_is .., q_opG_va .., q_opG_fI .., q_opG_fV .., q_opG_cl .., q_opG_bo .., q_opG_pl .., q_opG_wa .., q_opG_ou .., q_opG_ct .., q_opG_fr .., q_opG_ob .., q_opG_rm ..⟩
theorem zc_em (b : Nat) (c : CS) : Zc c (emC b (fgC b c)) := ⟨by rw [q_emC_Rg, q_fgC_Rg], by rw [q_emC_Fl, q_fgC_Fl], by rw [q_emC_Cl, q_fgC_Cl], by rw [q_emC_Bo, q_fgC_Bo], by rw [q_emC_Ne, q_fgC_Ne], by rw [q_emC_An, q_fgC_An], by rw [q_emC_Po, q_fgC_Po], by rw [q_emC_Ct, q_fgC_Ct], by rw [q_emC_fr, q_fgC_fr], by rw [q_emC_ob, q_fgC_ob], by rw [q_emC_rm, q_fgC_rm], by rw [q_emC_tr, q_fgC_tr], by rw [q_emC_sh, q_fgC_sh]⟩
theorem zm_st (b : Nat) (c : MS) : Zm c (stM b c) := ⟨q_stM_is .., q_stM_va .., q_stM_fI .., q_stM_fV .., q_stM_cl .., q_stM_bo .., q_stM_pl .., q_stM_wa .., q_stM_ou .., q_stM_ct .., q_stM_fr .., q_stM_ob .., q_stM_rm ..⟩
theorem RI_Z2 {c d : CS} (h : RI c) (p : PI d ∧ WI d) (z : Zc c d) (hV : ∀ i, gcV d i ≤ 6) : RI d := by
  obtain ⟨h1, h2, h3⟩ := h
  refine ⟨p, hV, ?_⟩
  obtain ⟨a1, a2, a3, a4, a5, a6, a7, a8, a9, a10, a11, a12, a13⟩ := z
  rw [a1, a2, a3, a4, a5, a6, a8, a9, a10, a11, a12]
  exact h3
theorem li_type {c : CS} {ρ : MS} {o : Option Nat} (h : LI c ρ) (hn : gcn c < 6) (ho : ∀ j, o = some j → j < gcn c) : LI (tyC o c) (tyM o ρ) := by
  obtain ⟨⟨hr, ⟨p1, p2, p3, p4, p5, p6, p7, p8⟩, s1, s2⟩, hR, b1, b2, b3, b4⟩ := h
  have hI := hR.1.1
  refine ⟨⟨RZ_of hr (zc_ty o c) (zm_ty o ρ), ?_, ?_⟩, RI_Z2 hR ?_ (zc_ty o c) ?_, ?_⟩
  · unfold PR
    rw [q_tyC_n, q_tyC_L, q_tyC_P, q_tyC_K, q_tyC_X, q_tyC_Y, q_tyC_Z, q_tyM_ty, q_tyM_my, q_tyM_pa, q_tyM_cd]
    refine ⟨by rw [p1], p2, fun i hi => ?_, fun i hi => ?_, fun i hi => p5 i (by omega), fun i k hk => ?_, by omega, p8⟩
    · rw [← p1]
      unfold va_up
      by_cases e : i = gcn c
      · rw [if_pos e, if_pos e]
      · rw [if_neg e, if_neg e]; exact p3 i (by omega)
    · rw [va_up_ne _ _ (by omega)]; exact p4 i (by omega)
    · rw [← p1] at hk
      unfold va_up at hk
      by_cases e : i = gcn c
      · rw [if_pos e] at hk; rw [e]; exact ho k hk
      · rw [if_neg e] at hk; exact p6 i k hk
  · unfold SV siF
    rw [q_tyC_L, q_tyC_V, q_tyM_rd, q_tyM_ch, q_tyM_si]
    exact ⟨s1, s2⟩
  · have hW := hR.1.2
    unfold PI WI at *
    rw [q_tyC_P, q_tyC_L, q_tyC_K, q_tyC_X, q_tyC_n, q_tyC_Y, q_tyC_Z]
    refine ⟨⟨fun i k hk => ?_, hI.2.1, hI.2.2.1, hI.2.2.2.1, by omega⟩, hW⟩
    unfold va_up at hk
    by_cases e : i = gcn c
    · rw [if_pos e] at hk; have := ho k hk; omega
    · rw [if_neg e] at hk; exact hI.1 i k hk
  · rw [q_tyC_V]; exact hR.2.1
  · unfold BR
    rw [q_tyC_ma, q_tyC_re, q_tyM_md, q_tyM_rd]
    exact ⟨b1, b2, b3, b4⟩
theorem li_op {c : CS} {ρ : MS} {b k x : Nat} {y z : Int32} (h : LI c ρ) (hb : b < 4 * gcn c) (hL : gcL c b < 10) (hk : k < 12) (hx : x < 6) (hw : wfK (nI k) y z = true) : LI (apC b k x y z (fgC b c)) (opG b k x y z ρ) := by
  obtain ⟨⟨hr, ⟨p1, p2, p3, p4, p5, p6, p7, p8⟩, s1, s2⟩, hR, b1, b2, b3, b4⟩ := h
  have hI := hR.1.1
  have hW := hR.1.2
  refine ⟨⟨RZ_of hr (zc_ap b k x y z c) (zm_op b k x y z ρ), ?_, ?_⟩, RI_Z2 hR ?_ (zc_ap b k x y z c) ?_, ?_⟩
  · unfold PR
    rw [q_apC_n, q_apC_L, q_apC_P, q_apC_K, q_apC_X, q_apC_Y, q_apC_Z, q_fgC_n, q_fgC_L, q_fgC_P, q_fgC_K, q_fgC_X, q_fgC_Y, q_fgC_Z, q_opG_ty, q_opG_my, q_opG_pa, q_opG_cd, ← p2]
    refine ⟨p1, rfl, p3, p4, fun i hi => ?_, p6, p7, fun p => ?_⟩
    · rw [va_up_ne _ _ (by omega)]; exact p5 i hi
    · by_cases e : p = b * 10 + gcL c b
      · subst e
        rw [va_up_self, va_up_self, va_up_self, va_up_self]
        refine ⟨?_, ?_, ?_, ?_⟩
        · rw [va_up_ne _ _ (by omega), va_up_ne _ _ (by omega), va_up_ne _ _ (by omega), show 4 * (b * 10 + gcL c b) = 40 * b + 4 * gcL c b from (by omega), va_up_self]
        · rw [va_up_ne _ _ (by omega), va_up_ne _ _ (by omega), show 4 * (b * 10 + gcL c b) + 1 = 40 * b + 4 * gcL c b + 1 from (by omega), va_up_self]
        · rw [va_up_ne _ _ (by omega), show 4 * (b * 10 + gcL c b) + 2 = 40 * b + 4 * gcL c b + 2 from (by omega), va_up_self]
        · rw [show 4 * (b * 10 + gcL c b) + 3 = 40 * b + 4 * gcL c b + 3 from (by omega), va_up_self]
      · rw [va_up_ne _ _ e, va_up_ne _ _ e, va_up_ne _ _ e, va_up_ne _ _ e]
        rw [va_up_ne _ _ (by omega), va_up_ne _ _ (by omega), va_up_ne _ _ (by omega), va_up_ne _ _ (by omega)]
        rw [va_up_ne _ _ (by omega), va_up_ne _ _ (by omega), va_up_ne _ _ (by omega), va_up_ne _ _ (by omega)]
        rw [va_up_ne _ _ (by omega), va_up_ne _ _ (by omega), va_up_ne _ _ (by omega), va_up_ne _ _ (by omega)]
        rw [va_up_ne _ _ (by omega), va_up_ne _ _ (by omega), va_up_ne _ _ (by omega), va_up_ne _ _ (by omega)]
        exact p8 p
  · unfold SV siF
    rw [q_apC_L, q_apC_V, q_fgC_L, q_fgC_V, q_opG_rd, q_opG_ch, q_opG_si]
    refine ⟨fun a j hj => ?_, s2⟩
    by_cases e : a = b
    · subst e
      rw [va_up_self] at hj
      rw [va_up_self, if_neg (fun q => by cases q.2)]
      unfold fillF
      rw [if_pos (by omega)]
    · rw [va_up_ne _ _ e] at hj
      rw [va_up_ne _ _ e]
      have := hI.2.1 a
      unfold fillF
      rw [if_neg (by omega)]
      exact s1 a j hj
  · unfold PI WI at *
    rw [q_apC_P, q_apC_L, q_apC_K, q_apC_X, q_apC_n, q_apC_Y, q_apC_Z, q_fgC_P, q_fgC_L, q_fgC_K, q_fgC_X, q_fgC_n, q_fgC_Y, q_fgC_Z]
    refine ⟨⟨hI.1, fun i => va_up_i _ _ _ i (fun z => z ≤ 10) (by omega) (hI.2.1 i), fun i => va_up_i _ _ _ i (fun z => z < 12) hk (hI.2.2.1 i), fun i => va_up_i _ _ _ i (fun z => z < 6) hx (hI.2.2.2.1 i), hI.2.2.2.2⟩, fun p => ?_⟩
    by_cases e : p = b * 10 + gcL c b
    · subst e
      rw [va_up_self, va_up_self, va_up_self]
      exact hw
    · rw [va_up_ne _ _ e, va_up_ne _ _ e, va_up_ne _ _ e]
      exact hW p
  · rw [q_apC_V, q_fgC_V]
    intro i
    unfold fillF
    split
    · omega
    · exact hR.2.1 i
  · unfold BR
    rw [q_apC_ma, q_apC_re, q_fgC_ma, q_fgC_re, q_opG_md, q_opG_rd]
    exact ⟨b1, b2, b3, b4⟩
theorem li_strip {c : CS} {ρ : MS} {b : Nat} (h : LI c ρ) : LI (emC b (fgC b c)) (stM b ρ) := by
  obtain ⟨⟨hr, ⟨p1, p2, p3, p4, p5, p6, p7, p8⟩, s1, s2⟩, hR, b1, b2, b3, b4⟩ := h
  have hI := hR.1.1
  have hW := hR.1.2
  refine ⟨⟨RZ_of hr (zc_em b c) (zm_st b ρ), ?_, ?_⟩, RI_Z2 hR ?_ (zc_em b c) ?_, ?_⟩
  · unfold PR
    rw [q_emC_n, q_emC_L, q_emC_P, q_emC_K, q_emC_X, q_emC_Y, q_emC_Z, q_fgC_n, q_fgC_L, q_fgC_P, q_fgC_K, q_fgC_X, q_fgC_Y, q_fgC_Z, q_stM_ty, q_stM_my, q_stM_pa, q_stM_cd, ← p2]
    refine ⟨p1, rfl, p3, p4, fun i hi => ?_, p6, p7, p8⟩
    exact va_up_i _ _ _ i (fun z => z = 0) rfl (p5 i hi)
  · unfold SV siF
    rw [q_emC_L, q_emC_V, q_fgC_L, q_fgC_V, q_stM_rd, q_stM_ch, q_stM_si]
    refine ⟨fun a j hj => ?_, s2⟩
    by_cases e : a = b
    · subst e
      rw [va_up_self] at hj
      omega
    · rw [va_up_ne _ _ e] at hj
      rw [va_up_ne _ _ e]
      have := hI.2.1 a
      unfold fillF
      rw [if_neg (by omega)]
      exact s1 a j hj
  · unfold PI WI at *
    rw [q_emC_P, q_emC_L, q_emC_K, q_emC_X, q_emC_n, q_emC_Y, q_emC_Z, q_fgC_P, q_fgC_L, q_fgC_K, q_fgC_X, q_fgC_n, q_fgC_Y, q_fgC_Z]
    exact ⟨⟨hI.1, fun i => va_up_i _ _ _ i (fun z => z ≤ 10) (by omega) (hI.2.1 i), hI.2.2.1, hI.2.2.2.1, hI.2.2.2.2⟩, hW⟩
  · rw [q_emC_V, q_fgC_V]
    intro i
    unfold fillF
    split
    · omega
    · exact hR.2.1 i
  · unfold BR
    rw [q_emC_ma, q_emC_re, q_fgC_ma, q_fgC_re, q_stM_md, q_stM_rd]
    exact ⟨b1, b2, b3, b4⟩
