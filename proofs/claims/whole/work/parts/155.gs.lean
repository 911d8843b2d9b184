theorem gs_P_P (τ : CS) (v : (Nat → Option Nat)) : gcP (scP τ v) = v := rfl
theorem gs_P_L (τ : CS) (v : (Nat → Nat)) : gcP (scL τ v) = gcP τ := rfl
theorem gs_P_K (τ : CS) (v : (Nat → Nat)) : gcP (scK τ v) = gcP τ := rfl
theorem gs_P_X (τ : CS) (v : (Nat → Nat)) : gcP (scX τ v) = gcP τ := rfl
theorem gs_P_Y (τ : CS) (v : (Nat → Int32)) : gcP (scY τ v) = gcP τ := rfl
theorem gs_P_Z (τ : CS) (v : (Nat → Int32)) : gcP (scZ τ v) = gcP τ := rfl
theorem gs_P_n (τ : CS) (v : Nat) : gcP (scn τ v) = gcP τ := rfl
theorem gs_P_V (τ : CS) (v : (Nat → Nat)) : gcP (scV τ v) = gcP τ := rfl
theorem gs_P_CV (τ : CS) (v : (Nat → Nat)) : gcP (scCV τ v) = gcP τ := rfl
theorem gs_P_ma (τ : CS) (v : Nat) : gcP (scma τ v) = gcP τ := rfl
theorem gs_P_re (τ : CS) (v : Nat) : gcP (scre τ v) = gcP τ := rfl
theorem gs_P_ca (τ : CS) (v : Nat) : gcP (scca τ v) = gcP τ := rfl
theorem gs_P_Rg (τ : CS) (v : (Nat → Val)) : gcP (scRg τ v) = gcP τ := rfl
theorem gs_P_Bo (τ : CS) (v : (Nat → Nat)) : gcP (scBo τ v) = gcP τ := rfl
theorem gs_P_Ne (τ : CS) (v : (Nat → Nat)) : gcP (scNe τ v) = gcP τ := rfl
theorem gs_P_An (τ : CS) (v : (Nat → Nat)) : gcP (scAn τ v) = gcP τ := rfl
theorem gs_P_Cl (τ : CS) (v : (Nat → Nat)) : gcP (scCl τ v) = gcP τ := rfl
theorem gs_P_Fl (τ : CS) (v : (Nat → Val)) : gcP (scFl τ v) = gcP τ := rfl
theorem gs_P_Po (τ : CS) (v : (Nat → Int32)) : gcP (scPo τ v) = gcP τ := rfl
theorem gs_P_Ct (τ : CS) (v : (Nat → Nat)) : gcP (scCt τ v) = gcP τ := rfl
theorem gs_P_sh (τ : CS) (v : Bool) : gcP (scsh τ v) = gcP τ := rfl
theorem gs_P_rm (τ : CS) (v : Nat) : gcP (scrm τ v) = gcP τ := rfl
theorem gs_P_fr (τ : CS) (v : Nat) : gcP (scfr τ v) = gcP τ := rfl
theorem gs_P_ob (τ : CS) (v : Nat) : gcP (scob τ v) = gcP τ := rfl
theorem gs_P_tr (τ : CS) (v : Nat) : gcP (sctr τ v) = gcP τ := rfl
theorem ss_P (τ : CS) (v w : (Nat → Option Nat)) : scP (scP τ v) w = scP τ w := rfl
theorem gs_L_P (τ : CS) (v : (Nat → Option Nat)) : gcL (scP τ v) = gcL τ := rfl
theorem gs_L_L (τ : CS) (v : (Nat → Nat)) : gcL (scL τ v) = v := rfl
theorem gs_L_K (τ : CS) (v : (Nat → Nat)) : gcL (scK τ v) = gcL τ := rfl
theorem gs_L_X (τ : CS) (v : (Nat → Nat)) : gcL (scX τ v) = gcL τ := rfl
theorem gs_L_Y (τ : CS) (v : (Nat → Int32)) : gcL (scY τ v) = gcL τ := rfl
theorem gs_L_Z (τ : CS) (v : (Nat → Int32)) : gcL (scZ τ v) = gcL τ := rfl
theorem gs_L_n (τ : CS) (v : Nat) : gcL (scn τ v) = gcL τ := rfl
theorem gs_L_V (τ : CS) (v : (Nat → Nat)) : gcL (scV τ v) = gcL τ := rfl
theorem gs_L_CV (τ : CS) (v : (Nat → Nat)) : gcL (scCV τ v) = gcL τ := rfl
theorem gs_L_ma (τ : CS) (v : Nat) : gcL (scma τ v) = gcL τ := rfl
theorem gs_L_re (τ : CS) (v : Nat) : gcL (scre τ v) = gcL τ := rfl
theorem gs_L_ca (τ : CS) (v : Nat) : gcL (scca τ v) = gcL τ := rfl
theorem gs_L_Rg (τ : CS) (v : (Nat → Val)) : gcL (scRg τ v) = gcL τ := rfl
theorem gs_L_Bo (τ : CS) (v : (Nat → Nat)) : gcL (scBo τ v) = gcL τ := rfl
theorem gs_L_Ne (τ : CS) (v : (Nat → Nat)) : gcL (scNe τ v) = gcL τ := rfl
theorem gs_L_An (τ : CS) (v : (Nat → Nat)) : gcL (scAn τ v) = gcL τ := rfl
theorem gs_L_Cl (τ : CS) (v : (Nat → Nat)) : gcL (scCl τ v) = gcL τ := rfl
theorem gs_L_Fl (τ : CS) (v : (Nat → Val)) : gcL (scFl τ v) = gcL τ := rfl
theorem gs_L_Po (τ : CS) (v : (Nat → Int32)) : gcL (scPo τ v) = gcL τ := rfl
theorem gs_L_Ct (τ : CS) (v : (Nat → Nat)) : gcL (scCt τ v) = gcL τ := rfl
theorem gs_L_sh (τ : CS) (v : Bool) : gcL (scsh τ v) = gcL τ := rfl
theorem gs_L_rm (τ : CS) (v : Nat) : gcL (scrm τ v) = gcL τ := rfl
theorem gs_L_fr (τ : CS) (v : Nat) : gcL (scfr τ v) = gcL τ := rfl
theorem gs_L_ob (τ : CS) (v : Nat) : gcL (scob τ v) = gcL τ := rfl
theorem gs_L_tr (τ : CS) (v : Nat) : gcL (sctr τ v) = gcL τ := rfl
theorem ss_L (τ : CS) (v w : (Nat → Nat)) : scL (scL τ v) w = scL τ w := rfl
theorem gs_K_P (τ : CS) (v : (Nat → Option Nat)) : gcK (scP τ v) = gcK τ := rfl
theorem gs_K_L (τ : CS) (v : (Nat → Nat)) : gcK (scL τ v) = gcK τ := rfl
theorem gs_K_K (τ : CS) (v : (Nat → Nat)) : gcK (scK τ v) = v := rfl
theorem gs_K_X (τ : CS) (v : (Nat → Nat)) : gcK (scX τ v) = gcK τ := rfl
theorem gs_K_Y (τ : CS) (v : (Nat → Int32)) : gcK (scY τ v) = gcK τ := rfl
theorem gs_K_Z (τ : CS) (v : (Nat → Int32)) : gcK (scZ τ v) = gcK τ := rfl
theorem gs_K_n (τ : CS) (v : Nat) : gcK (scn τ v) = gcK τ := rfl
theorem gs_K_V (τ : CS) (v : (Nat → Nat)) : gcK (scV τ v) = gcK τ := rfl
theorem gs_K_CV (τ : CS) (v : (Nat → Nat)) : gcK (scCV τ v) = gcK τ := rfl
theorem gs_K_ma (τ : CS) (v : Nat) : gcK (scma τ v) = gcK τ := rfl
theorem gs_K_re (τ : CS) (v : Nat) : gcK (scre τ v) = gcK τ := rfl
theorem gs_K_ca (τ : CS) (v : Nat) : gcK (scca τ v) = gcK τ := rfl
theorem gs_K_Rg (τ : CS) (v : (Nat → Val)) : gcK (scRg τ v) = gcK τ := rfl
theorem gs_K_Bo (τ : CS) (v : (Nat → Nat)) : gcK (scBo τ v) = gcK τ := rfl
theorem gs_K_Ne (τ : CS) (v : (Nat → Nat)) : gcK (scNe τ v) = gcK τ := rfl
theorem gs_K_An (τ : CS) (v : (Nat → Nat)) : gcK (scAn τ v) = gcK τ := rfl
theorem gs_K_Cl (τ : CS) (v : (Nat → Nat)) : gcK (scCl τ v) = gcK τ := rfl
theorem gs_K_Fl (τ : CS) (v : (Nat → Val)) : gcK (scFl τ v) = gcK τ := rfl
theorem gs_K_Po (τ : CS) (v : (Nat → Int32)) : gcK (scPo τ v) = gcK τ := rfl
theorem gs_K_Ct (τ : CS) (v : (Nat → Nat)) : gcK (scCt τ v) = gcK τ := rfl
theorem gs_K_sh (τ : CS) (v : Bool) : gcK (scsh τ v) = gcK τ := rfl
theorem gs_K_rm (τ : CS) (v : Nat) : gcK (scrm τ v) = gcK τ := rfl
theorem gs_K_fr (τ : CS) (v : Nat) : gcK (scfr τ v) = gcK τ := rfl
theorem gs_K_ob (τ : CS) (v : Nat) : gcK (scob τ v) = gcK τ := rfl
theorem gs_K_tr (τ : CS) (v : Nat) : gcK (sctr τ v) = gcK τ := rfl
theorem ss_K (τ : CS) (v w : (Nat → Nat)) : scK (scK τ v) w = scK τ w := rfl
theorem gs_X_P (τ : CS) (v : (Nat → Option Nat)) : gcX (scP τ v) = gcX τ := rfl
theorem gs_X_L (τ : CS) (v : (Nat → Nat)) : gcX (scL τ v) = gcX τ := rfl
theorem gs_X_K (τ : CS) (v : (Nat → Nat)) : gcX (scK τ v) = gcX τ := rfl
theorem gs_X_X (τ : CS) (v : (Nat → Nat)) : gcX (scX τ v) = v := rfl
theorem gs_X_Y (τ : CS) (v : (Nat → Int32)) : gcX (scY τ v) = gcX τ := rfl
theorem gs_X_Z (τ : CS) (v : (Nat → Int32)) : gcX (scZ τ v) = gcX τ := rfl
theorem gs_X_n (τ : CS) (v : Nat) : gcX (scn τ v) = gcX τ := rfl
theorem gs_X_V (τ : CS) (v : (Nat → Nat)) : gcX (scV τ v) = gcX τ := rfl
theorem gs_X_CV (τ : CS) (v : (Nat → Nat)) : gcX (scCV τ v) = gcX τ := rfl
theorem gs_X_ma (τ : CS) (v : Nat) : gcX (scma τ v) = gcX τ := rfl
theorem gs_X_re (τ : CS) (v : Nat) : gcX (scre τ v) = gcX τ := rfl
theorem gs_X_ca (τ : CS) (v : Nat) : gcX (scca τ v) = gcX τ := rfl
theorem gs_X_Rg (τ : CS) (v : (Nat → Val)) : gcX (scRg τ v) = gcX τ := rfl
theorem gs_X_Bo (τ : CS) (v : (Nat → Nat)) : gcX (scBo τ v) = gcX τ := rfl
theorem gs_X_Ne (τ : CS) (v : (Nat → Nat)) : gcX (scNe τ v) = gcX τ := rfl
theorem gs_X_An (τ : CS) (v : (Nat → Nat)) : gcX (scAn τ v) = gcX τ := rfl
theorem gs_X_Cl (τ : CS) (v : (Nat → Nat)) : gcX (scCl τ v) = gcX τ := rfl
theorem gs_X_Fl (τ : CS) (v : (Nat → Val)) : gcX (scFl τ v) = gcX τ := rfl
theorem gs_X_Po (τ : CS) (v : (Nat → Int32)) : gcX (scPo τ v) = gcX τ := rfl
theorem gs_X_Ct (τ : CS) (v : (Nat → Nat)) : gcX (scCt τ v) = gcX τ := rfl
theorem gs_X_sh (τ : CS) (v : Bool) : gcX (scsh τ v) = gcX τ := rfl
theorem gs_X_rm (τ : CS) (v : Nat) : gcX (scrm τ v) = gcX τ := rfl
theorem gs_X_fr (τ : CS) (v : Nat) : gcX (scfr τ v) = gcX τ := rfl
theorem gs_X_ob (τ : CS) (v : Nat) : gcX (scob τ v) = gcX τ := rfl
theorem gs_X_tr (τ : CS) (v : Nat) : gcX (sctr τ v) = gcX τ := rfl
theorem ss_X (τ : CS) (v w : (Nat → Nat)) : scX (scX τ v) w = scX τ w := rfl
theorem gs_Y_P (τ : CS) (v : (Nat → Option Nat)) : gcY (scP τ v) = gcY τ := rfl
theorem gs_Y_L (τ : CS) (v : (Nat → Nat)) : gcY (scL τ v) = gcY τ := rfl
theorem gs_Y_K (τ : CS) (v : (Nat → Nat)) : gcY (scK τ v) = gcY τ := rfl
theorem gs_Y_X (τ : CS) (v : (Nat → Nat)) : gcY (scX τ v) = gcY τ := rfl
theorem gs_Y_Y (τ : CS) (v : (Nat → Int32)) : gcY (scY τ v) = v := rfl
theorem gs_Y_Z (τ : CS) (v : (Nat → Int32)) : gcY (scZ τ v) = gcY τ := rfl
theorem gs_Y_n (τ : CS) (v : Nat) : gcY (scn τ v) = gcY τ := rfl
theorem gs_Y_V (τ : CS) (v : (Nat → Nat)) : gcY (scV τ v) = gcY τ := rfl
theorem gs_Y_CV (τ : CS) (v : (Nat → Nat)) : gcY (scCV τ v) = gcY τ := rfl
theorem gs_Y_ma (τ : CS) (v : Nat) : gcY (scma τ v) = gcY τ := rfl
theorem gs_Y_re (τ : CS) (v : Nat) : gcY (scre τ v) = gcY τ := rfl
theorem gs_Y_ca (τ : CS) (v : Nat) : gcY (scca τ v) = gcY τ := rfl
theorem gs_Y_Rg (τ : CS) (v : (Nat → Val)) : gcY (scRg τ v) = gcY τ := rfl
theorem gs_Y_Bo (τ : CS) (v : (Nat → Nat)) : gcY (scBo τ v) = gcY τ := rfl
theorem gs_Y_Ne (τ : CS) (v : (Nat → Nat)) : gcY (scNe τ v) = gcY τ := rfl
theorem gs_Y_An (τ : CS) (v : (Nat → Nat)) : gcY (scAn τ v) = gcY τ := rfl
theorem gs_Y_Cl (τ : CS) (v : (Nat → Nat)) : gcY (scCl τ v) = gcY τ := rfl
theorem gs_Y_Fl (τ : CS) (v : (Nat → Val)) : gcY (scFl τ v) = gcY τ := rfl
theorem gs_Y_Po (τ : CS) (v : (Nat → Int32)) : gcY (scPo τ v) = gcY τ := rfl
theorem gs_Y_Ct (τ : CS) (v : (Nat → Nat)) : gcY (scCt τ v) = gcY τ := rfl
theorem gs_Y_sh (τ : CS) (v : Bool) : gcY (scsh τ v) = gcY τ := rfl
theorem gs_Y_rm (τ : CS) (v : Nat) : gcY (scrm τ v) = gcY τ := rfl
theorem gs_Y_fr (τ : CS) (v : Nat) : gcY (scfr τ v) = gcY τ := rfl
theorem gs_Y_ob (τ : CS) (v : Nat) : gcY (scob τ v) = gcY τ := rfl
theorem gs_Y_tr (τ : CS) (v : Nat) : gcY (sctr τ v) = gcY τ := rfl
theorem ss_Y (τ : CS) (v w : (Nat → Int32)) : scY (scY τ v) w = scY τ w := rfl
theorem gs_Z_P (τ : CS) (v : (Nat → Option Nat)) : gcZ (scP τ v) = gcZ τ := rfl
theorem gs_Z_L (τ : CS) (v : (Nat → Nat)) : gcZ (scL τ v) = gcZ τ := rfl
theorem gs_Z_K (τ : CS) (v : (Nat → Nat)) : gcZ (scK τ v) = gcZ τ := rfl
theorem gs_Z_X (τ : CS) (v : (Nat → Nat)) : gcZ (scX τ v) = gcZ τ := rfl
theorem gs_Z_Y (τ : CS) (v : (Nat → Int32)) : gcZ (scY τ v) = gcZ τ := rfl
theorem gs_Z_Z (τ : CS) (v : (Nat → Int32)) : gcZ (scZ τ v) = v := rfl
theorem gs_Z_n (τ : CS) (v : Nat) : gcZ (scn τ v) = gcZ τ := rfl
theorem gs_Z_V (τ : CS) (v : (Nat → Nat)) : gcZ (scV τ v) = gcZ τ := rfl
theorem gs_Z_CV (τ : CS) (v : (Nat → Nat)) : gcZ (scCV τ v) = gcZ τ := rfl
theorem gs_Z_ma (τ : CS) (v : Nat) : gcZ (scma τ v) = gcZ τ := rfl
theorem gs_Z_re (τ : CS) (v : Nat) : gcZ (scre τ v) = gcZ τ := rfl
theorem gs_Z_ca (τ : CS) (v : Nat) : gcZ (scca τ v) = gcZ τ := rfl
theorem gs_Z_Rg (τ : CS) (v : (Nat → Val)) : gcZ (scRg τ v) = gcZ τ := rfl
theorem gs_Z_Bo (τ : CS) (v : (Nat → Nat)) : gcZ (scBo τ v) = gcZ τ := rfl
theorem gs_Z_Ne (τ : CS) (v : (Nat → Nat)) : gcZ (scNe τ v) = gcZ τ := rfl
theorem gs_Z_An (τ : CS) (v : (Nat → Nat)) : gcZ (scAn τ v) = gcZ τ := rfl
theorem gs_Z_Cl (τ : CS) (v : (Nat → Nat)) : gcZ (scCl τ v) = gcZ τ := rfl
theorem gs_Z_Fl (τ : CS) (v : (Nat → Val)) : gcZ (scFl τ v) = gcZ τ := rfl
theorem gs_Z_Po (τ : CS) (v : (Nat → Int32)) : gcZ (scPo τ v) = gcZ τ := rfl
theorem gs_Z_Ct (τ : CS) (v : (Nat → Nat)) : gcZ (scCt τ v) = gcZ τ := rfl
theorem gs_Z_sh (τ : CS) (v : Bool) : gcZ (scsh τ v) = gcZ τ := rfl
theorem gs_Z_rm (τ : CS) (v : Nat) : gcZ (scrm τ v) = gcZ τ := rfl
theorem gs_Z_fr (τ : CS) (v : Nat) : gcZ (scfr τ v) = gcZ τ := rfl
theorem gs_Z_ob (τ : CS) (v : Nat) : gcZ (scob τ v) = gcZ τ := rfl
theorem gs_Z_tr (τ : CS) (v : Nat) : gcZ (sctr τ v) = gcZ τ := rfl
theorem ss_Z (τ : CS) (v w : (Nat → Int32)) : scZ (scZ τ v) w = scZ τ w := rfl
theorem gs_n_P (τ : CS) (v : (Nat → Option Nat)) : gcn (scP τ v) = gcn τ := rfl
theorem gs_n_L (τ : CS) (v : (Nat → Nat)) : gcn (scL τ v) = gcn τ := rfl
theorem gs_n_K (τ : CS) (v : (Nat → Nat)) : gcn (scK τ v) = gcn τ := rfl
theorem gs_n_X (τ : CS) (v : (Nat → Nat)) : gcn (scX τ v) = gcn τ := rfl
theorem gs_n_Y (τ : CS) (v : (Nat → Int32)) : gcn (scY τ v) = gcn τ := rfl
theorem gs_n_Z (τ : CS) (v : (Nat → Int32)) : gcn (scZ τ v) = gcn τ := rfl
theorem gs_n_n (τ : CS) (v : Nat) : gcn (scn τ v) = v := rfl
theorem gs_n_V (τ : CS) (v : (Nat → Nat)) : gcn (scV τ v) = gcn τ := rfl
theorem gs_n_CV (τ : CS) (v : (Nat → Nat)) : gcn (scCV τ v) = gcn τ := rfl
theorem gs_n_ma (τ : CS) (v : Nat) : gcn (scma τ v) = gcn τ := rfl
theorem gs_n_re (τ : CS) (v : Nat) : gcn (scre τ v) = gcn τ := rfl
theorem gs_n_ca (τ : CS) (v : Nat) : gcn (scca τ v) = gcn τ := rfl
theorem gs_n_Rg (τ : CS) (v : (Nat → Val)) : gcn (scRg τ v) = gcn τ := rfl
theorem gs_n_Bo (τ : CS) (v : (Nat → Nat)) : gcn (scBo τ v) = gcn τ := rfl
theorem gs_n_Ne (τ : CS) (v : (Nat → Nat)) : gcn (scNe τ v) = gcn τ := rfl
theorem gs_n_An (τ : CS) (v : (Nat → Nat)) : gcn (scAn τ v) = gcn τ := rfl
theorem gs_n_Cl (τ : CS) (v : (Nat → Nat)) : gcn (scCl τ v) = gcn τ := rfl
theorem gs_n_Fl (τ : CS) (v : (Nat → Val)) : gcn (scFl τ v) = gcn τ := rfl
theorem gs_n_Po (τ : CS) (v : (Nat → Int32)) : gcn (scPo τ v) = gcn τ := rfl
theorem gs_n_Ct (τ : CS) (v : (Nat → Nat)) : gcn (scCt τ v) = gcn τ := rfl
theorem gs_n_sh (τ : CS) (v : Bool) : gcn (scsh τ v) = gcn τ := rfl
theorem gs_n_rm (τ : CS) (v : Nat) : gcn (scrm τ v) = gcn τ := rfl
theorem gs_n_fr (τ : CS) (v : Nat) : gcn (scfr τ v) = gcn τ := rfl
theorem gs_n_ob (τ : CS) (v : Nat) : gcn (scob τ v) = gcn τ := rfl
theorem gs_n_tr (τ : CS) (v : Nat) : gcn (sctr τ v) = gcn τ := rfl
theorem ss_n (τ : CS) (v w : Nat) : scn (scn τ v) w = scn τ w := rfl
theorem gs_V_P (τ : CS) (v : (Nat → Option Nat)) : gcV (scP τ v) = gcV τ := rfl
theorem gs_V_L (τ : CS) (v : (Nat → Nat)) : gcV (scL τ v) = gcV τ := rfl
theorem gs_V_K (τ : CS) (v : (Nat → Nat)) : gcV (scK τ v) = gcV τ := rfl
theorem gs_V_X (τ : CS) (v : (Nat → Nat)) : gcV (scX τ v) = gcV τ := rfl
theorem gs_V_Y (τ : CS) (v : (Nat → Int32)) : gcV (scY τ v) = gcV τ := rfl
theorem gs_V_Z (τ : CS) (v : (Nat → Int32)) : gcV (scZ τ v) = gcV τ := rfl
theorem gs_V_n (τ : CS) (v : Nat) : gcV (scn τ v) = gcV τ := rfl
theorem gs_V_V (τ : CS) (v : (Nat → Nat)) : gcV (scV τ v) = v := rfl
theorem gs_V_CV (τ : CS) (v : (Nat → Nat)) : gcV (scCV τ v) = gcV τ := rfl
theorem gs_V_ma (τ : CS) (v : Nat) : gcV (scma τ v) = gcV τ := rfl
theorem gs_V_re (τ : CS) (v : Nat) : gcV (scre τ v) = gcV τ := rfl
theorem gs_V_ca (τ : CS) (v : Nat) : gcV (scca τ v) = gcV τ := rfl
theorem gs_V_Rg (τ : CS) (v : (Nat → Val)) : gcV (scRg τ v) = gcV τ := rfl
theorem gs_V_Bo (τ : CS) (v : (Nat → Nat)) : gcV (scBo τ v) = gcV τ := rfl
theorem gs_V_Ne (τ : CS) (v : (Nat → Nat)) : gcV (scNe τ v) = gcV τ := rfl
theorem gs_V_An (τ : CS) (v : (Nat → Nat)) : gcV (scAn τ v) = gcV τ := rfl
theorem gs_V_Cl (τ : CS) (v : (Nat → Nat)) : gcV (scCl τ v) = gcV τ := rfl
theorem gs_V_Fl (τ : CS) (v : (Nat → Val)) : gcV (scFl τ v) = gcV τ := rfl
theorem gs_V_Po (τ : CS) (v : (Nat → Int32)) : gcV (scPo τ v) = gcV τ := rfl
theorem gs_V_Ct (τ : CS) (v : (Nat → Nat)) : gcV (scCt τ v) = gcV τ := rfl
theorem gs_V_sh (τ : CS) (v : Bool) : gcV (scsh τ v) = gcV τ := rfl
theorem gs_V_rm (τ : CS) (v : Nat) : gcV (scrm τ v) = gcV τ := rfl
theorem gs_V_fr (τ : CS) (v : Nat) : gcV (scfr τ v) = gcV τ := rfl
theorem gs_V_ob (τ : CS) (v : Nat) : gcV (scob τ v) = gcV τ := rfl
theorem gs_V_tr (τ : CS) (v : Nat) : gcV (sctr τ v) = gcV τ := rfl
theorem ss_V (τ : CS) (v w : (Nat → Nat)) : scV (scV τ v) w = scV τ w := rfl
theorem gs_CV_P (τ : CS) (v : (Nat → Option Nat)) : gcCV (scP τ v) = gcCV τ := rfl
theorem gs_CV_L (τ : CS) (v : (Nat → Nat)) : gcCV (scL τ v) = gcCV τ := rfl
theorem gs_CV_K (τ : CS) (v : (Nat → Nat)) : gcCV (scK τ v) = gcCV τ := rfl
theorem gs_CV_X (τ : CS) (v : (Nat → Nat)) : gcCV (scX τ v) = gcCV τ := rfl
theorem gs_CV_Y (τ : CS) (v : (Nat → Int32)) : gcCV (scY τ v) = gcCV τ := rfl
theorem gs_CV_Z (τ : CS) (v : (Nat → Int32)) : gcCV (scZ τ v) = gcCV τ := rfl
theorem gs_CV_n (τ : CS) (v : Nat) : gcCV (scn τ v) = gcCV τ := rfl
theorem gs_CV_V (τ : CS) (v : (Nat → Nat)) : gcCV (scV τ v) = gcCV τ := rfl
theorem gs_CV_CV (τ : CS) (v : (Nat → Nat)) : gcCV (scCV τ v) = v := rfl
theorem gs_CV_ma (τ : CS) (v : Nat) : gcCV (scma τ v) = gcCV τ := rfl
theorem gs_CV_re (τ : CS) (v : Nat) : gcCV (scre τ v) = gcCV τ := rfl
theorem gs_CV_ca (τ : CS) (v : Nat) : gcCV (scca τ v) = gcCV τ := rfl
theorem gs_CV_Rg (τ : CS) (v : (Nat → Val)) : gcCV (scRg τ v) = gcCV τ := rfl
theorem gs_CV_Bo (τ : CS) (v : (Nat → Nat)) : gcCV (scBo τ v) = gcCV τ := rfl
theorem gs_CV_Ne (τ : CS) (v : (Nat → Nat)) : gcCV (scNe τ v) = gcCV τ := rfl
theorem gs_CV_An (τ : CS) (v : (Nat → Nat)) : gcCV (scAn τ v) = gcCV τ := rfl
theorem gs_CV_Cl (τ : CS) (v : (Nat → Nat)) : gcCV (scCl τ v) = gcCV τ := rfl
theorem gs_CV_Fl (τ : CS) (v : (Nat → Val)) : gcCV (scFl τ v) = gcCV τ := rfl
theorem gs_CV_Po (τ : CS) (v : (Nat → Int32)) : gcCV (scPo τ v) = gcCV τ := rfl
theorem gs_CV_Ct (τ : CS) (v : (Nat → Nat)) : gcCV (scCt τ v) = gcCV τ := rfl
theorem gs_CV_sh (τ : CS) (v : Bool) : gcCV (scsh τ v) = gcCV τ := rfl
theorem gs_CV_rm (τ : CS) (v : Nat) : gcCV (scrm τ v) = gcCV τ := rfl
theorem gs_CV_fr (τ : CS) (v : Nat) : gcCV (scfr τ v) = gcCV τ := rfl
theorem gs_CV_ob (τ : CS) (v : Nat) : gcCV (scob τ v) = gcCV τ := rfl
theorem gs_CV_tr (τ : CS) (v : Nat) : gcCV (sctr τ v) = gcCV τ := rfl
theorem ss_CV (τ : CS) (v w : (Nat → Nat)) : scCV (scCV τ v) w = scCV τ w := rfl
theorem gs_ma_P (τ : CS) (v : (Nat → Option Nat)) : gcma (scP τ v) = gcma τ := rfl
theorem gs_ma_L (τ : CS) (v : (Nat → Nat)) : gcma (scL τ v) = gcma τ := rfl
theorem gs_ma_K (τ : CS) (v : (Nat → Nat)) : gcma (scK τ v) = gcma τ := rfl
theorem gs_ma_X (τ : CS) (v : (Nat → Nat)) : gcma (scX τ v) = gcma τ := rfl
theorem gs_ma_Y (τ : CS) (v : (Nat → Int32)) : gcma (scY τ v) = gcma τ := rfl
theorem gs_ma_Z (τ : CS) (v : (Nat → Int32)) : gcma (scZ τ v) = gcma τ := rfl
theorem gs_ma_n (τ : CS) (v : Nat) : gcma (scn τ v) = gcma τ := rfl
theorem gs_ma_V (τ : CS) (v : (Nat → Nat)) : gcma (scV τ v) = gcma τ := rfl
theorem gs_ma_CV (τ : CS) (v : (Nat → Nat)) : gcma (scCV τ v) = gcma τ := rfl
theorem gs_ma_ma (τ : CS) (v : Nat) : gcma (scma τ v) = v := rfl
theorem gs_ma_re (τ : CS) (v : Nat) : gcma (scre τ v) = gcma τ := rfl
theorem gs_ma_ca (τ : CS) (v : Nat) : gcma (scca τ v) = gcma τ := rfl
theorem gs_ma_Rg (τ : CS) (v : (Nat → Val)) : gcma (scRg τ v) = gcma τ := rfl
theorem gs_ma_Bo (τ : CS) (v : (Nat → Nat)) : gcma (scBo τ v) = gcma τ := rfl
theorem gs_ma_Ne (τ : CS) (v : (Nat → Nat)) : gcma (scNe τ v) = gcma τ := rfl
theorem gs_ma_An (τ : CS) (v : (Nat → Nat)) : gcma (scAn τ v) = gcma τ := rfl
theorem gs_ma_Cl (τ : CS) (v : (Nat → Nat)) : gcma (scCl τ v) = gcma τ := rfl
theorem gs_ma_Fl (τ : CS) (v : (Nat → Val)) : gcma (scFl τ v) = gcma τ := rfl
theorem gs_ma_Po (τ : CS) (v : (Nat → Int32)) : gcma (scPo τ v) = gcma τ := rfl
theorem gs_ma_Ct (τ : CS) (v : (Nat → Nat)) : gcma (scCt τ v) = gcma τ := rfl
theorem gs_ma_sh (τ : CS) (v : Bool) : gcma (scsh τ v) = gcma τ := rfl
theorem gs_ma_rm (τ : CS) (v : Nat) : gcma (scrm τ v) = gcma τ := rfl
theorem gs_ma_fr (τ : CS) (v : Nat) : gcma (scfr τ v) = gcma τ := rfl
theorem gs_ma_ob (τ : CS) (v : Nat) : gcma (scob τ v) = gcma τ := rfl
theorem gs_ma_tr (τ : CS) (v : Nat) : gcma (sctr τ v) = gcma τ := rfl
theorem ss_ma (τ : CS) (v w : Nat) : scma (scma τ v) w = scma τ w := rfl
theorem gs_re_P (τ : CS) (v : (Nat → Option Nat)) : gcre (scP τ v) = gcre τ := rfl
theorem gs_re_L (τ : CS) (v : (Nat → Nat)) : gcre (scL τ v) = gcre τ := rfl
theorem gs_re_K (τ : CS) (v : (Nat → Nat)) : gcre (scK τ v) = gcre τ := rfl
theorem gs_re_X (τ : CS) (v : (Nat → Nat)) : gcre (scX τ v) = gcre τ := rfl
theorem gs_re_Y (τ : CS) (v : (Nat → Int32)) : gcre (scY τ v) = gcre τ := rfl
theorem gs_re_Z (τ : CS) (v : (Nat → Int32)) : gcre (scZ τ v) = gcre τ := rfl
theorem gs_re_n (τ : CS) (v : Nat) : gcre (scn τ v) = gcre τ := rfl
theorem gs_re_V (τ : CS) (v : (Nat → Nat)) : gcre (scV τ v) = gcre τ := rfl
theorem gs_re_CV (τ : CS) (v : (Nat → Nat)) : gcre (scCV τ v) = gcre τ := rfl
theorem gs_re_ma (τ : CS) (v : Nat) : gcre (scma τ v) = gcre τ := rfl
theorem gs_re_re (τ : CS) (v : Nat) : gcre (scre τ v) = v := rfl
theorem gs_re_ca (τ : CS) (v : Nat) : gcre (scca τ v) = gcre τ := rfl
theorem gs_re_Rg (τ : CS) (v : (Nat → Val)) : gcre (scRg τ v) = gcre τ := rfl
theorem gs_re_Bo (τ : CS) (v : (Nat → Nat)) : gcre (scBo τ v) = gcre τ := rfl
theorem gs_re_Ne (τ : CS) (v : (Nat → Nat)) : gcre (scNe τ v) = gcre τ := rfl
theorem gs_re_An (τ : CS) (v : (Nat → Nat)) : gcre (scAn τ v) = gcre τ := rfl
theorem gs_re_Cl (τ : CS) (v : (Nat → Nat)) : gcre (scCl τ v) = gcre τ := rfl
theorem gs_re_Fl (τ : CS) (v : (Nat → Val)) : gcre (scFl τ v) = gcre τ := rfl
theorem gs_re_Po (τ : CS) (v : (Nat → Int32)) : gcre (scPo τ v) = gcre τ := rfl
theorem gs_re_Ct (τ : CS) (v : (Nat → Nat)) : gcre (scCt τ v) = gcre τ := rfl
theorem gs_re_sh (τ : CS) (v : Bool) : gcre (scsh τ v) = gcre τ := rfl
theorem gs_re_rm (τ : CS) (v : Nat) : gcre (scrm τ v) = gcre τ := rfl
theorem gs_re_fr (τ : CS) (v : Nat) : gcre (scfr τ v) = gcre τ := rfl
theorem gs_re_ob (τ : CS) (v : Nat) : gcre (scob τ v) = gcre τ := rfl
theorem gs_re_tr (τ : CS) (v : Nat) : gcre (sctr τ v) = gcre τ := rfl
theorem ss_re (τ : CS) (v w : Nat) : scre (scre τ v) w = scre τ w := rfl
theorem gs_ca_P (τ : CS) (v : (Nat → Option Nat)) : gcca (scP τ v) = gcca τ := rfl
theorem gs_ca_L (τ : CS) (v : (Nat → Nat)) : gcca (scL τ v) = gcca τ := rfl
theorem gs_ca_K (τ : CS) (v : (Nat → Nat)) : gcca (scK τ v) = gcca τ := rfl
theorem gs_ca_X (τ : CS) (v : (Nat → Nat)) : gcca (scX τ v) = gcca τ := rfl
theorem gs_ca_Y (τ : CS) (v : (Nat → Int32)) : gcca (scY τ v) = gcca τ := rfl
theorem gs_ca_Z (τ : CS) (v : (Nat → Int32)) : gcca (scZ τ v) = gcca τ := rfl
theorem gs_ca_n (τ : CS) (v : Nat) : gcca (scn τ v) = gcca τ := rfl
theorem gs_ca_V (τ : CS) (v : (Nat → Nat)) : gcca (scV τ v) = gcca τ := rfl
theorem gs_ca_CV (τ : CS) (v : (Nat → Nat)) : gcca (scCV τ v) = gcca τ := rfl
theorem gs_ca_ma (τ : CS) (v : Nat) : gcca (scma τ v) = gcca τ := rfl
theorem gs_ca_re (τ : CS) (v : Nat) : gcca (scre τ v) = gcca τ := rfl
theorem gs_ca_ca (τ : CS) (v : Nat) : gcca (scca τ v) = v := rfl
theorem gs_ca_Rg (τ : CS) (v : (Nat → Val)) : gcca (scRg τ v) = gcca τ := rfl
theorem gs_ca_Bo (τ : CS) (v : (Nat → Nat)) : gcca (scBo τ v) = gcca τ := rfl
theorem gs_ca_Ne (τ : CS) (v : (Nat → Nat)) : gcca (scNe τ v) = gcca τ := rfl
theorem gs_ca_An (τ : CS) (v : (Nat → Nat)) : gcca (scAn τ v) = gcca τ := rfl
theorem gs_ca_Cl (τ : CS) (v : (Nat → Nat)) : gcca (scCl τ v) = gcca τ := rfl
theorem gs_ca_Fl (τ : CS) (v : (Nat → Val)) : gcca (scFl τ v) = gcca τ := rfl
theorem gs_ca_Po (τ : CS) (v : (Nat → Int32)) : gcca (scPo τ v) = gcca τ := rfl
theorem gs_ca_Ct (τ : CS) (v : (Nat → Nat)) : gcca (scCt τ v) = gcca τ := rfl
theorem gs_ca_sh (τ : CS) (v : Bool) : gcca (scsh τ v) = gcca τ := rfl
theorem gs_ca_rm (τ : CS) (v : Nat) : gcca (scrm τ v) = gcca τ := rfl
theorem gs_ca_fr (τ : CS) (v : Nat) : gcca (scfr τ v) = gcca τ := rfl
theorem gs_ca_ob (τ : CS) (v : Nat) : gcca (scob τ v) = gcca τ := rfl
theorem gs_ca_tr (τ : CS) (v : Nat) : gcca (sctr τ v) = gcca τ := rfl
theorem ss_ca (τ : CS) (v w : Nat) : scca (scca τ v) w = scca τ w := rfl
theorem gs_Rg_P (τ : CS) (v : (Nat → Option Nat)) : gcRg (scP τ v) = gcRg τ := rfl
theorem gs_Rg_L (τ : CS) (v : (Nat → Nat)) : gcRg (scL τ v) = gcRg τ := rfl
theorem gs_Rg_K (τ : CS) (v : (Nat → Nat)) : gcRg (scK τ v) = gcRg τ := rfl
theorem gs_Rg_X (τ : CS) (v : (Nat → Nat)) : gcRg (scX τ v) = gcRg τ := rfl
theorem gs_Rg_Y (τ : CS) (v : (Nat → Int32)) : gcRg (scY τ v) = gcRg τ := rfl
theorem gs_Rg_Z (τ : CS) (v : (Nat → Int32)) : gcRg (scZ τ v) = gcRg τ := rfl
theorem gs_Rg_n (τ : CS) (v : Nat) : gcRg (scn τ v) = gcRg τ := rfl
theorem gs_Rg_V (τ : CS) (v : (Nat → Nat)) : gcRg (scV τ v) = gcRg τ := rfl
theorem gs_Rg_CV (τ : CS) (v : (Nat → Nat)) : gcRg (scCV τ v) = gcRg τ := rfl
theorem gs_Rg_ma (τ : CS) (v : Nat) : gcRg (scma τ v) = gcRg τ := rfl
theorem gs_Rg_re (τ : CS) (v : Nat) : gcRg (scre τ v) = gcRg τ := rfl
theorem gs_Rg_ca (τ : CS) (v : Nat) : gcRg (scca τ v) = gcRg τ := rfl
theorem gs_Rg_Rg (τ : CS) (v : (Nat → Val)) : gcRg (scRg τ v) = v := rfl
theorem gs_Rg_Bo (τ : CS) (v : (Nat → Nat)) : gcRg (scBo τ v) = gcRg τ := rfl
theorem gs_Rg_Ne (τ : CS) (v : (Nat → Nat)) : gcRg (scNe τ v) = gcRg τ := rfl
theorem gs_Rg_An (τ : CS) (v : (Nat → Nat)) : gcRg (scAn τ v) = gcRg τ := rfl
theorem gs_Rg_Cl (τ : CS) (v : (Nat → Nat)) : gcRg (scCl τ v) = gcRg τ := rfl
theorem gs_Rg_Fl (τ : CS) (v : (Nat → Val)) : gcRg (scFl τ v) = gcRg τ := rfl
theorem gs_Rg_Po (τ : CS) (v : (Nat → Int32)) : gcRg (scPo τ v) = gcRg τ := rfl
theorem gs_Rg_Ct (τ : CS) (v : (Nat → Nat)) : gcRg (scCt τ v) = gcRg τ := rfl
theorem gs_Rg_sh (τ : CS) (v : Bool) : gcRg (scsh τ v) = gcRg τ := rfl
theorem gs_Rg_rm (τ : CS) (v : Nat) : gcRg (scrm τ v) = gcRg τ := rfl
theorem gs_Rg_fr (τ : CS) (v : Nat) : gcRg (scfr τ v) = gcRg τ := rfl
theorem gs_Rg_ob (τ : CS) (v : Nat) : gcRg (scob τ v) = gcRg τ := rfl
theorem gs_Rg_tr (τ : CS) (v : Nat) : gcRg (sctr τ v) = gcRg τ := rfl
theorem ss_Rg (τ : CS) (v w : (Nat → Val)) : scRg (scRg τ v) w = scRg τ w := rfl
theorem gs_Bo_P (τ : CS) (v : (Nat → Option Nat)) : gcBo (scP τ v) = gcBo τ := rfl
theorem gs_Bo_L (τ : CS) (v : (Nat → Nat)) : gcBo (scL τ v) = gcBo τ := rfl
theorem gs_Bo_K (τ : CS) (v : (Nat → Nat)) : gcBo (scK τ v) = gcBo τ := rfl
theorem gs_Bo_X (τ : CS) (v : (Nat → Nat)) : gcBo (scX τ v) = gcBo τ := rfl
theorem gs_Bo_Y (τ : CS) (v : (Nat → Int32)) : gcBo (scY τ v) = gcBo τ := rfl
theorem gs_Bo_Z (τ : CS) (v : (Nat → Int32)) : gcBo (scZ τ v) = gcBo τ := rfl
theorem gs_Bo_n (τ : CS) (v : Nat) : gcBo (scn τ v) = gcBo τ := rfl
theorem gs_Bo_V (τ : CS) (v : (Nat → Nat)) : gcBo (scV τ v) = gcBo τ := rfl
theorem gs_Bo_CV (τ : CS) (v : (Nat → Nat)) : gcBo (scCV τ v) = gcBo τ := rfl
theorem gs_Bo_ma (τ : CS) (v : Nat) : gcBo (scma τ v) = gcBo τ := rfl
theorem gs_Bo_re (τ : CS) (v : Nat) : gcBo (scre τ v) = gcBo τ := rfl
theorem gs_Bo_ca (τ : CS) (v : Nat) : gcBo (scca τ v) = gcBo τ := rfl
theorem gs_Bo_Rg (τ : CS) (v : (Nat → Val)) : gcBo (scRg τ v) = gcBo τ := rfl
theorem gs_Bo_Bo (τ : CS) (v : (Nat → Nat)) : gcBo (scBo τ v) = v := rfl
theorem gs_Bo_Ne (τ : CS) (v : (Nat → Nat)) : gcBo (scNe τ v) = gcBo τ := rfl
theorem gs_Bo_An (τ : CS) (v : (Nat → Nat)) : gcBo (scAn τ v) = gcBo τ := rfl
theorem gs_Bo_Cl (τ : CS) (v : (Nat → Nat)) : gcBo (scCl τ v) = gcBo τ := rfl
theorem gs_Bo_Fl (τ : CS) (v : (Nat → Val)) : gcBo (scFl τ v) = gcBo τ := rfl
theorem gs_Bo_Po (τ : CS) (v : (Nat → Int32)) : gcBo (scPo τ v) = gcBo τ := rfl
theorem gs_Bo_Ct (τ : CS) (v : (Nat → Nat)) : gcBo (scCt τ v) = gcBo τ := rfl
theorem gs_Bo_sh (τ : CS) (v : Bool) : gcBo (scsh τ v) = gcBo τ := rfl
theorem gs_Bo_rm (τ : CS) (v : Nat) : gcBo (scrm τ v) = gcBo τ := rfl
theorem gs_Bo_fr (τ : CS) (v : Nat) : gcBo (scfr τ v) = gcBo τ := rfl
theorem gs_Bo_ob (τ : CS) (v : Nat) : gcBo (scob τ v) = gcBo τ := rfl
theorem gs_Bo_tr (τ : CS) (v : Nat) : gcBo (sctr τ v) = gcBo τ := rfl
theorem ss_Bo (τ : CS) (v w : (Nat → Nat)) : scBo (scBo τ v) w = scBo τ w := rfl
theorem gs_Ne_P (τ : CS) (v : (Nat → Option Nat)) : gcNe (scP τ v) = gcNe τ := rfl
theorem gs_Ne_L (τ : CS) (v : (Nat → Nat)) : gcNe (scL τ v) = gcNe τ := rfl
theorem gs_Ne_K (τ : CS) (v : (Nat → Nat)) : gcNe (scK τ v) = gcNe τ := rfl
theorem gs_Ne_X (τ : CS) (v : (Nat → Nat)) : gcNe (scX τ v) = gcNe τ := rfl
theorem gs_Ne_Y (τ : CS) (v : (Nat → Int32)) : gcNe (scY τ v) = gcNe τ := rfl
theorem gs_Ne_Z (τ : CS) (v : (Nat → Int32)) : gcNe (scZ τ v) = gcNe τ := rfl
theorem gs_Ne_n (τ : CS) (v : Nat) : gcNe (scn τ v) = gcNe τ := rfl
theorem gs_Ne_V (τ : CS) (v : (Nat → Nat)) : gcNe (scV τ v) = gcNe τ := rfl
theorem gs_Ne_CV (τ : CS) (v : (Nat → Nat)) : gcNe (scCV τ v) = gcNe τ := rfl
theorem gs_Ne_ma (τ : CS) (v : Nat) : gcNe (scma τ v) = gcNe τ := rfl
theorem gs_Ne_re (τ : CS) (v : Nat) : gcNe (scre τ v) = gcNe τ := rfl
theorem gs_Ne_ca (τ : CS) (v : Nat) : gcNe (scca τ v) = gcNe τ := rfl
theorem gs_Ne_Rg (τ : CS) (v : (Nat → Val)) : gcNe (scRg τ v) = gcNe τ := rfl
theorem gs_Ne_Bo (τ : CS) (v : (Nat → Nat)) : gcNe (scBo τ v) = gcNe τ := rfl
theorem gs_Ne_Ne (τ : CS) (v : (Nat → Nat)) : gcNe (scNe τ v) = v := rfl
theorem gs_Ne_An (τ : CS) (v : (Nat → Nat)) : gcNe (scAn τ v) = gcNe τ := rfl
theorem gs_Ne_Cl (τ : CS) (v : (Nat → Nat)) : gcNe (scCl τ v) = gcNe τ := rfl
theorem gs_Ne_Fl (τ : CS) (v : (Nat → Val)) : gcNe (scFl τ v) = gcNe τ := rfl
theorem gs_Ne_Po (τ : CS) (v : (Nat → Int32)) : gcNe (scPo τ v) = gcNe τ := rfl
theorem gs_Ne_Ct (τ : CS) (v : (Nat → Nat)) : gcNe (scCt τ v) = gcNe τ := rfl
theorem gs_Ne_sh (τ : CS) (v : Bool) : gcNe (scsh τ v) = gcNe τ := rfl
theorem gs_Ne_rm (τ : CS) (v : Nat) : gcNe (scrm τ v) = gcNe τ := rfl
theorem gs_Ne_fr (τ : CS) (v : Nat) : gcNe (scfr τ v) = gcNe τ := rfl
theorem gs_Ne_ob (τ : CS) (v : Nat) : gcNe (scob τ v) = gcNe τ := rfl
theorem gs_Ne_tr (τ : CS) (v : Nat) : gcNe (sctr τ v) = gcNe τ := rfl
theorem ss_Ne (τ : CS) (v w : (Nat → Nat)) : scNe (scNe τ v) w = scNe τ w := rfl
theorem gs_An_P (τ : CS) (v : (Nat → Option Nat)) : gcAn (scP τ v) = gcAn τ := rfl
theorem gs_An_L (τ : CS) (v : (Nat → Nat)) : gcAn (scL τ v) = gcAn τ := rfl
theorem gs_An_K (τ : CS) (v : (Nat → Nat)) : gcAn (scK τ v) = gcAn τ := rfl
theorem gs_An_X (τ : CS) (v : (Nat → Nat)) : gcAn (scX τ v) = gcAn τ := rfl
theorem gs_An_Y (τ : CS) (v : (Nat → Int32)) : gcAn (scY τ v) = gcAn τ := rfl
theorem gs_An_Z (τ : CS) (v : (Nat → Int32)) : gcAn (scZ τ v) = gcAn τ := rfl
theorem gs_An_n (τ : CS) (v : Nat) : gcAn (scn τ v) = gcAn τ := rfl
theorem gs_An_V (τ : CS) (v : (Nat → Nat)) : gcAn (scV τ v) = gcAn τ := rfl
theorem gs_An_CV (τ : CS) (v : (Nat → Nat)) : gcAn (scCV τ v) = gcAn τ := rfl
theorem gs_An_ma (τ : CS) (v : Nat) : gcAn (scma τ v) = gcAn τ := rfl
theorem gs_An_re (τ : CS) (v : Nat) : gcAn (scre τ v) = gcAn τ := rfl
theorem gs_An_ca (τ : CS) (v : Nat) : gcAn (scca τ v) = gcAn τ := rfl
theorem gs_An_Rg (τ : CS) (v : (Nat → Val)) : gcAn (scRg τ v) = gcAn τ := rfl
theorem gs_An_Bo (τ : CS) (v : (Nat → Nat)) : gcAn (scBo τ v) = gcAn τ := rfl
theorem gs_An_Ne (τ : CS) (v : (Nat → Nat)) : gcAn (scNe τ v) = gcAn τ := rfl
theorem gs_An_An (τ : CS) (v : (Nat → Nat)) : gcAn (scAn τ v) = v := rfl
theorem gs_An_Cl (τ : CS) (v : (Nat → Nat)) : gcAn (scCl τ v) = gcAn τ := rfl
theorem gs_An_Fl (τ : CS) (v : (Nat → Val)) : gcAn (scFl τ v) = gcAn τ := rfl
theorem gs_An_Po (τ : CS) (v : (Nat → Int32)) : gcAn (scPo τ v) = gcAn τ := rfl
theorem gs_An_Ct (τ : CS) (v : (Nat → Nat)) : gcAn (scCt τ v) = gcAn τ := rfl
theorem gs_An_sh (τ : CS) (v : Bool) : gcAn (scsh τ v) = gcAn τ := rfl
theorem gs_An_rm (τ : CS) (v : Nat) : gcAn (scrm τ v) = gcAn τ := rfl
theorem gs_An_fr (τ : CS) (v : Nat) : gcAn (scfr τ v) = gcAn τ := rfl
theorem gs_An_ob (τ : CS) (v : Nat) : gcAn (scob τ v) = gcAn τ := rfl
theorem gs_An_tr (τ : CS) (v : Nat) : gcAn (sctr τ v) = gcAn τ := rfl
theorem ss_An (τ : CS) (v w : (Nat → Nat)) : scAn (scAn τ v) w = scAn τ w := rfl
theorem gs_Cl_P (τ : CS) (v : (Nat → Option Nat)) : gcCl (scP τ v) = gcCl τ := rfl
theorem gs_Cl_L (τ : CS) (v : (Nat → Nat)) : gcCl (scL τ v) = gcCl τ := rfl
theorem gs_Cl_K (τ : CS) (v : (Nat → Nat)) : gcCl (scK τ v) = gcCl τ := rfl
theorem gs_Cl_X (τ : CS) (v : (Nat → Nat)) : gcCl (scX τ v) = gcCl τ := rfl
theorem gs_Cl_Y (τ : CS) (v : (Nat → Int32)) : gcCl (scY τ v) = gcCl τ := rfl
theorem gs_Cl_Z (τ : CS) (v : (Nat → Int32)) : gcCl (scZ τ v) = gcCl τ := rfl
theorem gs_Cl_n (τ : CS) (v : Nat) : gcCl (scn τ v) = gcCl τ := rfl
theorem gs_Cl_V (τ : CS) (v : (Nat → Nat)) : gcCl (scV τ v) = gcCl τ := rfl
theorem gs_Cl_CV (τ : CS) (v : (Nat → Nat)) : gcCl (scCV τ v) = gcCl τ := rfl
theorem gs_Cl_ma (τ : CS) (v : Nat) : gcCl (scma τ v) = gcCl τ := rfl
theorem gs_Cl_re (τ : CS) (v : Nat) : gcCl (scre τ v) = gcCl τ := rfl
theorem gs_Cl_ca (τ : CS) (v : Nat) : gcCl (scca τ v) = gcCl τ := rfl
theorem gs_Cl_Rg (τ : CS) (v : (Nat → Val)) : gcCl (scRg τ v) = gcCl τ := rfl
theorem gs_Cl_Bo (τ : CS) (v : (Nat → Nat)) : gcCl (scBo τ v) = gcCl τ := rfl
theorem gs_Cl_Ne (τ : CS) (v : (Nat → Nat)) : gcCl (scNe τ v) = gcCl τ := rfl
theorem gs_Cl_An (τ : CS) (v : (Nat → Nat)) : gcCl (scAn τ v) = gcCl τ := rfl
theorem gs_Cl_Cl (τ : CS) (v : (Nat → Nat)) : gcCl (scCl τ v) = v := rfl
theorem gs_Cl_Fl (τ : CS) (v : (Nat → Val)) : gcCl (scFl τ v) = gcCl τ := rfl
theorem gs_Cl_Po (τ : CS) (v : (Nat → Int32)) : gcCl (scPo τ v) = gcCl τ := rfl
theorem gs_Cl_Ct (τ : CS) (v : (Nat → Nat)) : gcCl (scCt τ v) = gcCl τ := rfl
theorem gs_Cl_sh (τ : CS) (v : Bool) : gcCl (scsh τ v) = gcCl τ := rfl
theorem gs_Cl_rm (τ : CS) (v : Nat) : gcCl (scrm τ v) = gcCl τ := rfl
theorem gs_Cl_fr (τ : CS) (v : Nat) : gcCl (scfr τ v) = gcCl τ := rfl
theorem gs_Cl_ob (τ : CS) (v : Nat) : gcCl (scob τ v) = gcCl τ := rfl
theorem gs_Cl_tr (τ : CS) (v : Nat) : gcCl (sctr τ v) = gcCl τ := rfl
theorem ss_Cl (τ : CS) (v w : (Nat → Nat)) : scCl (scCl τ v) w = scCl τ w := rfl
theorem gs_Fl_P (τ : CS) (v : (Nat → Option Nat)) : gcFl (scP τ v) = gcFl τ := rfl
theorem gs_Fl_L (τ : CS) (v : (Nat → Nat)) : gcFl (scL τ v) = gcFl τ := rfl
theorem gs_Fl_K (τ : CS) (v : (Nat → Nat)) : gcFl (scK τ v) = gcFl τ := rfl
theorem gs_Fl_X (τ : CS) (v : (Nat → Nat)) : gcFl (scX τ v) = gcFl τ := rfl
theorem gs_Fl_Y (τ : CS) (v : (Nat → Int32)) : gcFl (scY τ v) = gcFl τ := rfl
theorem gs_Fl_Z (τ : CS) (v : (Nat → Int32)) : gcFl (scZ τ v) = gcFl τ := rfl
theorem gs_Fl_n (τ : CS) (v : Nat) : gcFl (scn τ v) = gcFl τ := rfl
theorem gs_Fl_V (τ : CS) (v : (Nat → Nat)) : gcFl (scV τ v) = gcFl τ := rfl
theorem gs_Fl_CV (τ : CS) (v : (Nat → Nat)) : gcFl (scCV τ v) = gcFl τ := rfl
theorem gs_Fl_ma (τ : CS) (v : Nat) : gcFl (scma τ v) = gcFl τ := rfl
theorem gs_Fl_re (τ : CS) (v : Nat) : gcFl (scre τ v) = gcFl τ := rfl
theorem gs_Fl_ca (τ : CS) (v : Nat) : gcFl (scca τ v) = gcFl τ := rfl
theorem gs_Fl_Rg (τ : CS) (v : (Nat → Val)) : gcFl (scRg τ v) = gcFl τ := rfl
theorem gs_Fl_Bo (τ : CS) (v : (Nat → Nat)) : gcFl (scBo τ v) = gcFl τ := rfl
theorem gs_Fl_Ne (τ : CS) (v : (Nat → Nat)) : gcFl (scNe τ v) = gcFl τ := rfl
theorem gs_Fl_An (τ : CS) (v : (Nat → Nat)) : gcFl (scAn τ v) = gcFl τ := rfl
theorem gs_Fl_Cl (τ : CS) (v : (Nat → Nat)) : gcFl (scCl τ v) = gcFl τ := rfl
theorem gs_Fl_Fl (τ : CS) (v : (Nat → Val)) : gcFl (scFl τ v) = v := rfl
theorem gs_Fl_Po (τ : CS) (v : (Nat → Int32)) : gcFl (scPo τ v) = gcFl τ := rfl
theorem gs_Fl_Ct (τ : CS) (v : (Nat → Nat)) : gcFl (scCt τ v) = gcFl τ := rfl
theorem gs_Fl_sh (τ : CS) (v : Bool) : gcFl (scsh τ v) = gcFl τ := rfl
theorem gs_Fl_rm (τ : CS) (v : Nat) : gcFl (scrm τ v) = gcFl τ := rfl
theorem gs_Fl_fr (τ : CS) (v : Nat) : gcFl (scfr τ v) = gcFl τ := rfl
theorem gs_Fl_ob (τ : CS) (v : Nat) : gcFl (scob τ v) = gcFl τ := rfl
theorem gs_Fl_tr (τ : CS) (v : Nat) : gcFl (sctr τ v) = gcFl τ := rfl
theorem ss_Fl (τ : CS) (v w : (Nat → Val)) : scFl (scFl τ v) w = scFl τ w := rfl
theorem gs_Po_P (τ : CS) (v : (Nat → Option Nat)) : gcPo (scP τ v) = gcPo τ := rfl
theorem gs_Po_L (τ : CS) (v : (Nat → Nat)) : gcPo (scL τ v) = gcPo τ := rfl
theorem gs_Po_K (τ : CS) (v : (Nat → Nat)) : gcPo (scK τ v) = gcPo τ := rfl
theorem gs_Po_X (τ : CS) (v : (Nat → Nat)) : gcPo (scX τ v) = gcPo τ := rfl
theorem gs_Po_Y (τ : CS) (v : (Nat → Int32)) : gcPo (scY τ v) = gcPo τ := rfl
theorem gs_Po_Z (τ : CS) (v : (Nat → Int32)) : gcPo (scZ τ v) = gcPo τ := rfl
theorem gs_Po_n (τ : CS) (v : Nat) : gcPo (scn τ v) = gcPo τ := rfl
theorem gs_Po_V (τ : CS) (v : (Nat → Nat)) : gcPo (scV τ v) = gcPo τ := rfl
theorem gs_Po_CV (τ : CS) (v : (Nat → Nat)) : gcPo (scCV τ v) = gcPo τ := rfl
theorem gs_Po_ma (τ : CS) (v : Nat) : gcPo (scma τ v) = gcPo τ := rfl
theorem gs_Po_re (τ : CS) (v : Nat) : gcPo (scre τ v) = gcPo τ := rfl
theorem gs_Po_ca (τ : CS) (v : Nat) : gcPo (scca τ v) = gcPo τ := rfl
theorem gs_Po_Rg (τ : CS) (v : (Nat → Val)) : gcPo (scRg τ v) = gcPo τ := rfl
theorem gs_Po_Bo (τ : CS) (v : (Nat → Nat)) : gcPo (scBo τ v) = gcPo τ := rfl
theorem gs_Po_Ne (τ : CS) (v : (Nat → Nat)) : gcPo (scNe τ v) = gcPo τ := rfl
theorem gs_Po_An (τ : CS) (v : (Nat → Nat)) : gcPo (scAn τ v) = gcPo τ := rfl
theorem gs_Po_Cl (τ : CS) (v : (Nat → Nat)) : gcPo (scCl τ v) = gcPo τ := rfl
theorem gs_Po_Fl (τ : CS) (v : (Nat → Val)) : gcPo (scFl τ v) = gcPo τ := rfl
theorem gs_Po_Po (τ : CS) (v : (Nat → Int32)) : gcPo (scPo τ v) = v := rfl
theorem gs_Po_Ct (τ : CS) (v : (Nat → Nat)) : gcPo (scCt τ v) = gcPo τ := rfl
theorem gs_Po_sh (τ : CS) (v : Bool) : gcPo (scsh τ v) = gcPo τ := rfl
theorem gs_Po_rm (τ : CS) (v : Nat) : gcPo (scrm τ v) = gcPo τ := rfl
theorem gs_Po_fr (τ : CS) (v : Nat) : gcPo (scfr τ v) = gcPo τ := rfl
theorem gs_Po_ob (τ : CS) (v : Nat) : gcPo (scob τ v) = gcPo τ := rfl
theorem gs_Po_tr (τ : CS) (v : Nat) : gcPo (sctr τ v) = gcPo τ := rfl
theorem ss_Po (τ : CS) (v w : (Nat → Int32)) : scPo (scPo τ v) w = scPo τ w := rfl
theorem gs_Ct_P (τ : CS) (v : (Nat → Option Nat)) : gcCt (scP τ v) = gcCt τ := rfl
theorem gs_Ct_L (τ : CS) (v : (Nat → Nat)) : gcCt (scL τ v) = gcCt τ := rfl
theorem gs_Ct_K (τ : CS) (v : (Nat → Nat)) : gcCt (scK τ v) = gcCt τ := rfl
theorem gs_Ct_X (τ : CS) (v : (Nat → Nat)) : gcCt (scX τ v) = gcCt τ := rfl
theorem gs_Ct_Y (τ : CS) (v : (Nat → Int32)) : gcCt (scY τ v) = gcCt τ := rfl
theorem gs_Ct_Z (τ : CS) (v : (Nat → Int32)) : gcCt (scZ τ v) = gcCt τ := rfl
theorem gs_Ct_n (τ : CS) (v : Nat) : gcCt (scn τ v) = gcCt τ := rfl
theorem gs_Ct_V (τ : CS) (v : (Nat → Nat)) : gcCt (scV τ v) = gcCt τ := rfl
theorem gs_Ct_CV (τ : CS) (v : (Nat → Nat)) : gcCt (scCV τ v) = gcCt τ := rfl
theorem gs_Ct_ma (τ : CS) (v : Nat) : gcCt (scma τ v) = gcCt τ := rfl
theorem gs_Ct_re (τ : CS) (v : Nat) : gcCt (scre τ v) = gcCt τ := rfl
theorem gs_Ct_ca (τ : CS) (v : Nat) : gcCt (scca τ v) = gcCt τ := rfl
theorem gs_Ct_Rg (τ : CS) (v : (Nat → Val)) : gcCt (scRg τ v) = gcCt τ := rfl
theorem gs_Ct_Bo (τ : CS) (v : (Nat → Nat)) : gcCt (scBo τ v) = gcCt τ := rfl
theorem gs_Ct_Ne (τ : CS) (v : (Nat → Nat)) : gcCt (scNe τ v) = gcCt τ := rfl
theorem gs_Ct_An (τ : CS) (v : (Nat → Nat)) : gcCt (scAn τ v) = gcCt τ := rfl
theorem gs_Ct_Cl (τ : CS) (v : (Nat → Nat)) : gcCt (scCl τ v) = gcCt τ := rfl
theorem gs_Ct_Fl (τ : CS) (v : (Nat → Val)) : gcCt (scFl τ v) = gcCt τ := rfl
theorem gs_Ct_Po (τ : CS) (v : (Nat → Int32)) : gcCt (scPo τ v) = gcCt τ := rfl
theorem gs_Ct_Ct (τ : CS) (v : (Nat → Nat)) : gcCt (scCt τ v) = v := rfl
theorem gs_Ct_sh (τ : CS) (v : Bool) : gcCt (scsh τ v) = gcCt τ := rfl
theorem gs_Ct_rm (τ : CS) (v : Nat) : gcCt (scrm τ v) = gcCt τ := rfl
theorem gs_Ct_fr (τ : CS) (v : Nat) : gcCt (scfr τ v) = gcCt τ := rfl
theorem gs_Ct_ob (τ : CS) (v : Nat) : gcCt (scob τ v) = gcCt τ := rfl
theorem gs_Ct_tr (τ : CS) (v : Nat) : gcCt (sctr τ v) = gcCt τ := rfl
theorem ss_Ct (τ : CS) (v w : (Nat → Nat)) : scCt (scCt τ v) w = scCt τ w := rfl
theorem gs_sh_P (τ : CS) (v : (Nat → Option Nat)) : gcsh (scP τ v) = gcsh τ := rfl
theorem gs_sh_L (τ : CS) (v : (Nat → Nat)) : gcsh (scL τ v) = gcsh τ := rfl
theorem gs_sh_K (τ : CS) (v : (Nat → Nat)) : gcsh (scK τ v) = gcsh τ := rfl
theorem gs_sh_X (τ : CS) (v : (Nat → Nat)) : gcsh (scX τ v) = gcsh τ := rfl
theorem gs_sh_Y (τ : CS) (v : (Nat → Int32)) : gcsh (scY τ v) = gcsh τ := rfl
theorem gs_sh_Z (τ : CS) (v : (Nat → Int32)) : gcsh (scZ τ v) = gcsh τ := rfl
theorem gs_sh_n (τ : CS) (v : Nat) : gcsh (scn τ v) = gcsh τ := rfl
theorem gs_sh_V (τ : CS) (v : (Nat → Nat)) : gcsh (scV τ v) = gcsh τ := rfl
theorem gs_sh_CV (τ : CS) (v : (Nat → Nat)) : gcsh (scCV τ v) = gcsh τ := rfl
theorem gs_sh_ma (τ : CS) (v : Nat) : gcsh (scma τ v) = gcsh τ := rfl
theorem gs_sh_re (τ : CS) (v : Nat) : gcsh (scre τ v) = gcsh τ := rfl
theorem gs_sh_ca (τ : CS) (v : Nat) : gcsh (scca τ v) = gcsh τ := rfl
theorem gs_sh_Rg (τ : CS) (v : (Nat → Val)) : gcsh (scRg τ v) = gcsh τ := rfl
theorem gs_sh_Bo (τ : CS) (v : (Nat → Nat)) : gcsh (scBo τ v) = gcsh τ := rfl
theorem gs_sh_Ne (τ : CS) (v : (Nat → Nat)) : gcsh (scNe τ v) = gcsh τ := rfl
theorem gs_sh_An (τ : CS) (v : (Nat → Nat)) : gcsh (scAn τ v) = gcsh τ := rfl
theorem gs_sh_Cl (τ : CS) (v : (Nat → Nat)) : gcsh (scCl τ v) = gcsh τ := rfl
theorem gs_sh_Fl (τ : CS) (v : (Nat → Val)) : gcsh (scFl τ v) = gcsh τ := rfl
theorem gs_sh_Po (τ : CS) (v : (Nat → Int32)) : gcsh (scPo τ v) = gcsh τ := rfl
theorem gs_sh_Ct (τ : CS) (v : (Nat → Nat)) : gcsh (scCt τ v) = gcsh τ := rfl
theorem gs_sh_sh (τ : CS) (v : Bool) : gcsh (scsh τ v) = v := rfl
theorem gs_sh_rm (τ : CS) (v : Nat) : gcsh (scrm τ v) = gcsh τ := rfl
theorem gs_sh_fr (τ : CS) (v : Nat) : gcsh (scfr τ v) = gcsh τ := rfl
theorem gs_sh_ob (τ : CS) (v : Nat) : gcsh (scob τ v) = gcsh τ := rfl
theorem gs_sh_tr (τ : CS) (v : Nat) : gcsh (sctr τ v) = gcsh τ := rfl
theorem ss_sh (τ : CS) (v w : Bool) : scsh (scsh τ v) w = scsh τ w := rfl
theorem gs_rm_P (τ : CS) (v : (Nat → Option Nat)) : gcrm (scP τ v) = gcrm τ := rfl
theorem gs_rm_L (τ : CS) (v : (Nat → Nat)) : gcrm (scL τ v) = gcrm τ := rfl
theorem gs_rm_K (τ : CS) (v : (Nat → Nat)) : gcrm (scK τ v) = gcrm τ := rfl
theorem gs_rm_X (τ : CS) (v : (Nat → Nat)) : gcrm (scX τ v) = gcrm τ := rfl
theorem gs_rm_Y (τ : CS) (v : (Nat → Int32)) : gcrm (scY τ v) = gcrm τ := rfl
theorem gs_rm_Z (τ : CS) (v : (Nat → Int32)) : gcrm (scZ τ v) = gcrm τ := rfl
theorem gs_rm_n (τ : CS) (v : Nat) : gcrm (scn τ v) = gcrm τ := rfl
theorem gs_rm_V (τ : CS) (v : (Nat → Nat)) : gcrm (scV τ v) = gcrm τ := rfl
theorem gs_rm_CV (τ : CS) (v : (Nat → Nat)) : gcrm (scCV τ v) = gcrm τ := rfl
theorem gs_rm_ma (τ : CS) (v : Nat) : gcrm (scma τ v) = gcrm τ := rfl
theorem gs_rm_re (τ : CS) (v : Nat) : gcrm (scre τ v) = gcrm τ := rfl
theorem gs_rm_ca (τ : CS) (v : Nat) : gcrm (scca τ v) = gcrm τ := rfl
theorem gs_rm_Rg (τ : CS) (v : (Nat → Val)) : gcrm (scRg τ v) = gcrm τ := rfl
theorem gs_rm_Bo (τ : CS) (v : (Nat → Nat)) : gcrm (scBo τ v) = gcrm τ := rfl
theorem gs_rm_Ne (τ : CS) (v : (Nat → Nat)) : gcrm (scNe τ v) = gcrm τ := rfl
theorem gs_rm_An (τ : CS) (v : (Nat → Nat)) : gcrm (scAn τ v) = gcrm τ := rfl
theorem gs_rm_Cl (τ : CS) (v : (Nat → Nat)) : gcrm (scCl τ v) = gcrm τ := rfl
theorem gs_rm_Fl (τ : CS) (v : (Nat → Val)) : gcrm (scFl τ v) = gcrm τ := rfl
theorem gs_rm_Po (τ : CS) (v : (Nat → Int32)) : gcrm (scPo τ v) = gcrm τ := rfl
theorem gs_rm_Ct (τ : CS) (v : (Nat → Nat)) : gcrm (scCt τ v) = gcrm τ := rfl
theorem gs_rm_sh (τ : CS) (v : Bool) : gcrm (scsh τ v) = gcrm τ := rfl
theorem gs_rm_rm (τ : CS) (v : Nat) : gcrm (scrm τ v) = v := rfl
theorem gs_rm_fr (τ : CS) (v : Nat) : gcrm (scfr τ v) = gcrm τ := rfl
theorem gs_rm_ob (τ : CS) (v : Nat) : gcrm (scob τ v) = gcrm τ := rfl
theorem gs_rm_tr (τ : CS) (v : Nat) : gcrm (sctr τ v) = gcrm τ := rfl
theorem ss_rm (τ : CS) (v w : Nat) : scrm (scrm τ v) w = scrm τ w := rfl
theorem gs_fr_P (τ : CS) (v : (Nat → Option Nat)) : gcfr (scP τ v) = gcfr τ := rfl
theorem gs_fr_L (τ : CS) (v : (Nat → Nat)) : gcfr (scL τ v) = gcfr τ := rfl
theorem gs_fr_K (τ : CS) (v : (Nat → Nat)) : gcfr (scK τ v) = gcfr τ := rfl
theorem gs_fr_X (τ : CS) (v : (Nat → Nat)) : gcfr (scX τ v) = gcfr τ := rfl
theorem gs_fr_Y (τ : CS) (v : (Nat → Int32)) : gcfr (scY τ v) = gcfr τ := rfl
theorem gs_fr_Z (τ : CS) (v : (Nat → Int32)) : gcfr (scZ τ v) = gcfr τ := rfl
theorem gs_fr_n (τ : CS) (v : Nat) : gcfr (scn τ v) = gcfr τ := rfl
theorem gs_fr_V (τ : CS) (v : (Nat → Nat)) : gcfr (scV τ v) = gcfr τ := rfl
theorem gs_fr_CV (τ : CS) (v : (Nat → Nat)) : gcfr (scCV τ v) = gcfr τ := rfl
theorem gs_fr_ma (τ : CS) (v : Nat) : gcfr (scma τ v) = gcfr τ := rfl
theorem gs_fr_re (τ : CS) (v : Nat) : gcfr (scre τ v) = gcfr τ := rfl
theorem gs_fr_ca (τ : CS) (v : Nat) : gcfr (scca τ v) = gcfr τ := rfl
theorem gs_fr_Rg (τ : CS) (v : (Nat → Val)) : gcfr (scRg τ v) = gcfr τ := rfl
theorem gs_fr_Bo (τ : CS) (v : (Nat → Nat)) : gcfr (scBo τ v) = gcfr τ := rfl
theorem gs_fr_Ne (τ : CS) (v : (Nat → Nat)) : gcfr (scNe τ v) = gcfr τ := rfl
theorem gs_fr_An (τ : CS) (v : (Nat → Nat)) : gcfr (scAn τ v) = gcfr τ := rfl
theorem gs_fr_Cl (τ : CS) (v : (Nat → Nat)) : gcfr (scCl τ v) = gcfr τ := rfl
theorem gs_fr_Fl (τ : CS) (v : (Nat → Val)) : gcfr (scFl τ v) = gcfr τ := rfl
theorem gs_fr_Po (τ : CS) (v : (Nat → Int32)) : gcfr (scPo τ v) = gcfr τ := rfl
theorem gs_fr_Ct (τ : CS) (v : (Nat → Nat)) : gcfr (scCt τ v) = gcfr τ := rfl
theorem gs_fr_sh (τ : CS) (v : Bool) : gcfr (scsh τ v) = gcfr τ := rfl
theorem gs_fr_rm (τ : CS) (v : Nat) : gcfr (scrm τ v) = gcfr τ := rfl
theorem gs_fr_fr (τ : CS) (v : Nat) : gcfr (scfr τ v) = v := rfl
theorem gs_fr_ob (τ : CS) (v : Nat) : gcfr (scob τ v) = gcfr τ := rfl
theorem gs_fr_tr (τ : CS) (v : Nat) : gcfr (sctr τ v) = gcfr τ := rfl
theorem ss_fr (τ : CS) (v w : Nat) : scfr (scfr τ v) w = scfr τ w := rfl
theorem gs_ob_P (τ : CS) (v : (Nat → Option Nat)) : gcob (scP τ v) = gcob τ := rfl
theorem gs_ob_L (τ : CS) (v : (Nat → Nat)) : gcob (scL τ v) = gcob τ := rfl
theorem gs_ob_K (τ : CS) (v : (Nat → Nat)) : gcob (scK τ v) = gcob τ := rfl
theorem gs_ob_X (τ : CS) (v : (Nat → Nat)) : gcob (scX τ v) = gcob τ := rfl
theorem gs_ob_Y (τ : CS) (v : (Nat → Int32)) : gcob (scY τ v) = gcob τ := rfl
theorem gs_ob_Z (τ : CS) (v : (Nat → Int32)) : gcob (scZ τ v) = gcob τ := rfl
theorem gs_ob_n (τ : CS) (v : Nat) : gcob (scn τ v) = gcob τ := rfl
theorem gs_ob_V (τ : CS) (v : (Nat → Nat)) : gcob (scV τ v) = gcob τ := rfl
theorem gs_ob_CV (τ : CS) (v : (Nat → Nat)) : gcob (scCV τ v) = gcob τ := rfl
theorem gs_ob_ma (τ : CS) (v : Nat) : gcob (scma τ v) = gcob τ := rfl
theorem gs_ob_re (τ : CS) (v : Nat) : gcob (scre τ v) = gcob τ := rfl
theorem gs_ob_ca (τ : CS) (v : Nat) : gcob (scca τ v) = gcob τ := rfl
theorem gs_ob_Rg (τ : CS) (v : (Nat → Val)) : gcob (scRg τ v) = gcob τ := rfl
theorem gs_ob_Bo (τ : CS) (v : (Nat → Nat)) : gcob (scBo τ v) = gcob τ := rfl
theorem gs_ob_Ne (τ : CS) (v : (Nat → Nat)) : gcob (scNe τ v) = gcob τ := rfl
theorem gs_ob_An (τ : CS) (v : (Nat → Nat)) : gcob (scAn τ v) = gcob τ := rfl
theorem gs_ob_Cl (τ : CS) (v : (Nat → Nat)) : gcob (scCl τ v) = gcob τ := rfl
theorem gs_ob_Fl (τ : CS) (v : (Nat → Val)) : gcob (scFl τ v) = gcob τ := rfl
theorem gs_ob_Po (τ : CS) (v : (Nat → Int32)) : gcob (scPo τ v) = gcob τ := rfl
theorem gs_ob_Ct (τ : CS) (v : (Nat → Nat)) : gcob (scCt τ v) = gcob τ := rfl
theorem gs_ob_sh (τ : CS) (v : Bool) : gcob (scsh τ v) = gcob τ := rfl
theorem gs_ob_rm (τ : CS) (v : Nat) : gcob (scrm τ v) = gcob τ := rfl
theorem gs_ob_fr (τ : CS) (v : Nat) : gcob (scfr τ v) = gcob τ := rfl
theorem gs_ob_ob (τ : CS) (v : Nat) : gcob (scob τ v) = v := rfl
theorem gs_ob_tr (τ : CS) (v : Nat) : gcob (sctr τ v) = gcob τ := rfl
theorem ss_ob (τ : CS) (v w : Nat) : scob (scob τ v) w = scob τ w := rfl
theorem gs_tr_P (τ : CS) (v : (Nat → Option Nat)) : gctr (scP τ v) = gctr τ := rfl
theorem gs_tr_L (τ : CS) (v : (Nat → Nat)) : gctr (scL τ v) = gctr τ := rfl
theorem gs_tr_K (τ : CS) (v : (Nat → Nat)) : gctr (scK τ v) = gctr τ := rfl
theorem gs_tr_X (τ : CS) (v : (Nat → Nat)) : gctr (scX τ v) = gctr τ := rfl
theorem gs_tr_Y (τ : CS) (v : (Nat → Int32)) : gctr (scY τ v) = gctr τ := rfl
theorem gs_tr_Z (τ : CS) (v : (Nat → Int32)) : gctr (scZ τ v) = gctr τ := rfl
theorem gs_tr_n (τ : CS) (v : Nat) : gctr (scn τ v) = gctr τ := rfl
theorem gs_tr_V (τ : CS) (v : (Nat → Nat)) : gctr (scV τ v) = gctr τ := rfl
theorem gs_tr_CV (τ : CS) (v : (Nat → Nat)) : gctr (scCV τ v) = gctr τ := rfl
theorem gs_tr_ma (τ : CS) (v : Nat) : gctr (scma τ v) = gctr τ := rfl
theorem gs_tr_re (τ : CS) (v : Nat) : gctr (scre τ v) = gctr τ := rfl
theorem gs_tr_ca (τ : CS) (v : Nat) : gctr (scca τ v) = gctr τ := rfl
theorem gs_tr_Rg (τ : CS) (v : (Nat → Val)) : gctr (scRg τ v) = gctr τ := rfl
theorem gs_tr_Bo (τ : CS) (v : (Nat → Nat)) : gctr (scBo τ v) = gctr τ := rfl
theorem gs_tr_Ne (τ : CS) (v : (Nat → Nat)) : gctr (scNe τ v) = gctr τ := rfl
theorem gs_tr_An (τ : CS) (v : (Nat → Nat)) : gctr (scAn τ v) = gctr τ := rfl
theorem gs_tr_Cl (τ : CS) (v : (Nat → Nat)) : gctr (scCl τ v) = gctr τ := rfl
theorem gs_tr_Fl (τ : CS) (v : (Nat → Val)) : gctr (scFl τ v) = gctr τ := rfl
theorem gs_tr_Po (τ : CS) (v : (Nat → Int32)) : gctr (scPo τ v) = gctr τ := rfl
theorem gs_tr_Ct (τ : CS) (v : (Nat → Nat)) : gctr (scCt τ v) = gctr τ := rfl
theorem gs_tr_sh (τ : CS) (v : Bool) : gctr (scsh τ v) = gctr τ := rfl
theorem gs_tr_rm (τ : CS) (v : Nat) : gctr (scrm τ v) = gctr τ := rfl
theorem gs_tr_fr (τ : CS) (v : Nat) : gctr (scfr τ v) = gctr τ := rfl
theorem gs_tr_ob (τ : CS) (v : Nat) : gctr (scob τ v) = gctr τ := rfl
theorem gs_tr_tr (τ : CS) (v : Nat) : gctr (sctr τ v) = v := rfl
theorem ss_tr (τ : CS) (v w : Nat) : sctr (sctr τ v) w = sctr τ w := rfl
theorem hs_th_th (τ : MS) (v : Nat) : gmth (smth τ v) = v := rfl
theorem hs_th_ty (τ : MS) (v : Nat) : gmth (smty τ v) = gmth τ := rfl
theorem hs_th_pa (τ : MS) (v : (Nat → Option Nat)) : gmth (smpa τ v) = gmth τ := rfl
theorem hs_th_my (τ : MS) (v : (Nat → Nat)) : gmth (smmy τ v) = gmth τ := rfl
theorem hs_th_cd (τ : MS) (v : (Nat → Int32)) : gmth (smcd τ v) = gmth τ := rfl
theorem hs_th_md (τ : MS) (v : (Nat → Bool)) : gmth (smmd τ v) = gmth τ := rfl
theorem hs_th_rd (τ : MS) (v : (Nat → Bool)) : gmth (smrd τ v) = gmth τ := rfl
theorem hs_th_ch (τ : MS) (v : (Nat → Bool)) : gmth (smch τ v) = gmth τ := rfl
theorem hs_th_si (τ : MS) (v : (Nat → Nat)) : gmth (smsi τ v) = gmth τ := rfl
theorem hs_th_ho (τ : MS) (v : (Nat → Bool)) : gmth (smho τ v) = gmth τ := rfl
theorem hs_th_ob (τ : MS) (v : Nat) : gmth (smob τ v) = gmth τ := rfl
theorem hs_th_rm (τ : MS) (v : Nat) : gmth (smrm τ v) = gmth τ := rfl
theorem hs_th_cl (τ : MS) (v : (Nat → Nat)) : gmth (smcl τ v) = gmth τ := rfl
theorem hs_th_fI (τ : MS) (v : (Nat → Bool)) : gmth (smfI τ v) = gmth τ := rfl
theorem hs_th_fV (τ : MS) (v : (Nat → Int32)) : gmth (smfV τ v) = gmth τ := rfl
theorem hs_th_fr (τ : MS) (v : Nat) : gmth (smfr τ v) = gmth τ := rfl
theorem hs_th_bo (τ : MS) (v : (Nat → Nat)) : gmth (smbo τ v) = gmth τ := rfl
theorem hs_th_pl (τ : MS) (v : (Nat → Nat)) : gmth (smpl τ v) = gmth τ := rfl
theorem hs_th_wa (τ : MS) (v : (Nat → Nat)) : gmth (smwa τ v) = gmth τ := rfl
theorem hs_th_is (τ : MS) (v : (Nat → Bool)) : gmth (smis τ v) = gmth τ := rfl
theorem hs_th_va (τ : MS) (v : (Nat → Int32)) : gmth (smva τ v) = gmth τ := rfl
theorem hs_th_ou (τ : MS) (v : (Nat → Int32)) : gmth (smou τ v) = gmth τ := rfl
theorem hs_th_ct (τ : MS) (v : (Nat → Nat)) : gmth (smct τ v) = gmth τ := rfl
theorem tt_th (τ : MS) (v w : Nat) : smth (smth τ v) w = smth τ w := rfl
theorem hs_ty_th (τ : MS) (v : Nat) : gmty (smth τ v) = gmty τ := rfl
theorem hs_ty_ty (τ : MS) (v : Nat) : gmty (smty τ v) = v := rfl
theorem hs_ty_pa (τ : MS) (v : (Nat → Option Nat)) : gmty (smpa τ v) = gmty τ := rfl
theorem hs_ty_my (τ : MS) (v : (Nat → Nat)) : gmty (smmy τ v) = gmty τ := rfl
theorem hs_ty_cd (τ : MS) (v : (Nat → Int32)) : gmty (smcd τ v) = gmty τ := rfl
theorem hs_ty_md (τ : MS) (v : (Nat → Bool)) : gmty (smmd τ v) = gmty τ := rfl
theorem hs_ty_rd (τ : MS) (v : (Nat → Bool)) : gmty (smrd τ v) = gmty τ := rfl
theorem hs_ty_ch (τ : MS) (v : (Nat → Bool)) : gmty (smch τ v) = gmty τ := rfl
theorem hs_ty_si (τ : MS) (v : (Nat → Nat)) : gmty (smsi τ v) = gmty τ := rfl
theorem hs_ty_ho (τ : MS) (v : (Nat → Bool)) : gmty (smho τ v) = gmty τ := rfl
theorem hs_ty_ob (τ : MS) (v : Nat) : gmty (smob τ v) = gmty τ := rfl
theorem hs_ty_rm (τ : MS) (v : Nat) : gmty (smrm τ v) = gmty τ := rfl
theorem hs_ty_cl (τ : MS) (v : (Nat → Nat)) : gmty (smcl τ v) = gmty τ := rfl
theorem hs_ty_fI (τ : MS) (v : (Nat → Bool)) : gmty (smfI τ v) = gmty τ := rfl
theorem hs_ty_fV (τ : MS) (v : (Nat → Int32)) : gmty (smfV τ v) = gmty τ := rfl
theorem hs_ty_fr (τ : MS) (v : Nat) : gmty (smfr τ v) = gmty τ := rfl
theorem hs_ty_bo (τ : MS) (v : (Nat → Nat)) : gmty (smbo τ v) = gmty τ := rfl
theorem hs_ty_pl (τ : MS) (v : (Nat → Nat)) : gmty (smpl τ v) = gmty τ := rfl
theorem hs_ty_wa (τ : MS) (v : (Nat → Nat)) : gmty (smwa τ v) = gmty τ := rfl
theorem hs_ty_is (τ : MS) (v : (Nat → Bool)) : gmty (smis τ v) = gmty τ := rfl
theorem hs_ty_va (τ : MS) (v : (Nat → Int32)) : gmty (smva τ v) = gmty τ := rfl
theorem hs_ty_ou (τ : MS) (v : (Nat → Int32)) : gmty (smou τ v) = gmty τ := rfl
theorem hs_ty_ct (τ : MS) (v : (Nat → Nat)) : gmty (smct τ v) = gmty τ := rfl
theorem tt_ty (τ : MS) (v w : Nat) : smty (smty τ v) w = smty τ w := rfl
theorem hs_pa_th (τ : MS) (v : Nat) : gmpa (smth τ v) = gmpa τ := rfl
theorem hs_pa_ty (τ : MS) (v : Nat) : gmpa (smty τ v) = gmpa τ := rfl
theorem hs_pa_pa (τ : MS) (v : (Nat → Option Nat)) : gmpa (smpa τ v) = v := rfl
theorem hs_pa_my (τ : MS) (v : (Nat → Nat)) : gmpa (smmy τ v) = gmpa τ := rfl
theorem hs_pa_cd (τ : MS) (v : (Nat → Int32)) : gmpa (smcd τ v) = gmpa τ := rfl
theorem hs_pa_md (τ : MS) (v : (Nat → Bool)) : gmpa (smmd τ v) = gmpa τ := rfl
theorem hs_pa_rd (τ : MS) (v : (Nat → Bool)) : gmpa (smrd τ v) = gmpa τ := rfl
theorem hs_pa_ch (τ : MS) (v : (Nat → Bool)) : gmpa (smch τ v) = gmpa τ := rfl
theorem hs_pa_si (τ : MS) (v : (Nat → Nat)) : gmpa (smsi τ v) = gmpa τ := rfl
theorem hs_pa_ho (τ : MS) (v : (Nat → Bool)) : gmpa (smho τ v) = gmpa τ := rfl
theorem hs_pa_ob (τ : MS) (v : Nat) : gmpa (smob τ v) = gmpa τ := rfl
theorem hs_pa_rm (τ : MS) (v : Nat) : gmpa (smrm τ v) = gmpa τ := rfl
theorem hs_pa_cl (τ : MS) (v : (Nat → Nat)) : gmpa (smcl τ v) = gmpa τ := rfl
theorem hs_pa_fI (τ : MS) (v : (Nat → Bool)) : gmpa (smfI τ v) = gmpa τ := rfl
theorem hs_pa_fV (τ : MS) (v : (Nat → Int32)) : gmpa (smfV τ v) = gmpa τ := rfl
theorem hs_pa_fr (τ : MS) (v : Nat) : gmpa (smfr τ v) = gmpa τ := rfl
theorem hs_pa_bo (τ : MS) (v : (Nat → Nat)) : gmpa (smbo τ v) = gmpa τ := rfl
theorem hs_pa_pl (τ : MS) (v : (Nat → Nat)) : gmpa (smpl τ v) = gmpa τ := rfl
theorem hs_pa_wa (τ : MS) (v : (Nat → Nat)) : gmpa (smwa τ v) = gmpa τ := rfl
theorem hs_pa_is (τ : MS) (v : (Nat → Bool)) : gmpa (smis τ v) = gmpa τ := rfl
theorem hs_pa_va (τ : MS) (v : (Nat → Int32)) : gmpa (smva τ v) = gmpa τ := rfl
theorem hs_pa_ou (τ : MS) (v : (Nat → Int32)) : gmpa (smou τ v) = gmpa τ := rfl
theorem hs_pa_ct (τ : MS) (v : (Nat → Nat)) : gmpa (smct τ v) = gmpa τ := rfl
theorem tt_pa (τ : MS) (v w : (Nat → Option Nat)) : smpa (smpa τ v) w = smpa τ w := rfl
theorem hs_my_th (τ : MS) (v : Nat) : gmmy (smth τ v) = gmmy τ := rfl
theorem hs_my_ty (τ : MS) (v : Nat) : gmmy (smty τ v) = gmmy τ := rfl
theorem hs_my_pa (τ : MS) (v : (Nat → Option Nat)) : gmmy (smpa τ v) = gmmy τ := rfl
theorem hs_my_my (τ : MS) (v : (Nat → Nat)) : gmmy (smmy τ v) = v := rfl
theorem hs_my_cd (τ : MS) (v : (Nat → Int32)) : gmmy (smcd τ v) = gmmy τ := rfl
theorem hs_my_md (τ : MS) (v : (Nat → Bool)) : gmmy (smmd τ v) = gmmy τ := rfl
theorem hs_my_rd (τ : MS) (v : (Nat → Bool)) : gmmy (smrd τ v) = gmmy τ := rfl
theorem hs_my_ch (τ : MS) (v : (Nat → Bool)) : gmmy (smch τ v) = gmmy τ := rfl
theorem hs_my_si (τ : MS) (v : (Nat → Nat)) : gmmy (smsi τ v) = gmmy τ := rfl
theorem hs_my_ho (τ : MS) (v : (Nat → Bool)) : gmmy (smho τ v) = gmmy τ := rfl
theorem hs_my_ob (τ : MS) (v : Nat) : gmmy (smob τ v) = gmmy τ := rfl
theorem hs_my_rm (τ : MS) (v : Nat) : gmmy (smrm τ v) = gmmy τ := rfl
theorem hs_my_cl (τ : MS) (v : (Nat → Nat)) : gmmy (smcl τ v) = gmmy τ := rfl
theorem hs_my_fI (τ : MS) (v : (Nat → Bool)) : gmmy (smfI τ v) = gmmy τ := rfl
theorem hs_my_fV (τ : MS) (v : (Nat → Int32)) : gmmy (smfV τ v) = gmmy τ := rfl
theorem hs_my_fr (τ : MS) (v : Nat) : gmmy (smfr τ v) = gmmy τ := rfl
theorem hs_my_bo (τ : MS) (v : (Nat → Nat)) : gmmy (smbo τ v) = gmmy τ := rfl
theorem hs_my_pl (τ : MS) (v : (Nat → Nat)) : gmmy (smpl τ v) = gmmy τ := rfl
theorem hs_my_wa (τ : MS) (v : (Nat → Nat)) : gmmy (smwa τ v) = gmmy τ := rfl
theorem hs_my_is (τ : MS) (v : (Nat → Bool)) : gmmy (smis τ v) = gmmy τ := rfl
theorem hs_my_va (τ : MS) (v : (Nat → Int32)) : gmmy (smva τ v) = gmmy τ := rfl
theorem hs_my_ou (τ : MS) (v : (Nat → Int32)) : gmmy (smou τ v) = gmmy τ := rfl
theorem hs_my_ct (τ : MS) (v : (Nat → Nat)) : gmmy (smct τ v) = gmmy τ := rfl
theorem tt_my (τ : MS) (v w : (Nat → Nat)) : smmy (smmy τ v) w = smmy τ w := rfl
theorem hs_cd_th (τ : MS) (v : Nat) : gmcd (smth τ v) = gmcd τ := rfl
theorem hs_cd_ty (τ : MS) (v : Nat) : gmcd (smty τ v) = gmcd τ := rfl
theorem hs_cd_pa (τ : MS) (v : (Nat → Option Nat)) : gmcd (smpa τ v) = gmcd τ := rfl
theorem hs_cd_my (τ : MS) (v : (Nat → Nat)) : gmcd (smmy τ v) = gmcd τ := rfl
theorem hs_cd_cd (τ : MS) (v : (Nat → Int32)) : gmcd (smcd τ v) = v := rfl
theorem hs_cd_md (τ : MS) (v : (Nat → Bool)) : gmcd (smmd τ v) = gmcd τ := rfl
theorem hs_cd_rd (τ : MS) (v : (Nat → Bool)) : gmcd (smrd τ v) = gmcd τ := rfl
theorem hs_cd_ch (τ : MS) (v : (Nat → Bool)) : gmcd (smch τ v) = gmcd τ := rfl
theorem hs_cd_si (τ : MS) (v : (Nat → Nat)) : gmcd (smsi τ v) = gmcd τ := rfl
theorem hs_cd_ho (τ : MS) (v : (Nat → Bool)) : gmcd (smho τ v) = gmcd τ := rfl
theorem hs_cd_ob (τ : MS) (v : Nat) : gmcd (smob τ v) = gmcd τ := rfl
theorem hs_cd_rm (τ : MS) (v : Nat) : gmcd (smrm τ v) = gmcd τ := rfl
theorem hs_cd_cl (τ : MS) (v : (Nat → Nat)) : gmcd (smcl τ v) = gmcd τ := rfl
theorem hs_cd_fI (τ : MS) (v : (Nat → Bool)) : gmcd (smfI τ v) = gmcd τ := rfl
theorem hs_cd_fV (τ : MS) (v : (Nat → Int32)) : gmcd (smfV τ v) = gmcd τ := rfl
theorem hs_cd_fr (τ : MS) (v : Nat) : gmcd (smfr τ v) = gmcd τ := rfl
theorem hs_cd_bo (τ : MS) (v : (Nat → Nat)) : gmcd (smbo τ v) = gmcd τ := rfl
theorem hs_cd_pl (τ : MS) (v : (Nat → Nat)) : gmcd (smpl τ v) = gmcd τ := rfl
theorem hs_cd_wa (τ : MS) (v : (Nat → Nat)) : gmcd (smwa τ v) = gmcd τ := rfl
theorem hs_cd_is (τ : MS) (v : (Nat → Bool)) : gmcd (smis τ v) = gmcd τ := rfl
theorem hs_cd_va (τ : MS) (v : (Nat → Int32)) : gmcd (smva τ v) = gmcd τ := rfl
theorem hs_cd_ou (τ : MS) (v : (Nat → Int32)) : gmcd (smou τ v) = gmcd τ := rfl
theorem hs_cd_ct (τ : MS) (v : (Nat → Nat)) : gmcd (smct τ v) = gmcd τ := rfl
theorem tt_cd (τ : MS) (v w : (Nat → Int32)) : smcd (smcd τ v) w = smcd τ w := rfl
theorem hs_md_th (τ : MS) (v : Nat) : gmmd (smth τ v) = gmmd τ := rfl
theorem hs_md_ty (τ : MS) (v : Nat) : gmmd (smty τ v) = gmmd τ := rfl
theorem hs_md_pa (τ : MS) (v : (Nat → Option Nat)) : gmmd (smpa τ v) = gmmd τ := rfl
theorem hs_md_my (τ : MS) (v : (Nat → Nat)) : gmmd (smmy τ v) = gmmd τ := rfl
theorem hs_md_cd (τ : MS) (v : (Nat → Int32)) : gmmd (smcd τ v) = gmmd τ := rfl
theorem hs_md_md (τ : MS) (v : (Nat → Bool)) : gmmd (smmd τ v) = v := rfl
theorem hs_md_rd (τ : MS) (v : (Nat → Bool)) : gmmd (smrd τ v) = gmmd τ := rfl
theorem hs_md_ch (τ : MS) (v : (Nat → Bool)) : gmmd (smch τ v) = gmmd τ := rfl
theorem hs_md_si (τ : MS) (v : (Nat → Nat)) : gmmd (smsi τ v) = gmmd τ := rfl
theorem hs_md_ho (τ : MS) (v : (Nat → Bool)) : gmmd (smho τ v) = gmmd τ := rfl
theorem hs_md_ob (τ : MS) (v : Nat) : gmmd (smob τ v) = gmmd τ := rfl
theorem hs_md_rm (τ : MS) (v : Nat) : gmmd (smrm τ v) = gmmd τ := rfl
theorem hs_md_cl (τ : MS) (v : (Nat → Nat)) : gmmd (smcl τ v) = gmmd τ := rfl
theorem hs_md_fI (τ : MS) (v : (Nat → Bool)) : gmmd (smfI τ v) = gmmd τ := rfl
theorem hs_md_fV (τ : MS) (v : (Nat → Int32)) : gmmd (smfV τ v) = gmmd τ := rfl
theorem hs_md_fr (τ : MS) (v : Nat) : gmmd (smfr τ v) = gmmd τ := rfl
theorem hs_md_bo (τ : MS) (v : (Nat → Nat)) : gmmd (smbo τ v) = gmmd τ := rfl
theorem hs_md_pl (τ : MS) (v : (Nat → Nat)) : gmmd (smpl τ v) = gmmd τ := rfl
theorem hs_md_wa (τ : MS) (v : (Nat → Nat)) : gmmd (smwa τ v) = gmmd τ := rfl
theorem hs_md_is (τ : MS) (v : (Nat → Bool)) : gmmd (smis τ v) = gmmd τ := rfl
theorem hs_md_va (τ : MS) (v : (Nat → Int32)) : gmmd (smva τ v) = gmmd τ := rfl
theorem hs_md_ou (τ : MS) (v : (Nat → Int32)) : gmmd (smou τ v) = gmmd τ := rfl
theorem hs_md_ct (τ : MS) (v : (Nat → Nat)) : gmmd (smct τ v) = gmmd τ := rfl
theorem tt_md (τ : MS) (v w : (Nat → Bool)) : smmd (smmd τ v) w = smmd τ w := rfl
theorem hs_rd_th (τ : MS) (v : Nat) : gmrd (smth τ v) = gmrd τ := rfl
theorem hs_rd_ty (τ : MS) (v : Nat) : gmrd (smty τ v) = gmrd τ := rfl
theorem hs_rd_pa (τ : MS) (v : (Nat → Option Nat)) : gmrd (smpa τ v) = gmrd τ := rfl
theorem hs_rd_my (τ : MS) (v : (Nat → Nat)) : gmrd (smmy τ v) = gmrd τ := rfl
theorem hs_rd_cd (τ : MS) (v : (Nat → Int32)) : gmrd (smcd τ v) = gmrd τ := rfl
theorem hs_rd_md (τ : MS) (v : (Nat → Bool)) : gmrd (smmd τ v) = gmrd τ := rfl
theorem hs_rd_rd (τ : MS) (v : (Nat → Bool)) : gmrd (smrd τ v) = v := rfl
theorem hs_rd_ch (τ : MS) (v : (Nat → Bool)) : gmrd (smch τ v) = gmrd τ := rfl
theorem hs_rd_si (τ : MS) (v : (Nat → Nat)) : gmrd (smsi τ v) = gmrd τ := rfl
theorem hs_rd_ho (τ : MS) (v : (Nat → Bool)) : gmrd (smho τ v) = gmrd τ := rfl
theorem hs_rd_ob (τ : MS) (v : Nat) : gmrd (smob τ v) = gmrd τ := rfl
theorem hs_rd_rm (τ : MS) (v : Nat) : gmrd (smrm τ v) = gmrd τ := rfl
theorem hs_rd_cl (τ : MS) (v : (Nat → Nat)) : gmrd (smcl τ v) = gmrd τ := rfl
theorem hs_rd_fI (τ : MS) (v : (Nat → Bool)) : gmrd (smfI τ v) = gmrd τ := rfl
theorem hs_rd_fV (τ : MS) (v : (Nat → Int32)) : gmrd (smfV τ v) = gmrd τ := rfl
theorem hs_rd_fr (τ : MS) (v : Nat) : gmrd (smfr τ v) = gmrd τ := rfl
theorem hs_rd_bo (τ : MS) (v : (Nat → Nat)) : gmrd (smbo τ v) = gmrd τ := rfl
theorem hs_rd_pl (τ : MS) (v : (Nat → Nat)) : gmrd (smpl τ v) = gmrd τ := rfl
theorem hs_rd_wa (τ : MS) (v : (Nat → Nat)) : gmrd (smwa τ v) = gmrd τ := rfl
theorem hs_rd_is (τ : MS) (v : (Nat → Bool)) : gmrd (smis τ v) = gmrd τ := rfl
theorem hs_rd_va (τ : MS) (v : (Nat → Int32)) : gmrd (smva τ v) = gmrd τ := rfl
theorem hs_rd_ou (τ : MS) (v : (Nat → Int32)) : gmrd (smou τ v) = gmrd τ := rfl
theorem hs_rd_ct (τ : MS) (v : (Nat → Nat)) : gmrd (smct τ v) = gmrd τ := rfl
theorem tt_rd (τ : MS) (v w : (Nat → Bool)) : smrd (smrd τ v) w = smrd τ w := rfl
theorem hs_ch_th (τ : MS) (v : Nat) : gmch (smth τ v) = gmch τ := rfl
theorem hs_ch_ty (τ : MS) (v : Nat) : gmch (smty τ v) = gmch τ := rfl
theorem hs_ch_pa (τ : MS) (v : (Nat → Option Nat)) : gmch (smpa τ v) = gmch τ := rfl
theorem hs_ch_my (τ : MS) (v : (Nat → Nat)) : gmch (smmy τ v) = gmch τ := rfl
theorem hs_ch_cd (τ : MS) (v : (Nat → Int32)) : gmch (smcd τ v) = gmch τ := rfl
theorem hs_ch_md (τ : MS) (v : (Nat → Bool)) : gmch (smmd τ v) = gmch τ := rfl
theorem hs_ch_rd (τ : MS) (v : (Nat → Bool)) : gmch (smrd τ v) = gmch τ := rfl
theorem hs_ch_ch (τ : MS) (v : (Nat → Bool)) : gmch (smch τ v) = v := rfl
theorem hs_ch_si (τ : MS) (v : (Nat → Nat)) : gmch (smsi τ v) = gmch τ := rfl
theorem hs_ch_ho (τ : MS) (v : (Nat → Bool)) : gmch (smho τ v) = gmch τ := rfl
theorem hs_ch_ob (τ : MS) (v : Nat) : gmch (smob τ v) = gmch τ := rfl
theorem hs_ch_rm (τ : MS) (v : Nat) : gmch (smrm τ v) = gmch τ := rfl
theorem hs_ch_cl (τ : MS) (v : (Nat → Nat)) : gmch (smcl τ v) = gmch τ := rfl
theorem hs_ch_fI (τ : MS) (v : (Nat → Bool)) : gmch (smfI τ v) = gmch τ := rfl
theorem hs_ch_fV (τ : MS) (v : (Nat → Int32)) : gmch (smfV τ v) = gmch τ := rfl
theorem hs_ch_fr (τ : MS) (v : Nat) : gmch (smfr τ v) = gmch τ := rfl
theorem hs_ch_bo (τ : MS) (v : (Nat → Nat)) : gmch (smbo τ v) = gmch τ := rfl
theorem hs_ch_pl (τ : MS) (v : (Nat → Nat)) : gmch (smpl τ v) = gmch τ := rfl
theorem hs_ch_wa (τ : MS) (v : (Nat → Nat)) : gmch (smwa τ v) = gmch τ := rfl
theorem hs_ch_is (τ : MS) (v : (Nat → Bool)) : gmch (smis τ v) = gmch τ := rfl
theorem hs_ch_va (τ : MS) (v : (Nat → Int32)) : gmch (smva τ v) = gmch τ := rfl
theorem hs_ch_ou (τ : MS) (v : (Nat → Int32)) : gmch (smou τ v) = gmch τ := rfl
theorem hs_ch_ct (τ : MS) (v : (Nat → Nat)) : gmch (smct τ v) = gmch τ := rfl
theorem tt_ch (τ : MS) (v w : (Nat → Bool)) : smch (smch τ v) w = smch τ w := rfl
theorem hs_si_th (τ : MS) (v : Nat) : gmsi (smth τ v) = gmsi τ := rfl
theorem hs_si_ty (τ : MS) (v : Nat) : gmsi (smty τ v) = gmsi τ := rfl
theorem hs_si_pa (τ : MS) (v : (Nat → Option Nat)) : gmsi (smpa τ v) = gmsi τ := rfl
theorem hs_si_my (τ : MS) (v : (Nat → Nat)) : gmsi (smmy τ v) = gmsi τ := rfl
theorem hs_si_cd (τ : MS) (v : (Nat → Int32)) : gmsi (smcd τ v) = gmsi τ := rfl
theorem hs_si_md (τ : MS) (v : (Nat → Bool)) : gmsi (smmd τ v) = gmsi τ := rfl
theorem hs_si_rd (τ : MS) (v : (Nat → Bool)) : gmsi (smrd τ v) = gmsi τ := rfl
theorem hs_si_ch (τ : MS) (v : (Nat → Bool)) : gmsi (smch τ v) = gmsi τ := rfl
theorem hs_si_si (τ : MS) (v : (Nat → Nat)) : gmsi (smsi τ v) = v := rfl
theorem hs_si_ho (τ : MS) (v : (Nat → Bool)) : gmsi (smho τ v) = gmsi τ := rfl
theorem hs_si_ob (τ : MS) (v : Nat) : gmsi (smob τ v) = gmsi τ := rfl
theorem hs_si_rm (τ : MS) (v : Nat) : gmsi (smrm τ v) = gmsi τ := rfl
theorem hs_si_cl (τ : MS) (v : (Nat → Nat)) : gmsi (smcl τ v) = gmsi τ := rfl
theorem hs_si_fI (τ : MS) (v : (Nat → Bool)) : gmsi (smfI τ v) = gmsi τ := rfl
theorem hs_si_fV (τ : MS) (v : (Nat → Int32)) : gmsi (smfV τ v) = gmsi τ := rfl
theorem hs_si_fr (τ : MS) (v : Nat) : gmsi (smfr τ v) = gmsi τ := rfl
theorem hs_si_bo (τ : MS) (v : (Nat → Nat)) : gmsi (smbo τ v) = gmsi τ := rfl
theorem hs_si_pl (τ : MS) (v : (Nat → Nat)) : gmsi (smpl τ v) = gmsi τ := rfl
theorem hs_si_wa (τ : MS) (v : (Nat → Nat)) : gmsi (smwa τ v) = gmsi τ := rfl
theorem hs_si_is (τ : MS) (v : (Nat → Bool)) : gmsi (smis τ v) = gmsi τ := rfl
theorem hs_si_va (τ : MS) (v : (Nat → Int32)) : gmsi (smva τ v) = gmsi τ := rfl
theorem hs_si_ou (τ : MS) (v : (Nat → Int32)) : gmsi (smou τ v) = gmsi τ := rfl
theorem hs_si_ct (τ : MS) (v : (Nat → Nat)) : gmsi (smct τ v) = gmsi τ := rfl
theorem tt_si (τ : MS) (v w : (Nat → Nat)) : smsi (smsi τ v) w = smsi τ w := rfl
theorem hs_ho_th (τ : MS) (v : Nat) : gmho (smth τ v) = gmho τ := rfl
theorem hs_ho_ty (τ : MS) (v : Nat) : gmho (smty τ v) = gmho τ := rfl
theorem hs_ho_pa (τ : MS) (v : (Nat → Option Nat)) : gmho (smpa τ v) = gmho τ := rfl
theorem hs_ho_my (τ : MS) (v : (Nat → Nat)) : gmho (smmy τ v) = gmho τ := rfl
theorem hs_ho_cd (τ : MS) (v : (Nat → Int32)) : gmho (smcd τ v) = gmho τ := rfl
theorem hs_ho_md (τ : MS) (v : (Nat → Bool)) : gmho (smmd τ v) = gmho τ := rfl
theorem hs_ho_rd (τ : MS) (v : (Nat → Bool)) : gmho (smrd τ v) = gmho τ := rfl
theorem hs_ho_ch (τ : MS) (v : (Nat → Bool)) : gmho (smch τ v) = gmho τ := rfl
theorem hs_ho_si (τ : MS) (v : (Nat → Nat)) : gmho (smsi τ v) = gmho τ := rfl
theorem hs_ho_ho (τ : MS) (v : (Nat → Bool)) : gmho (smho τ v) = v := rfl
theorem hs_ho_ob (τ : MS) (v : Nat) : gmho (smob τ v) = gmho τ := rfl
theorem hs_ho_rm (τ : MS) (v : Nat) : gmho (smrm τ v) = gmho τ := rfl
theorem hs_ho_cl (τ : MS) (v : (Nat → Nat)) : gmho (smcl τ v) = gmho τ := rfl
theorem hs_ho_fI (τ : MS) (v : (Nat → Bool)) : gmho (smfI τ v) = gmho τ := rfl
theorem hs_ho_fV (τ : MS) (v : (Nat → Int32)) : gmho (smfV τ v) = gmho τ := rfl
theorem hs_ho_fr (τ : MS) (v : Nat) : gmho (smfr τ v) = gmho τ := rfl
theorem hs_ho_bo (τ : MS) (v : (Nat → Nat)) : gmho (smbo τ v) = gmho τ := rfl
theorem hs_ho_pl (τ : MS) (v : (Nat → Nat)) : gmho (smpl τ v) = gmho τ := rfl
theorem hs_ho_wa (τ : MS) (v : (Nat → Nat)) : gmho (smwa τ v) = gmho τ := rfl
theorem hs_ho_is (τ : MS) (v : (Nat → Bool)) : gmho (smis τ v) = gmho τ := rfl
theorem hs_ho_va (τ : MS) (v : (Nat → Int32)) : gmho (smva τ v) = gmho τ := rfl
theorem hs_ho_ou (τ : MS) (v : (Nat → Int32)) : gmho (smou τ v) = gmho τ := rfl
theorem hs_ho_ct (τ : MS) (v : (Nat → Nat)) : gmho (smct τ v) = gmho τ := rfl
theorem tt_ho (τ : MS) (v w : (Nat → Bool)) : smho (smho τ v) w = smho τ w := rfl
theorem hs_ob_th (τ : MS) (v : Nat) : gmob (smth τ v) = gmob τ := rfl
theorem hs_ob_ty (τ : MS) (v : Nat) : gmob (smty τ v) = gmob τ := rfl
theorem hs_ob_pa (τ : MS) (v : (Nat → Option Nat)) : gmob (smpa τ v) = gmob τ := rfl
theorem hs_ob_my (τ : MS) (v : (Nat → Nat)) : gmob (smmy τ v) = gmob τ := rfl
theorem hs_ob_cd (τ : MS) (v : (Nat → Int32)) : gmob (smcd τ v) = gmob τ := rfl
theorem hs_ob_md (τ : MS) (v : (Nat → Bool)) : gmob (smmd τ v) = gmob τ := rfl
theorem hs_ob_rd (τ : MS) (v : (Nat → Bool)) : gmob (smrd τ v) = gmob τ := rfl
theorem hs_ob_ch (τ : MS) (v : (Nat → Bool)) : gmob (smch τ v) = gmob τ := rfl
theorem hs_ob_si (τ : MS) (v : (Nat → Nat)) : gmob (smsi τ v) = gmob τ := rfl
theorem hs_ob_ho (τ : MS) (v : (Nat → Bool)) : gmob (smho τ v) = gmob τ := rfl
theorem hs_ob_ob (τ : MS) (v : Nat) : gmob (smob τ v) = v := rfl
theorem hs_ob_rm (τ : MS) (v : Nat) : gmob (smrm τ v) = gmob τ := rfl
theorem hs_ob_cl (τ : MS) (v : (Nat → Nat)) : gmob (smcl τ v) = gmob τ := rfl
theorem hs_ob_fI (τ : MS) (v : (Nat → Bool)) : gmob (smfI τ v) = gmob τ := rfl
theorem hs_ob_fV (τ : MS) (v : (Nat → Int32)) : gmob (smfV τ v) = gmob τ := rfl
theorem hs_ob_fr (τ : MS) (v : Nat) : gmob (smfr τ v) = gmob τ := rfl
theorem hs_ob_bo (τ : MS) (v : (Nat → Nat)) : gmob (smbo τ v) = gmob τ := rfl
theorem hs_ob_pl (τ : MS) (v : (Nat → Nat)) : gmob (smpl τ v) = gmob τ := rfl
theorem hs_ob_wa (τ : MS) (v : (Nat → Nat)) : gmob (smwa τ v) = gmob τ := rfl
theorem hs_ob_is (τ : MS) (v : (Nat → Bool)) : gmob (smis τ v) = gmob τ := rfl
theorem hs_ob_va (τ : MS) (v : (Nat → Int32)) : gmob (smva τ v) = gmob τ := rfl
theorem hs_ob_ou (τ : MS) (v : (Nat → Int32)) : gmob (smou τ v) = gmob τ := rfl
theorem hs_ob_ct (τ : MS) (v : (Nat → Nat)) : gmob (smct τ v) = gmob τ := rfl
theorem tt_ob (τ : MS) (v w : Nat) : smob (smob τ v) w = smob τ w := rfl
theorem hs_rm_th (τ : MS) (v : Nat) : gmrm (smth τ v) = gmrm τ := rfl
theorem hs_rm_ty (τ : MS) (v : Nat) : gmrm (smty τ v) = gmrm τ := rfl
theorem hs_rm_pa (τ : MS) (v : (Nat → Option Nat)) : gmrm (smpa τ v) = gmrm τ := rfl
theorem hs_rm_my (τ : MS) (v : (Nat → Nat)) : gmrm (smmy τ v) = gmrm τ := rfl
theorem hs_rm_cd (τ : MS) (v : (Nat → Int32)) : gmrm (smcd τ v) = gmrm τ := rfl
theorem hs_rm_md (τ : MS) (v : (Nat → Bool)) : gmrm (smmd τ v) = gmrm τ := rfl
theorem hs_rm_rd (τ : MS) (v : (Nat → Bool)) : gmrm (smrd τ v) = gmrm τ := rfl
theorem hs_rm_ch (τ : MS) (v : (Nat → Bool)) : gmrm (smch τ v) = gmrm τ := rfl
theorem hs_rm_si (τ : MS) (v : (Nat → Nat)) : gmrm (smsi τ v) = gmrm τ := rfl
theorem hs_rm_ho (τ : MS) (v : (Nat → Bool)) : gmrm (smho τ v) = gmrm τ := rfl
theorem hs_rm_ob (τ : MS) (v : Nat) : gmrm (smob τ v) = gmrm τ := rfl
theorem hs_rm_rm (τ : MS) (v : Nat) : gmrm (smrm τ v) = v := rfl
theorem hs_rm_cl (τ : MS) (v : (Nat → Nat)) : gmrm (smcl τ v) = gmrm τ := rfl
theorem hs_rm_fI (τ : MS) (v : (Nat → Bool)) : gmrm (smfI τ v) = gmrm τ := rfl
theorem hs_rm_fV (τ : MS) (v : (Nat → Int32)) : gmrm (smfV τ v) = gmrm τ := rfl
theorem hs_rm_fr (τ : MS) (v : Nat) : gmrm (smfr τ v) = gmrm τ := rfl
theorem hs_rm_bo (τ : MS) (v : (Nat → Nat)) : gmrm (smbo τ v) = gmrm τ := rfl
theorem hs_rm_pl (τ : MS) (v : (Nat → Nat)) : gmrm (smpl τ v) = gmrm τ := rfl
theorem hs_rm_wa (τ : MS) (v : (Nat → Nat)) : gmrm (smwa τ v) = gmrm τ := rfl
theorem hs_rm_is (τ : MS) (v : (Nat → Bool)) : gmrm (smis τ v) = gmrm τ := rfl
theorem hs_rm_va (τ : MS) (v : (Nat → Int32)) : gmrm (smva τ v) = gmrm τ := rfl
theorem hs_rm_ou (τ : MS) (v : (Nat → Int32)) : gmrm (smou τ v) = gmrm τ := rfl
theorem hs_rm_ct (τ : MS) (v : (Nat → Nat)) : gmrm (smct τ v) = gmrm τ := rfl
theorem tt_rm (τ : MS) (v w : Nat) : smrm (smrm τ v) w = smrm τ w := rfl
theorem hs_cl_th (τ : MS) (v : Nat) : gmcl (smth τ v) = gmcl τ := rfl
theorem hs_cl_ty (τ : MS) (v : Nat) : gmcl (smty τ v) = gmcl τ := rfl
theorem hs_cl_pa (τ : MS) (v : (Nat → Option Nat)) : gmcl (smpa τ v) = gmcl τ := rfl
theorem hs_cl_my (τ : MS) (v : (Nat → Nat)) : gmcl (smmy τ v) = gmcl τ := rfl
theorem hs_cl_cd (τ : MS) (v : (Nat → Int32)) : gmcl (smcd τ v) = gmcl τ := rfl
theorem hs_cl_md (τ : MS) (v : (Nat → Bool)) : gmcl (smmd τ v) = gmcl τ := rfl
theorem hs_cl_rd (τ : MS) (v : (Nat → Bool)) : gmcl (smrd τ v) = gmcl τ := rfl
theorem hs_cl_ch (τ : MS) (v : (Nat → Bool)) : gmcl (smch τ v) = gmcl τ := rfl
theorem hs_cl_si (τ : MS) (v : (Nat → Nat)) : gmcl (smsi τ v) = gmcl τ := rfl
theorem hs_cl_ho (τ : MS) (v : (Nat → Bool)) : gmcl (smho τ v) = gmcl τ := rfl
theorem hs_cl_ob (τ : MS) (v : Nat) : gmcl (smob τ v) = gmcl τ := rfl
theorem hs_cl_rm (τ : MS) (v : Nat) : gmcl (smrm τ v) = gmcl τ := rfl
theorem hs_cl_cl (τ : MS) (v : (Nat → Nat)) : gmcl (smcl τ v) = v := rfl
theorem hs_cl_fI (τ : MS) (v : (Nat → Bool)) : gmcl (smfI τ v) = gmcl τ := rfl
theorem hs_cl_fV (τ : MS) (v : (Nat → Int32)) : gmcl (smfV τ v) = gmcl τ := rfl
theorem hs_cl_fr (τ : MS) (v : Nat) : gmcl (smfr τ v) = gmcl τ := rfl
theorem hs_cl_bo (τ : MS) (v : (Nat → Nat)) : gmcl (smbo τ v) = gmcl τ := rfl
theorem hs_cl_pl (τ : MS) (v : (Nat → Nat)) : gmcl (smpl τ v) = gmcl τ := rfl
theorem hs_cl_wa (τ : MS) (v : (Nat → Nat)) : gmcl (smwa τ v) = gmcl τ := rfl
theorem hs_cl_is (τ : MS) (v : (Nat → Bool)) : gmcl (smis τ v) = gmcl τ := rfl
theorem hs_cl_va (τ : MS) (v : (Nat → Int32)) : gmcl (smva τ v) = gmcl τ := rfl
theorem hs_cl_ou (τ : MS) (v : (Nat → Int32)) : gmcl (smou τ v) = gmcl τ := rfl
theorem hs_cl_ct (τ : MS) (v : (Nat → Nat)) : gmcl (smct τ v) = gmcl τ := rfl
theorem tt_cl (τ : MS) (v w : (Nat → Nat)) : smcl (smcl τ v) w = smcl τ w := rfl
theorem hs_fI_th (τ : MS) (v : Nat) : gmfI (smth τ v) = gmfI τ := rfl
theorem hs_fI_ty (τ : MS) (v : Nat) : gmfI (smty τ v) = gmfI τ := rfl
theorem hs_fI_pa (τ : MS) (v : (Nat → Option Nat)) : gmfI (smpa τ v) = gmfI τ := rfl
theorem hs_fI_my (τ : MS) (v : (Nat → Nat)) : gmfI (smmy τ v) = gmfI τ := rfl
theorem hs_fI_cd (τ : MS) (v : (Nat → Int32)) : gmfI (smcd τ v) = gmfI τ := rfl
theorem hs_fI_md (τ : MS) (v : (Nat → Bool)) : gmfI (smmd τ v) = gmfI τ := rfl
theorem hs_fI_rd (τ : MS) (v : (Nat → Bool)) : gmfI (smrd τ v) = gmfI τ := rfl
theorem hs_fI_ch (τ : MS) (v : (Nat → Bool)) : gmfI (smch τ v) = gmfI τ := rfl
theorem hs_fI_si (τ : MS) (v : (Nat → Nat)) : gmfI (smsi τ v) = gmfI τ := rfl
theorem hs_fI_ho (τ : MS) (v : (Nat → Bool)) : gmfI (smho τ v) = gmfI τ := rfl
theorem hs_fI_ob (τ : MS) (v : Nat) : gmfI (smob τ v) = gmfI τ := rfl
theorem hs_fI_rm (τ : MS) (v : Nat) : gmfI (smrm τ v) = gmfI τ := rfl
theorem hs_fI_cl (τ : MS) (v : (Nat → Nat)) : gmfI (smcl τ v) = gmfI τ := rfl
theorem hs_fI_fI (τ : MS) (v : (Nat → Bool)) : gmfI (smfI τ v) = v := rfl
theorem hs_fI_fV (τ : MS) (v : (Nat → Int32)) : gmfI (smfV τ v) = gmfI τ := rfl
theorem hs_fI_fr (τ : MS) (v : Nat) : gmfI (smfr τ v) = gmfI τ := rfl
theorem hs_fI_bo (τ : MS) (v : (Nat → Nat)) : gmfI (smbo τ v) = gmfI τ := rfl
theorem hs_fI_pl (τ : MS) (v : (Nat → Nat)) : gmfI (smpl τ v) = gmfI τ := rfl
theorem hs_fI_wa (τ : MS) (v : (Nat → Nat)) : gmfI (smwa τ v) = gmfI τ := rfl
theorem hs_fI_is (τ : MS) (v : (Nat → Bool)) : gmfI (smis τ v) = gmfI τ := rfl
theorem hs_fI_va (τ : MS) (v : (Nat → Int32)) : gmfI (smva τ v) = gmfI τ := rfl
theorem hs_fI_ou (τ : MS) (v : (Nat → Int32)) : gmfI (smou τ v) = gmfI τ := rfl
theorem hs_fI_ct (τ : MS) (v : (Nat → Nat)) : gmfI (smct τ v) = gmfI τ := rfl
theorem tt_fI (τ : MS) (v w : (Nat → Bool)) : smfI (smfI τ v) w = smfI τ w := rfl
theorem hs_fV_th (τ : MS) (v : Nat) : gmfV (smth τ v) = gmfV τ := rfl
theorem hs_fV_ty (τ : MS) (v : Nat) : gmfV (smty τ v) = gmfV τ := rfl
theorem hs_fV_pa (τ : MS) (v : (Nat → Option Nat)) : gmfV (smpa τ v) = gmfV τ := rfl
theorem hs_fV_my (τ : MS) (v : (Nat → Nat)) : gmfV (smmy τ v) = gmfV τ := rfl
theorem hs_fV_cd (τ : MS) (v : (Nat → Int32)) : gmfV (smcd τ v) = gmfV τ := rfl
theorem hs_fV_md (τ : MS) (v : (Nat → Bool)) : gmfV (smmd τ v) = gmfV τ := rfl
theorem hs_fV_rd (τ : MS) (v : (Nat → Bool)) : gmfV (smrd τ v) = gmfV τ := rfl
theorem hs_fV_ch (τ : MS) (v : (Nat → Bool)) : gmfV (smch τ v) = gmfV τ := rfl
theorem hs_fV_si (τ : MS) (v : (Nat → Nat)) : gmfV (smsi τ v) = gmfV τ := rfl
theorem hs_fV_ho (τ : MS) (v : (Nat → Bool)) : gmfV (smho τ v) = gmfV τ := rfl
theorem hs_fV_ob (τ : MS) (v : Nat) : gmfV (smob τ v) = gmfV τ := rfl
theorem hs_fV_rm (τ : MS) (v : Nat) : gmfV (smrm τ v) = gmfV τ := rfl
theorem hs_fV_cl (τ : MS) (v : (Nat → Nat)) : gmfV (smcl τ v) = gmfV τ := rfl
theorem hs_fV_fI (τ : MS) (v : (Nat → Bool)) : gmfV (smfI τ v) = gmfV τ := rfl
theorem hs_fV_fV (τ : MS) (v : (Nat → Int32)) : gmfV (smfV τ v) = v := rfl
theorem hs_fV_fr (τ : MS) (v : Nat) : gmfV (smfr τ v) = gmfV τ := rfl
theorem hs_fV_bo (τ : MS) (v : (Nat → Nat)) : gmfV (smbo τ v) = gmfV τ := rfl
theorem hs_fV_pl (τ : MS) (v : (Nat → Nat)) : gmfV (smpl τ v) = gmfV τ := rfl
theorem hs_fV_wa (τ : MS) (v : (Nat → Nat)) : gmfV (smwa τ v) = gmfV τ := rfl
theorem hs_fV_is (τ : MS) (v : (Nat → Bool)) : gmfV (smis τ v) = gmfV τ := rfl
theorem hs_fV_va (τ : MS) (v : (Nat → Int32)) : gmfV (smva τ v) = gmfV τ := rfl
theorem hs_fV_ou (τ : MS) (v : (Nat → Int32)) : gmfV (smou τ v) = gmfV τ := rfl
theorem hs_fV_ct (τ : MS) (v : (Nat → Nat)) : gmfV (smct τ v) = gmfV τ := rfl
theorem tt_fV (τ : MS) (v w : (Nat → Int32)) : smfV (smfV τ v) w = smfV τ w := rfl
theorem hs_fr_th (τ : MS) (v : Nat) : gmfr (smth τ v) = gmfr τ := rfl
theorem hs_fr_ty (τ : MS) (v : Nat) : gmfr (smty τ v) = gmfr τ := rfl
theorem hs_fr_pa (τ : MS) (v : (Nat → Option Nat)) : gmfr (smpa τ v) = gmfr τ := rfl
theorem hs_fr_my (τ : MS) (v : (Nat → Nat)) : gmfr (smmy τ v) = gmfr τ := rfl
theorem hs_fr_cd (τ : MS) (v : (Nat → Int32)) : gmfr (smcd τ v) = gmfr τ := rfl
theorem hs_fr_md (τ : MS) (v : (Nat → Bool)) : gmfr (smmd τ v) = gmfr τ := rfl
theorem hs_fr_rd (τ : MS) (v : (Nat → Bool)) : gmfr (smrd τ v) = gmfr τ := rfl
theorem hs_fr_ch (τ : MS) (v : (Nat → Bool)) : gmfr (smch τ v) = gmfr τ := rfl
theorem hs_fr_si (τ : MS) (v : (Nat → Nat)) : gmfr (smsi τ v) = gmfr τ := rfl
theorem hs_fr_ho (τ : MS) (v : (Nat → Bool)) : gmfr (smho τ v) = gmfr τ := rfl
theorem hs_fr_ob (τ : MS) (v : Nat) : gmfr (smob τ v) = gmfr τ := rfl
theorem hs_fr_rm (τ : MS) (v : Nat) : gmfr (smrm τ v) = gmfr τ := rfl
theorem hs_fr_cl (τ : MS) (v : (Nat → Nat)) : gmfr (smcl τ v) = gmfr τ := rfl
theorem hs_fr_fI (τ : MS) (v : (Nat → Bool)) : gmfr (smfI τ v) = gmfr τ := rfl
theorem hs_fr_fV (τ : MS) (v : (Nat → Int32)) : gmfr (smfV τ v) = gmfr τ := rfl
theorem hs_fr_fr (τ : MS) (v : Nat) : gmfr (smfr τ v) = v := rfl
theorem hs_fr_bo (τ : MS) (v : (Nat → Nat)) : gmfr (smbo τ v) = gmfr τ := rfl
theorem hs_fr_pl (τ : MS) (v : (Nat → Nat)) : gmfr (smpl τ v) = gmfr τ := rfl
theorem hs_fr_wa (τ : MS) (v : (Nat → Nat)) : gmfr (smwa τ v) = gmfr τ := rfl
theorem hs_fr_is (τ : MS) (v : (Nat → Bool)) : gmfr (smis τ v) = gmfr τ := rfl
theorem hs_fr_va (τ : MS) (v : (Nat → Int32)) : gmfr (smva τ v) = gmfr τ := rfl
theorem hs_fr_ou (τ : MS) (v : (Nat → Int32)) : gmfr (smou τ v) = gmfr τ := rfl
theorem hs_fr_ct (τ : MS) (v : (Nat → Nat)) : gmfr (smct τ v) = gmfr τ := rfl
theorem tt_fr (τ : MS) (v w : Nat) : smfr (smfr τ v) w = smfr τ w := rfl
theorem hs_bo_th (τ : MS) (v : Nat) : gmbo (smth τ v) = gmbo τ := rfl
theorem hs_bo_ty (τ : MS) (v : Nat) : gmbo (smty τ v) = gmbo τ := rfl
theorem hs_bo_pa (τ : MS) (v : (Nat → Option Nat)) : gmbo (smpa τ v) = gmbo τ := rfl
theorem hs_bo_my (τ : MS) (v : (Nat → Nat)) : gmbo (smmy τ v) = gmbo τ := rfl
theorem hs_bo_cd (τ : MS) (v : (Nat → Int32)) : gmbo (smcd τ v) = gmbo τ := rfl
theorem hs_bo_md (τ : MS) (v : (Nat → Bool)) : gmbo (smmd τ v) = gmbo τ := rfl
theorem hs_bo_rd (τ : MS) (v : (Nat → Bool)) : gmbo (smrd τ v) = gmbo τ := rfl
theorem hs_bo_ch (τ : MS) (v : (Nat → Bool)) : gmbo (smch τ v) = gmbo τ := rfl
theorem hs_bo_si (τ : MS) (v : (Nat → Nat)) : gmbo (smsi τ v) = gmbo τ := rfl
theorem hs_bo_ho (τ : MS) (v : (Nat → Bool)) : gmbo (smho τ v) = gmbo τ := rfl
theorem hs_bo_ob (τ : MS) (v : Nat) : gmbo (smob τ v) = gmbo τ := rfl
theorem hs_bo_rm (τ : MS) (v : Nat) : gmbo (smrm τ v) = gmbo τ := rfl
theorem hs_bo_cl (τ : MS) (v : (Nat → Nat)) : gmbo (smcl τ v) = gmbo τ := rfl
theorem hs_bo_fI (τ : MS) (v : (Nat → Bool)) : gmbo (smfI τ v) = gmbo τ := rfl
theorem hs_bo_fV (τ : MS) (v : (Nat → Int32)) : gmbo (smfV τ v) = gmbo τ := rfl
theorem hs_bo_fr (τ : MS) (v : Nat) : gmbo (smfr τ v) = gmbo τ := rfl
theorem hs_bo_bo (τ : MS) (v : (Nat → Nat)) : gmbo (smbo τ v) = v := rfl
theorem hs_bo_pl (τ : MS) (v : (Nat → Nat)) : gmbo (smpl τ v) = gmbo τ := rfl
theorem hs_bo_wa (τ : MS) (v : (Nat → Nat)) : gmbo (smwa τ v) = gmbo τ := rfl
theorem hs_bo_is (τ : MS) (v : (Nat → Bool)) : gmbo (smis τ v) = gmbo τ := rfl
theorem hs_bo_va (τ : MS) (v : (Nat → Int32)) : gmbo (smva τ v) = gmbo τ := rfl
theorem hs_bo_ou (τ : MS) (v : (Nat → Int32)) : gmbo (smou τ v) = gmbo τ := rfl
theorem hs_bo_ct (τ : MS) (v : (Nat → Nat)) : gmbo (smct τ v) = gmbo τ := rfl
theorem tt_bo (τ : MS) (v w : (Nat → Nat)) : smbo (smbo τ v) w = smbo τ w := rfl
theorem hs_pl_th (τ : MS) (v : Nat) : gmpl (smth τ v) = gmpl τ := rfl
theorem hs_pl_ty (τ : MS) (v : Nat) : gmpl (smty τ v) = gmpl τ := rfl
theorem hs_pl_pa (τ : MS) (v : (Nat → Option Nat)) : gmpl (smpa τ v) = gmpl τ := rfl
theorem hs_pl_my (τ : MS) (v : (Nat → Nat)) : gmpl (smmy τ v) = gmpl τ := rfl
theorem hs_pl_cd (τ : MS) (v : (Nat → Int32)) : gmpl (smcd τ v) = gmpl τ := rfl
theorem hs_pl_md (τ : MS) (v : (Nat → Bool)) : gmpl (smmd τ v) = gmpl τ := rfl
theorem hs_pl_rd (τ : MS) (v : (Nat → Bool)) : gmpl (smrd τ v) = gmpl τ := rfl
theorem hs_pl_ch (τ : MS) (v : (Nat → Bool)) : gmpl (smch τ v) = gmpl τ := rfl
theorem hs_pl_si (τ : MS) (v : (Nat → Nat)) : gmpl (smsi τ v) = gmpl τ := rfl
theorem hs_pl_ho (τ : MS) (v : (Nat → Bool)) : gmpl (smho τ v) = gmpl τ := rfl
theorem hs_pl_ob (τ : MS) (v : Nat) : gmpl (smob τ v) = gmpl τ := rfl
theorem hs_pl_rm (τ : MS) (v : Nat) : gmpl (smrm τ v) = gmpl τ := rfl
theorem hs_pl_cl (τ : MS) (v : (Nat → Nat)) : gmpl (smcl τ v) = gmpl τ := rfl
theorem hs_pl_fI (τ : MS) (v : (Nat → Bool)) : gmpl (smfI τ v) = gmpl τ := rfl
theorem hs_pl_fV (τ : MS) (v : (Nat → Int32)) : gmpl (smfV τ v) = gmpl τ := rfl
theorem hs_pl_fr (τ : MS) (v : Nat) : gmpl (smfr τ v) = gmpl τ := rfl
theorem hs_pl_bo (τ : MS) (v : (Nat → Nat)) : gmpl (smbo τ v) = gmpl τ := rfl
theorem hs_pl_pl (τ : MS) (v : (Nat → Nat)) : gmpl (smpl τ v) = v := rfl
theorem hs_pl_wa (τ : MS) (v : (Nat → Nat)) : gmpl (smwa τ v) = gmpl τ := rfl
theorem hs_pl_is (τ : MS) (v : (Nat → Bool)) : gmpl (smis τ v) = gmpl τ := rfl
theorem hs_pl_va (τ : MS) (v : (Nat → Int32)) : gmpl (smva τ v) = gmpl τ := rfl
theorem hs_pl_ou (τ : MS) (v : (Nat → Int32)) : gmpl (smou τ v) = gmpl τ := rfl
theorem hs_pl_ct (τ : MS) (v : (Nat → Nat)) : gmpl (smct τ v) = gmpl τ := rfl
theorem tt_pl (τ : MS) (v w : (Nat → Nat)) : smpl (smpl τ v) w = smpl τ w := rfl
theorem hs_wa_th (τ : MS) (v : Nat) : gmwa (smth τ v) = gmwa τ := rfl
theorem hs_wa_ty (τ : MS) (v : Nat) : gmwa (smty τ v) = gmwa τ := rfl
theorem hs_wa_pa (τ : MS) (v : (Nat → Option Nat)) : gmwa (smpa τ v) = gmwa τ := rfl
theorem hs_wa_my (τ : MS) (v : (Nat → Nat)) : gmwa (smmy τ v) = gmwa τ := rfl
theorem hs_wa_cd (τ : MS) (v : (Nat → Int32)) : gmwa (smcd τ v) = gmwa τ := rfl
theorem hs_wa_md (τ : MS) (v : (Nat → Bool)) : gmwa (smmd τ v) = gmwa τ := rfl
theorem hs_wa_rd (τ : MS) (v : (Nat → Bool)) : gmwa (smrd τ v) = gmwa τ := rfl
theorem hs_wa_ch (τ : MS) (v : (Nat → Bool)) : gmwa (smch τ v) = gmwa τ := rfl
theorem hs_wa_si (τ : MS) (v : (Nat → Nat)) : gmwa (smsi τ v) = gmwa τ := rfl
theorem hs_wa_ho (τ : MS) (v : (Nat → Bool)) : gmwa (smho τ v) = gmwa τ := rfl
theorem hs_wa_ob (τ : MS) (v : Nat) : gmwa (smob τ v) = gmwa τ := rfl
theorem hs_wa_rm (τ : MS) (v : Nat) : gmwa (smrm τ v) = gmwa τ := rfl
theorem hs_wa_cl (τ : MS) (v : (Nat → Nat)) : gmwa (smcl τ v) = gmwa τ := rfl
theorem hs_wa_fI (τ : MS) (v : (Nat → Bool)) : gmwa (smfI τ v) = gmwa τ := rfl
theorem hs_wa_fV (τ : MS) (v : (Nat → Int32)) : gmwa (smfV τ v) = gmwa τ := rfl
theorem hs_wa_fr (τ : MS) (v : Nat) : gmwa (smfr τ v) = gmwa τ := rfl
theorem hs_wa_bo (τ : MS) (v : (Nat → Nat)) : gmwa (smbo τ v) = gmwa τ := rfl
theorem hs_wa_pl (τ : MS) (v : (Nat → Nat)) : gmwa (smpl τ v) = gmwa τ := rfl
theorem hs_wa_wa (τ : MS) (v : (Nat → Nat)) : gmwa (smwa τ v) = v := rfl
theorem hs_wa_is (τ : MS) (v : (Nat → Bool)) : gmwa (smis τ v) = gmwa τ := rfl
theorem hs_wa_va (τ : MS) (v : (Nat → Int32)) : gmwa (smva τ v) = gmwa τ := rfl
theorem hs_wa_ou (τ : MS) (v : (Nat → Int32)) : gmwa (smou τ v) = gmwa τ := rfl
theorem hs_wa_ct (τ : MS) (v : (Nat → Nat)) : gmwa (smct τ v) = gmwa τ := rfl
theorem tt_wa (τ : MS) (v w : (Nat → Nat)) : smwa (smwa τ v) w = smwa τ w := rfl
theorem hs_is_th (τ : MS) (v : Nat) : gmis (smth τ v) = gmis τ := rfl
theorem hs_is_ty (τ : MS) (v : Nat) : gmis (smty τ v) = gmis τ := rfl
theorem hs_is_pa (τ : MS) (v : (Nat → Option Nat)) : gmis (smpa τ v) = gmis τ := rfl
theorem hs_is_my (τ : MS) (v : (Nat → Nat)) : gmis (smmy τ v) = gmis τ := rfl
theorem hs_is_cd (τ : MS) (v : (Nat → Int32)) : gmis (smcd τ v) = gmis τ := rfl
theorem hs_is_md (τ : MS) (v : (Nat → Bool)) : gmis (smmd τ v) = gmis τ := rfl
theorem hs_is_rd (τ : MS) (v : (Nat → Bool)) : gmis (smrd τ v) = gmis τ := rfl
theorem hs_is_ch (τ : MS) (v : (Nat → Bool)) : gmis (smch τ v) = gmis τ := rfl
theorem hs_is_si (τ : MS) (v : (Nat → Nat)) : gmis (smsi τ v) = gmis τ := rfl
theorem hs_is_ho (τ : MS) (v : (Nat → Bool)) : gmis (smho τ v) = gmis τ := rfl
theorem hs_is_ob (τ : MS) (v : Nat) : gmis (smob τ v) = gmis τ := rfl
theorem hs_is_rm (τ : MS) (v : Nat) : gmis (smrm τ v) = gmis τ := rfl
theorem hs_is_cl (τ : MS) (v : (Nat → Nat)) : gmis (smcl τ v) = gmis τ := rfl
theorem hs_is_fI (τ : MS) (v : (Nat → Bool)) : gmis (smfI τ v) = gmis τ := rfl
theorem hs_is_fV (τ : MS) (v : (Nat → Int32)) : gmis (smfV τ v) = gmis τ := rfl
theorem hs_is_fr (τ : MS) (v : Nat) : gmis (smfr τ v) = gmis τ := rfl
theorem hs_is_bo (τ : MS) (v : (Nat → Nat)) : gmis (smbo τ v) = gmis τ := rfl
theorem hs_is_pl (τ : MS) (v : (Nat → Nat)) : gmis (smpl τ v) = gmis τ := rfl
theorem hs_is_wa (τ : MS) (v : (Nat → Nat)) : gmis (smwa τ v) = gmis τ := rfl
theorem hs_is_is (τ : MS) (v : (Nat → Bool)) : gmis (smis τ v) = v := rfl
theorem hs_is_va (τ : MS) (v : (Nat → Int32)) : gmis (smva τ v) = gmis τ := rfl
theorem hs_is_ou (τ : MS) (v : (Nat → Int32)) : gmis (smou τ v) = gmis τ := rfl
theorem hs_is_ct (τ : MS) (v : (Nat → Nat)) : gmis (smct τ v) = gmis τ := rfl
theorem tt_is (τ : MS) (v w : (Nat → Bool)) : smis (smis τ v) w = smis τ w := rfl
theorem hs_va_th (τ : MS) (v : Nat) : gmva (smth τ v) = gmva τ := rfl
theorem hs_va_ty (τ : MS) (v : Nat) : gmva (smty τ v) = gmva τ := rfl
theorem hs_va_pa (τ : MS) (v : (Nat → Option Nat)) : gmva (smpa τ v) = gmva τ := rfl
theorem hs_va_my (τ : MS) (v : (Nat → Nat)) : gmva (smmy τ v) = gmva τ := rfl
theorem hs_va_cd (τ : MS) (v : (Nat → Int32)) : gmva (smcd τ v) = gmva τ := rfl
theorem hs_va_md (τ : MS) (v : (Nat → Bool)) : gmva (smmd τ v) = gmva τ := rfl
theorem hs_va_rd (τ : MS) (v : (Nat → Bool)) : gmva (smrd τ v) = gmva τ := rfl
theorem hs_va_ch (τ : MS) (v : (Nat → Bool)) : gmva (smch τ v) = gmva τ := rfl
theorem hs_va_si (τ : MS) (v : (Nat → Nat)) : gmva (smsi τ v) = gmva τ := rfl
theorem hs_va_ho (τ : MS) (v : (Nat → Bool)) : gmva (smho τ v) = gmva τ := rfl
theorem hs_va_ob (τ : MS) (v : Nat) : gmva (smob τ v) = gmva τ := rfl
theorem hs_va_rm (τ : MS) (v : Nat) : gmva (smrm τ v) = gmva τ := rfl
theorem hs_va_cl (τ : MS) (v : (Nat → Nat)) : gmva (smcl τ v) = gmva τ := rfl
theorem hs_va_fI (τ : MS) (v : (Nat → Bool)) : gmva (smfI τ v) = gmva τ := rfl
theorem hs_va_fV (τ : MS) (v : (Nat → Int32)) : gmva (smfV τ v) = gmva τ := rfl
theorem hs_va_fr (τ : MS) (v : Nat) : gmva (smfr τ v) = gmva τ := rfl
theorem hs_va_bo (τ : MS) (v : (Nat → Nat)) : gmva (smbo τ v) = gmva τ := rfl
theorem hs_va_pl (τ : MS) (v : (Nat → Nat)) : gmva (smpl τ v) = gmva τ := rfl
theorem hs_va_wa (τ : MS) (v : (Nat → Nat)) : gmva (smwa τ v) = gmva τ := rfl
theorem hs_va_is (τ : MS) (v : (Nat → Bool)) : gmva (smis τ v) = gmva τ := rfl
theorem hs_va_va (τ : MS) (v : (Nat → Int32)) : gmva (smva τ v) = v := rfl
theorem hs_va_ou (τ : MS) (v : (Nat → Int32)) : gmva (smou τ v) = gmva τ := rfl
theorem hs_va_ct (τ : MS) (v : (Nat → Nat)) : gmva (smct τ v) = gmva τ := rfl
theorem tt_va (τ : MS) (v w : (Nat → Int32)) : smva (smva τ v) w = smva τ w := rfl
theorem hs_ou_th (τ : MS) (v : Nat) : gmou (smth τ v) = gmou τ := rfl
theorem hs_ou_ty (τ : MS) (v : Nat) : gmou (smty τ v) = gmou τ := rfl
theorem hs_ou_pa (τ : MS) (v : (Nat → Option Nat)) : gmou (smpa τ v) = gmou τ := rfl
theorem hs_ou_my (τ : MS) (v : (Nat → Nat)) : gmou (smmy τ v) = gmou τ := rfl
theorem hs_ou_cd (τ : MS) (v : (Nat → Int32)) : gmou (smcd τ v) = gmou τ := rfl
theorem hs_ou_md (τ : MS) (v : (Nat → Bool)) : gmou (smmd τ v) = gmou τ := rfl
theorem hs_ou_rd (τ : MS) (v : (Nat → Bool)) : gmou (smrd τ v) = gmou τ := rfl
theorem hs_ou_ch (τ : MS) (v : (Nat → Bool)) : gmou (smch τ v) = gmou τ := rfl
theorem hs_ou_si (τ : MS) (v : (Nat → Nat)) : gmou (smsi τ v) = gmou τ := rfl
theorem hs_ou_ho (τ : MS) (v : (Nat → Bool)) : gmou (smho τ v) = gmou τ := rfl
theorem hs_ou_ob (τ : MS) (v : Nat) : gmou (smob τ v) = gmou τ := rfl
theorem hs_ou_rm (τ : MS) (v : Nat) : gmou (smrm τ v) = gmou τ := rfl
theorem hs_ou_cl (τ : MS) (v : (Nat → Nat)) : gmou (smcl τ v) = gmou τ := rfl
theorem hs_ou_fI (τ : MS) (v : (Nat → Bool)) : gmou (smfI τ v) = gmou τ := rfl
theorem hs_ou_fV (τ : MS) (v : (Nat → Int32)) : gmou (smfV τ v) = gmou τ := rfl
theorem hs_ou_fr (τ : MS) (v : Nat) : gmou (smfr τ v) = gmou τ := rfl
theorem hs_ou_bo (τ : MS) (v : (Nat → Nat)) : gmou (smbo τ v) = gmou τ := rfl
theorem hs_ou_pl (τ : MS) (v : (Nat → Nat)) : gmou (smpl τ v) = gmou τ := rfl
theorem hs_ou_wa (τ : MS) (v : (Nat → Nat)) : gmou (smwa τ v) = gmou τ := rfl
theorem hs_ou_is (τ : MS) (v : (Nat → Bool)) : gmou (smis τ v) = gmou τ := rfl
theorem hs_ou_va (τ : MS) (v : (Nat → Int32)) : gmou (smva τ v) = gmou τ := rfl
theorem hs_ou_ou (τ : MS) (v : (Nat → Int32)) : gmou (smou τ v) = v := rfl
theorem hs_ou_ct (τ : MS) (v : (Nat → Nat)) : gmou (smct τ v) = gmou τ := rfl
theorem tt_ou (τ : MS) (v w : (Nat → Int32)) : smou (smou τ v) w = smou τ w := rfl
theorem hs_ct_th (τ : MS) (v : Nat) : gmct (smth τ v) = gmct τ := rfl
theorem hs_ct_ty (τ : MS) (v : Nat) : gmct (smty τ v) = gmct τ := rfl
theorem hs_ct_pa (τ : MS) (v : (Nat → Option Nat)) : gmct (smpa τ v) = gmct τ := rfl
theorem hs_ct_my (τ : MS) (v : (Nat → Nat)) : gmct (smmy τ v) = gmct τ := rfl
theorem hs_ct_cd (τ : MS) (v : (Nat → Int32)) : gmct (smcd τ v) = gmct τ := rfl
theorem hs_ct_md (τ : MS) (v : (Nat → Bool)) : gmct (smmd τ v) = gmct τ := rfl
theorem hs_ct_rd (τ : MS) (v : (Nat → Bool)) : gmct (smrd τ v) = gmct τ := rfl
theorem hs_ct_ch (τ : MS) (v : (Nat → Bool)) : gmct (smch τ v) = gmct τ := rfl
theorem hs_ct_si (τ : MS) (v : (Nat → Nat)) : gmct (smsi τ v) = gmct τ := rfl
theorem hs_ct_ho (τ : MS) (v : (Nat → Bool)) : gmct (smho τ v) = gmct τ := rfl
theorem hs_ct_ob (τ : MS) (v : Nat) : gmct (smob τ v) = gmct τ := rfl
theorem hs_ct_rm (τ : MS) (v : Nat) : gmct (smrm τ v) = gmct τ := rfl
theorem hs_ct_cl (τ : MS) (v : (Nat → Nat)) : gmct (smcl τ v) = gmct τ := rfl
theorem hs_ct_fI (τ : MS) (v : (Nat → Bool)) : gmct (smfI τ v) = gmct τ := rfl
theorem hs_ct_fV (τ : MS) (v : (Nat → Int32)) : gmct (smfV τ v) = gmct τ := rfl
theorem hs_ct_fr (τ : MS) (v : Nat) : gmct (smfr τ v) = gmct τ := rfl
theorem hs_ct_bo (τ : MS) (v : (Nat → Nat)) : gmct (smbo τ v) = gmct τ := rfl
theorem hs_ct_pl (τ : MS) (v : (Nat → Nat)) : gmct (smpl τ v) = gmct τ := rfl
theorem hs_ct_wa (τ : MS) (v : (Nat → Nat)) : gmct (smwa τ v) = gmct τ := rfl
theorem hs_ct_is (τ : MS) (v : (Nat → Bool)) : gmct (smis τ v) = gmct τ := rfl
theorem hs_ct_va (τ : MS) (v : (Nat → Int32)) : gmct (smva τ v) = gmct τ := rfl
theorem hs_ct_ou (τ : MS) (v : (Nat → Int32)) : gmct (smou τ v) = gmct τ := rfl
theorem hs_ct_ct (τ : MS) (v : (Nat → Nat)) : gmct (smct τ v) = v := rfl
theorem tt_ct (τ : MS) (v w : (Nat → Nat)) : smct (smct τ v) w = smct τ w := rfl
