/-! THE CLAIM OUT OF ONE WALK OF THE LAW'S BODY. Your part is whole_start (and what it stands on); all else here is the same for every law, but numbers. -/
def R_law : String := "CallShaperLaw"
def lw_P (b : Addr) (xs : List Int32) (args : Array Value) (s : State) : Prop := args = #[.ref b] ∧ s.IntsAt b xs ∧ xs.length ≤ 3584 ∧ (Jvm.Cond.and given_1 narrow_1).before args s = true
def lw_Q (_ : Array Value) (s : State) (o : Outcome) (t : State) : Prop := o = .returned (some (.int 1)) ∧ Framed s o t [] 601024 7293034
def lw_Z (below : List Frame) (a : Array Value) (s : State) : State → Prop := fun t => ∃ o, t.status = .running ∧ Ended t below o ∧ lw_Q a s o t
/-- the law's own end, with 1 on the stack, nothing written that was there before, its room as the claim has it -/
theorem lw_ret {p : Program} {l : Launch} {e : Env} {s : State} {m : MethodId} {below : List Frame} {meth : Method} {c : Code} {b : Nat} (hx : p.tables.exec = Jvm.exec) (hb : c.code = code) (hr : meth.sig.returnType = ret) (hlocks : meth.locks = false) {pc : Nat} {H : Heap} {ls : Array Slot} (hdg : decode code pc = .ok (.ireturn, 1)) : W p l e room_1 s m #[Value.ref b] below meth c H [] 601024 7293034 (lw_Z below #[Value.ref b] s) (F0 m pc ls [.int 1]) := by
  intro T hT X
  obtain ⟨fs, hret, hrun, hended, hW, hframe⟩ := X.leave (v := some (.int 1)) (hlocks := hlocks) (fun h => by rw [hr] at h; cases h)
  have hmeth' : T.vm.method? m = some meth := X.method'
  refine ⟨T.setFrames fs, ?_, .returned (some (.int 1)), hrun, hended, rfl, ⟨_, rfl⟩, hW, hframe⟩
  jvm_step X.here [X.here.top, hx, hb, hdg, hmeth', hr, ret, narrow_b1]
  (try refine ⟨rfl, ?_⟩); (try refine ⟨rfl, ?_⟩)
  first | (intro acts; rw [hret _ acts rfl rfl rfl]) | rw [hret _ _ rfl rfl rfl]
  exact Steps.refl _
/-- what holds at the law's entry: the machine, the code, the tables' words (any of lw_tbl by 'hts w (by decide +kernel)'), the script of L ints xs at the cell b, what the Statement gives of the start (any of its parts by flat_of_before) -/
def lw_At (p : Program) (s : State) (m : MethodId) (meth : Method) (c : Code) (b L : Nat) (xs : Nat → Int32) : Prop :=
  p.tables.exec = Jvm.exec ∧ c.code = code ∧ meth.sig.returnType = ret ∧ c.maxLocals = 7 ∧ s.vm.findClass R_law = some m.cls ∧ (∀ w ∈ lw_tbl, w.before #[Value.ref b] s = true) ∧ va_X b L xs s s.heap ∧ b < s.heap.size ∧ meth.locks = false ∧ (Jvm.Cond.and given_1 narrow_1).before #[Value.ref b] s = true
theorem lg_self (x : Int64) : lg_cmp x x = 0 := by
  unfold lg_cmp
  rw [if_neg (fun h => Int64.lt_irrefl h), if_pos rfl]
abbrev LA (s : State) : Nat → Prop := fun q => s.heap.size ≤ q
abbrev lcl (b i : Nat) (ad bd : Nat → Nat) (o : Nat) : List (Nat × Value) := [(0, .ref b), (1, .ref (ad 0)), (2, .ref (bd 0)), (3, .ref o), (4, .int (nI i))]
/-- behind one call of the script -/
def KC (p : Program) (l : Launch) (e : Env) (s : State) (m : MethodId) (b : Nat) (below : List Frame) (meth : Method) (c : Code) (D : va_G) (cI cJ cZ : ClassId) (ad bd : Nat → Nat) (o i cells slots : Nat) : Prop :=
  ∀ (σ : CS) (ρ : MS) (u : Int64) (H : Heap) (locs : List Loc) (ls : Array Slot), LI σ ρ → va_P D vwCl (wO ad cI cJ cZ o σ u) H → va_P D vwCl (wR bd cI cJ cZ ρ) H → va_S (LA s) s.heap H locs → lv_has ls 7 (lcl b i ad bd o) → W p l e room_1 s m #[Value.ref b] below meth c H locs cells slots (lw_Z below #[Value.ref b] s) (F0 m 636 ls [])
/-- what stays through the law -/
def LK (p : Program) (l : Launch) (s : State) (m : MethodId) (b L : Nat) (xs : Nat → Int32) (c : Code) (D : va_G) (cI cJ cZ : ClassId) (ad bd : Nat → Nat) (o : Nat) : Prop :=
  Cx p s m #[Value.ref b] c cL_law 7 RL (.initialized RL) D (t3 cI cJ cZ) ∧ l.stackTraces = false ∧ va_X b L xs s s.heap ∧ b < s.heap.size ∧ L ≤ 3584 ∧ XK (LA s) s s.heap ∧ va_D (LA s) (wO ad cI cJ cZ o c00 0) ∧ va_D (LA s) (wR bd cI cJ cZ m00) ∧ AP (wO ad cI cJ cZ o c00 0) (wR bd cI cJ cZ m00)
section LAWC
variable {p : Program} {l : Launch} {e : Env} {s : State} {m : MethodId} {b L : Nat} {xs : Nat → Int32} {below : List Frame} {meth : Method} {c : Code} {D : va_G} {cI cJ cZ : ClassId} {ad bd : Nat → Nat} {o i cells slots : Nat} {σ : CS} {ρ : MS} {u : Int64} {H : Heap} {locs : List Loc} {ls : Array Slot}
set_option maxRecDepth 100000 in
set_option maxHeartbeats 400000 in
theorem lw_type (hLK : LK p l s m b L xs c D cI cJ cZ ad bd o) (hi : i + 7 ≤ L) (hc : cells + 1 ≤ 601024) (hs : slots + 6 ≤ 7293034) (hK : KC p l e s m b below meth c D cI cJ cZ ad bd o i (cells + 1) (slots + 6)) (h : LI σ ρ) (hP : va_P D vwCl (wO ad cI cJ cZ o σ u) H) (hP2 : va_P D vwCl (wR bd cI cJ cZ ρ) H) (hS : va_S (LA s) s.heap H locs) (hl : lv_has ls 7 (lcl b i ad bd o)) : W p l e room_1 s m #[Value.ref b] below meth c H locs cells slots (lw_Z below #[Value.ref b] s) (F0 m 92 ls []) := by
  obtain ⟨E, hst, hXs, hbl, hL, hX, hD, hD2, hAP⟩ := hLK
  have hbA : ¬ LA s b := Nat.not_le.mpr hbl
  obtain ⟨σ1, ρ1, k, bb, u1, hY, hM, hth, hu, h1, hk2⟩ := op_type (D := D) (cI := cI) (cJ := cJ) (cZ := cZ) (ad := ad) (bd := bd) (o := o) (u := u) hst h (xs (i + 1))
  refine lv_aload_n E.1.1 E.1.2.1 dL_law_92 rfl (lv_at hl 1 rfl) ?_
  refine lv_aload_n E.1.1 E.1.2.1 dL_law_93 rfl (lv_at hl 0 rfl) ?_
  refine lv_iload E.1.1 E.1.2.1 dL_law_94 (lv_at hl 4 rfl) ?_
  refine lv_iconst (v := nI 1) E.1.1 E.1.2.1 dL_law_96 rfl ?_
  refine nv_iadd E dL_law_97 ?_
  refine LL.sld (i := i + 1) E hXs hbl hbA hS (by omega) hL dL_law_98 ?_
  refine lv_aload_n E.1.1 E.1.2.1 dL_law_99 rfl (lv_at hl 3 rfl) ?_
  refine LL.callY (n := 3) (rest := []) E hY ml_L_45 st_L_type ini_L cw_L_type hdL_type ⟨by decide, by decide⟩ ⟨hc, hs⟩ hP hP2 (wO_D hD) (wO_AP hAP) hS (fun q h => h) hX rfl hl.1 (Nat.le_of_ble_eq_true rfl) dL_law_100 rfl (fun H locs hP hP2 hS => ?_)
  refine lv_istore (lv' := [(5, .int (nI k)), (0, .ref b), (1, .ref (ad 0)), (2, .ref (bd 0)), (3, .ref o), (4, .int (nI i))]) E.1.1 E.1.2.1 dL_law_103 hl (by decide) rfl (fun ls hl => ?_)
  refine lv_aload_n E.1.1 E.1.2.1 dL_law_105 rfl (lv_at hl 3 rfl) ?_
  refine lv_aload_n E.1.1 E.1.2.1 dL_law_106 rfl (lv_at hl 1 rfl) ?_
  refine lv_iload E.1.1 E.1.2.1 dL_law_107 (lv_at hl 5 rfl) ?_
  refine lv_iconst (v := nI 1) E.1.1 E.1.2.1 dL_law_109 rfl ?_
  refine nv_iadd E dL_law_110 ?_
  refine LL.sld (i := i + 1) E hXs hbl hbA hS (by omega) hL dL_law_111 ?_
  refine LL.callR (n := 1) (rest := []) E hM ml_L_50 im_X4_type se_X4_type ini_X4 co_X4_type hd_X4_type ⟨by decide, by decide⟩ ⟨hc, hs⟩ 0 rfl rfl hP hP2 (wR_D2 hD2) (wO_AP hAP) hS (fun q h => h) rfl hl.1 (Nat.le_of_ble_eq_true rfl) dL_law_112 rfl (fun H locs hP hP2 hS => ?_)
  refine lv_istore (lv' := [(6, .int bb), (5, .int (nI k)), (0, .ref b), (1, .ref (ad 0)), (2, .ref (bd 0)), (3, .ref o), (4, .int (nI i))]) E.1.1 E.1.2.1 dL_law_115 hl (by decide) rfl (fun ls hl => ?_)
  refine lv_aload_n E.1.1 E.1.2.1 dL_law_117 rfl (lv_at hl 4 rfl) ?_
  refine LL.callR (n := 0) (rest := []) E (c_X4_thrown l D cI cJ cZ bd ρ1) ml_L_51 im_X4_thrown se_X4_thrown ini_X4 co_X4_thrown hd_X4_thrown ⟨by decide, by decide⟩ ⟨hc, hs⟩ 0 rfl rfl hP hP2 (wR_D2 hD2) (wO_AP hAP) hS (fun q h => h) rfl hl.1 (Nat.le_of_ble_eq_true rfl) dL_law_118 rfl (fun H locs hP hP2 hS => ?_)
  refine lv_iload E.1.1 E.1.2.1 dL_law_121 (lv_at hl 1 rfl) ?_
  refine lv_icmp_eq (tgt := 128) E.1.1 E.1.2.1 dL_law_123 (by decide) (fun _ => ?_) (fun h9 => absurd (by rw [hth]) h9)
  refine lv_iload E.1.1 E.1.2.1 dL_law_128 (lv_at hl 1 rfl) ?_
  refine lv_if_ne (tgt := 145) E.1.1 E.1.2.1 dL_law_130 (by decide) (fun _ => ?_) (fun h9 => ?_)
  · refine lv_goto (tgt := 636) E.1.1 E.1.2.1 dL_law_145 (by decide) ?_
    exact hK σ1 ρ1 u1 _ _ _ h1 hP hP2 hS (lv_sub hl [2, 3, 4, 5, 6] rfl)
  · refine lv_aload_n E.1.1 E.1.2.1 dL_law_133 rfl (lv_at hl 5 rfl) ?_
    refine lv_iconst (v := nI 0) E.1.1 E.1.2.1 dL_law_134 rfl ?_
    refine LL.lald E hP dL_law_135 ?_
    refine lv_iload E.1.1 E.1.2.1 dL_law_136 (lv_at hl 0 rfl) ?_
    refine lv_i2l (v := bb.toInt64) E.1.1 E.1.2.1 dL_law_138 rfl ?_
    refine W.lcmp E.1.1 E.1.2.1 dL_law_139 ?_
    refine lv_if_eq (tgt := 145) E.1.1 E.1.2.1 dL_law_140 (by decide) (fun _ => ?_) (fun h8 => absurd (by rw [hu ((nI_z (by omega)).mp h9)]; exact lg_self _) h8)
    refine lv_goto (tgt := 636) E.1.1 E.1.2.1 dL_law_145 (by decide) ?_
    exact hK σ1 ρ1 u1 _ _ _ h1 hP hP2 hS (lv_sub hl [2, 3, 4, 5, 6] rfl)
set_option maxRecDepth 100000 in
set_option maxHeartbeats 400000 in
theorem lw_operation (hLK : LK p l s m b L xs c D cI cJ cZ ad bd o) (hi : i + 7 ≤ L) (hc : cells + 1 ≤ 601024) (hs : slots + 6 ≤ 7293034) (hK : KC p l e s m b below meth c D cI cJ cZ ad bd o i (cells + 1) (slots + 6)) (h : LI σ ρ) (hP : va_P D vwCl (wO ad cI cJ cZ o σ u) H) (hP2 : va_P D vwCl (wR bd cI cJ cZ ρ) H) (hS : va_S (LA s) s.heap H locs) (hl : lv_has ls 7 (lcl b i ad bd o)) : W p l e room_1 s m #[Value.ref b] below meth c H locs cells slots (lw_Z below #[Value.ref b] s) (F0 m 148 ls []) := by
  obtain ⟨E, hst, hXs, hbl, hL, hX, hD, hD2, hAP⟩ := hLK
  have hbA : ¬ LA s b := Nat.not_le.mpr hbl
  obtain ⟨σ1, ρ1, k, bb, u1, hY, hM, hth, hu, h1, hk2⟩ := op_operation (D := D) (cI := cI) (cJ := cJ) (cZ := cZ) (ad := ad) (bd := bd) (o := o) (u := u) hst h (xs (i + 1)) (xs (i + 2)) (xs (i + 3)) (xs (i + 4)) (xs (i + 5)) (xs (i + 6))
  refine lv_aload_n E.1.1 E.1.2.1 dL_law_148 rfl (lv_at hl 1 rfl) ?_
  refine lv_aload_n E.1.1 E.1.2.1 dL_law_149 rfl (lv_at hl 0 rfl) ?_
  refine lv_iload E.1.1 E.1.2.1 dL_law_150 (lv_at hl 4 rfl) ?_
  refine lv_iconst (v := nI 1) E.1.1 E.1.2.1 dL_law_152 rfl ?_
  refine nv_iadd E dL_law_153 ?_
  refine LL.sld (i := i + 1) E hXs hbl hbA hS (by omega) hL dL_law_154 ?_
  refine lv_aload_n E.1.1 E.1.2.1 dL_law_155 rfl (lv_at hl 0 rfl) ?_
  refine lv_iload E.1.1 E.1.2.1 dL_law_156 (lv_at hl 4 rfl) ?_
  refine lv_iconst (v := nI 2) E.1.1 E.1.2.1 dL_law_158 rfl ?_
  refine nv_iadd E dL_law_159 ?_
  refine LL.sld (i := i + 2) E hXs hbl hbA hS (by omega) hL dL_law_160 ?_
  refine lv_aload_n E.1.1 E.1.2.1 dL_law_161 rfl (lv_at hl 0 rfl) ?_
  refine lv_iload E.1.1 E.1.2.1 dL_law_162 (lv_at hl 4 rfl) ?_
  refine lv_iconst (v := nI 3) E.1.1 E.1.2.1 dL_law_164 rfl ?_
  refine nv_iadd E dL_law_165 ?_
  refine LL.sld (i := i + 3) E hXs hbl hbA hS (by omega) hL dL_law_166 ?_
  refine lv_aload_n E.1.1 E.1.2.1 dL_law_167 rfl (lv_at hl 0 rfl) ?_
  refine lv_iload E.1.1 E.1.2.1 dL_law_168 (lv_at hl 4 rfl) ?_
  refine lv_iconst (v := nI 4) E.1.1 E.1.2.1 dL_law_170 rfl ?_
  refine nv_iadd E dL_law_171 ?_
  refine LL.sld (i := i + 4) E hXs hbl hbA hS (by omega) hL dL_law_172 ?_
  refine lv_aload_n E.1.1 E.1.2.1 dL_law_173 rfl (lv_at hl 0 rfl) ?_
  refine lv_iload E.1.1 E.1.2.1 dL_law_174 (lv_at hl 4 rfl) ?_
  refine lv_iconst (v := nI 5) E.1.1 E.1.2.1 dL_law_176 rfl ?_
  refine nv_iadd E dL_law_177 ?_
  refine LL.sld (i := i + 5) E hXs hbl hbA hS (by omega) hL dL_law_178 ?_
  refine lv_aload_n E.1.1 E.1.2.1 dL_law_179 rfl (lv_at hl 0 rfl) ?_
  refine lv_iload E.1.1 E.1.2.1 dL_law_180 (lv_at hl 4 rfl) ?_
  refine lv_bipush (v := nI 6) E.1.1 E.1.2.1 dL_law_182 rfl ?_
  refine nv_iadd E dL_law_184 ?_
  refine LL.sld (i := i + 6) E hXs hbl hbA hS (by omega) hL dL_law_185 ?_
  refine lv_aload_n E.1.1 E.1.2.1 dL_law_186 rfl (lv_at hl 3 rfl) ?_
  refine LL.callY (n := 8) (rest := []) E hY ml_L_55 st_L_operation ini_L cw_L_operation hdL_operation ⟨by decide, by decide⟩ ⟨hc, hs⟩ hP hP2 (wO_D hD) (wO_AP hAP) hS (fun q h => h) hX rfl hl.1 (Nat.le_of_ble_eq_true rfl) dL_law_187 rfl (fun H locs hP hP2 hS => ?_)
  refine lv_istore (lv' := [(5, .int (nI k)), (0, .ref b), (1, .ref (ad 0)), (2, .ref (bd 0)), (3, .ref o), (4, .int (nI i))]) E.1.1 E.1.2.1 dL_law_190 hl (by decide) rfl (fun ls hl => ?_)
  refine lv_aload_n E.1.1 E.1.2.1 dL_law_192 rfl (lv_at hl 3 rfl) ?_
  refine lv_aload_n E.1.1 E.1.2.1 dL_law_193 rfl (lv_at hl 1 rfl) ?_
  refine lv_iload E.1.1 E.1.2.1 dL_law_194 (lv_at hl 5 rfl) ?_
  refine lv_iconst (v := nI 1) E.1.1 E.1.2.1 dL_law_196 rfl ?_
  refine nv_iadd E dL_law_197 ?_
  refine LL.sld (i := i + 1) E hXs hbl hbA hS (by omega) hL dL_law_198 ?_
  refine lv_aload_n E.1.1 E.1.2.1 dL_law_199 rfl (lv_at hl 1 rfl) ?_
  refine lv_iload E.1.1 E.1.2.1 dL_law_200 (lv_at hl 5 rfl) ?_
  refine lv_iconst (v := nI 2) E.1.1 E.1.2.1 dL_law_202 rfl ?_
  refine nv_iadd E dL_law_203 ?_
  refine LL.sld (i := i + 2) E hXs hbl hbA hS (by omega) hL dL_law_204 ?_
  refine lv_aload_n E.1.1 E.1.2.1 dL_law_205 rfl (lv_at hl 1 rfl) ?_
  refine lv_iload E.1.1 E.1.2.1 dL_law_206 (lv_at hl 5 rfl) ?_
  refine lv_iconst (v := nI 3) E.1.1 E.1.2.1 dL_law_208 rfl ?_
  refine nv_iadd E dL_law_209 ?_
  refine LL.sld (i := i + 3) E hXs hbl hbA hS (by omega) hL dL_law_210 ?_
  refine lv_aload_n E.1.1 E.1.2.1 dL_law_211 rfl (lv_at hl 1 rfl) ?_
  refine lv_iload E.1.1 E.1.2.1 dL_law_212 (lv_at hl 5 rfl) ?_
  refine lv_iconst (v := nI 4) E.1.1 E.1.2.1 dL_law_214 rfl ?_
  refine nv_iadd E dL_law_215 ?_
  refine LL.sld (i := i + 4) E hXs hbl hbA hS (by omega) hL dL_law_216 ?_
  refine lv_aload_n E.1.1 E.1.2.1 dL_law_217 rfl (lv_at hl 1 rfl) ?_
  refine lv_iload E.1.1 E.1.2.1 dL_law_218 (lv_at hl 5 rfl) ?_
  refine lv_iconst (v := nI 5) E.1.1 E.1.2.1 dL_law_220 rfl ?_
  refine nv_iadd E dL_law_221 ?_
  refine LL.sld (i := i + 5) E hXs hbl hbA hS (by omega) hL dL_law_222 ?_
  refine lv_aload_n E.1.1 E.1.2.1 dL_law_223 rfl (lv_at hl 1 rfl) ?_
  refine lv_iload E.1.1 E.1.2.1 dL_law_224 (lv_at hl 5 rfl) ?_
  refine lv_bipush (v := nI 6) E.1.1 E.1.2.1 dL_law_226 rfl ?_
  refine nv_iadd E dL_law_228 ?_
  refine LL.sld (i := i + 6) E hXs hbl hbA hS (by omega) hL dL_law_229 ?_
  refine LL.callR (n := 6) (rest := []) E hM ml_L_58 im_X4_operation se_X4_operation ini_X4 co_X4_operation hd_X4_operation ⟨by decide, by decide⟩ ⟨hc, hs⟩ 0 rfl rfl hP hP2 (wR_D2 hD2) (wO_AP hAP) hS (fun q h => h) rfl hl.1 (Nat.le_of_ble_eq_true rfl) dL_law_230 rfl (fun H locs hP hP2 hS => ?_)
  refine lv_istore (lv' := [(6, .int bb), (5, .int (nI k)), (0, .ref b), (1, .ref (ad 0)), (2, .ref (bd 0)), (3, .ref o), (4, .int (nI i))]) E.1.1 E.1.2.1 dL_law_233 hl (by decide) rfl (fun ls hl => ?_)
  refine lv_aload_n E.1.1 E.1.2.1 dL_law_235 rfl (lv_at hl 4 rfl) ?_
  refine LL.callR (n := 0) (rest := []) E (c_X4_thrown l D cI cJ cZ bd ρ1) ml_L_51 im_X4_thrown se_X4_thrown ini_X4 co_X4_thrown hd_X4_thrown ⟨by decide, by decide⟩ ⟨hc, hs⟩ 0 rfl rfl hP hP2 (wR_D2 hD2) (wO_AP hAP) hS (fun q h => h) rfl hl.1 (Nat.le_of_ble_eq_true rfl) dL_law_236 rfl (fun H locs hP hP2 hS => ?_)
  refine lv_iload E.1.1 E.1.2.1 dL_law_239 (lv_at hl 1 rfl) ?_
  refine lv_icmp_eq (tgt := 246) E.1.1 E.1.2.1 dL_law_241 (by decide) (fun _ => ?_) (fun h9 => absurd (by rw [hth]) h9)
  refine lv_iload E.1.1 E.1.2.1 dL_law_246 (lv_at hl 1 rfl) ?_
  refine lv_if_ne (tgt := 263) E.1.1 E.1.2.1 dL_law_248 (by decide) (fun _ => ?_) (fun h9 => ?_)
  · refine lv_goto (tgt := 636) E.1.1 E.1.2.1 dL_law_263 (by decide) ?_
    exact hK σ1 ρ1 u1 _ _ _ h1 hP hP2 hS (lv_sub hl [2, 3, 4, 5, 6] rfl)
  · refine lv_aload_n E.1.1 E.1.2.1 dL_law_251 rfl (lv_at hl 5 rfl) ?_
    refine lv_iconst (v := nI 0) E.1.1 E.1.2.1 dL_law_252 rfl ?_
    refine LL.lald E hP dL_law_253 ?_
    refine lv_iload E.1.1 E.1.2.1 dL_law_254 (lv_at hl 0 rfl) ?_
    refine lv_i2l (v := bb.toInt64) E.1.1 E.1.2.1 dL_law_256 rfl ?_
    refine W.lcmp E.1.1 E.1.2.1 dL_law_257 ?_
    refine lv_if_eq (tgt := 263) E.1.1 E.1.2.1 dL_law_258 (by decide) (fun _ => ?_) (fun h8 => absurd (by rw [hu ((nI_z (by omega)).mp h9)]; exact lg_self _) h8)
    refine lv_goto (tgt := 636) E.1.1 E.1.2.1 dL_law_263 (by decide) ?_
    exact hK σ1 ρ1 u1 _ _ _ h1 hP hP2 hS (lv_sub hl [2, 3, 4, 5, 6] rfl)
set_option maxRecDepth 100000 in
set_option maxHeartbeats 400000 in
theorem lw_strip (hLK : LK p l s m b L xs c D cI cJ cZ ad bd o) (hi : i + 7 ≤ L) (hc : cells + 1 ≤ 601024) (hs : slots + 6 ≤ 7293034) (hK : KC p l e s m b below meth c D cI cJ cZ ad bd o i (cells + 1) (slots + 6)) (h : LI σ ρ) (hP : va_P D vwCl (wO ad cI cJ cZ o σ u) H) (hP2 : va_P D vwCl (wR bd cI cJ cZ ρ) H) (hS : va_S (LA s) s.heap H locs) (hl : lv_has ls 7 (lcl b i ad bd o)) : W p l e room_1 s m #[Value.ref b] below meth c H locs cells slots (lw_Z below #[Value.ref b] s) (F0 m 266 ls []) := by
  obtain ⟨E, hst, hXs, hbl, hL, hX, hD, hD2, hAP⟩ := hLK
  have hbA : ¬ LA s b := Nat.not_le.mpr hbl
  obtain ⟨σ1, ρ1, k, bb, u1, hY, hM, hth, hu, h1, hk2⟩ := op_strip (D := D) (cI := cI) (cJ := cJ) (cZ := cZ) (ad := ad) (bd := bd) (o := o) (u := u) hst h (xs (i + 1)) (xs (i + 2))
  refine lv_aload_n E.1.1 E.1.2.1 dL_law_266 rfl (lv_at hl 1 rfl) ?_
  refine lv_aload_n E.1.1 E.1.2.1 dL_law_267 rfl (lv_at hl 0 rfl) ?_
  refine lv_iload E.1.1 E.1.2.1 dL_law_268 (lv_at hl 4 rfl) ?_
  refine lv_iconst (v := nI 1) E.1.1 E.1.2.1 dL_law_270 rfl ?_
  refine nv_iadd E dL_law_271 ?_
  refine LL.sld (i := i + 1) E hXs hbl hbA hS (by omega) hL dL_law_272 ?_
  refine lv_aload_n E.1.1 E.1.2.1 dL_law_273 rfl (lv_at hl 0 rfl) ?_
  refine lv_iload E.1.1 E.1.2.1 dL_law_274 (lv_at hl 4 rfl) ?_
  refine lv_iconst (v := nI 2) E.1.1 E.1.2.1 dL_law_276 rfl ?_
  refine nv_iadd E dL_law_277 ?_
  refine LL.sld (i := i + 2) E hXs hbl hbA hS (by omega) hL dL_law_278 ?_
  refine lv_aload_n E.1.1 E.1.2.1 dL_law_279 rfl (lv_at hl 3 rfl) ?_
  refine LL.callY (n := 4) (rest := []) E hY ml_L_59 st_L_strip ini_L cw_L_strip hdL_strip ⟨by decide, by decide⟩ ⟨hc, hs⟩ hP hP2 (wO_D hD) (wO_AP hAP) hS (fun q h => h) hX rfl hl.1 (Nat.le_of_ble_eq_true rfl) dL_law_280 rfl (fun H locs hP hP2 hS => ?_)
  refine lv_istore (lv' := [(5, .int (nI k)), (0, .ref b), (1, .ref (ad 0)), (2, .ref (bd 0)), (3, .ref o), (4, .int (nI i))]) E.1.1 E.1.2.1 dL_law_283 hl (by decide) rfl (fun ls hl => ?_)
  refine lv_aload_n E.1.1 E.1.2.1 dL_law_285 rfl (lv_at hl 3 rfl) ?_
  refine lv_aload_n E.1.1 E.1.2.1 dL_law_286 rfl (lv_at hl 1 rfl) ?_
  refine lv_iload E.1.1 E.1.2.1 dL_law_287 (lv_at hl 5 rfl) ?_
  refine lv_iconst (v := nI 1) E.1.1 E.1.2.1 dL_law_289 rfl ?_
  refine nv_iadd E dL_law_290 ?_
  refine LL.sld (i := i + 1) E hXs hbl hbA hS (by omega) hL dL_law_291 ?_
  refine lv_aload_n E.1.1 E.1.2.1 dL_law_292 rfl (lv_at hl 1 rfl) ?_
  refine lv_iload E.1.1 E.1.2.1 dL_law_293 (lv_at hl 5 rfl) ?_
  refine lv_iconst (v := nI 2) E.1.1 E.1.2.1 dL_law_295 rfl ?_
  refine nv_iadd E dL_law_296 ?_
  refine LL.sld (i := i + 2) E hXs hbl hbA hS (by omega) hL dL_law_297 ?_
  refine LL.callR (n := 2) (rest := []) E hM ml_L_62 im_X4_strip se_X4_strip ini_X4 co_X4_strip hd_X4_strip ⟨by decide, by decide⟩ ⟨hc, hs⟩ 0 rfl rfl hP hP2 (wR_D2 hD2) (wO_AP hAP) hS (fun q h => h) rfl hl.1 (Nat.le_of_ble_eq_true rfl) dL_law_298 rfl (fun H locs hP hP2 hS => ?_)
  refine lv_istore (lv' := [(6, .int bb), (5, .int (nI k)), (0, .ref b), (1, .ref (ad 0)), (2, .ref (bd 0)), (3, .ref o), (4, .int (nI i))]) E.1.1 E.1.2.1 dL_law_301 hl (by decide) rfl (fun ls hl => ?_)
  refine lv_aload_n E.1.1 E.1.2.1 dL_law_303 rfl (lv_at hl 4 rfl) ?_
  refine LL.callR (n := 0) (rest := []) E (c_X4_thrown l D cI cJ cZ bd ρ1) ml_L_51 im_X4_thrown se_X4_thrown ini_X4 co_X4_thrown hd_X4_thrown ⟨by decide, by decide⟩ ⟨hc, hs⟩ 0 rfl rfl hP hP2 (wR_D2 hD2) (wO_AP hAP) hS (fun q h => h) rfl hl.1 (Nat.le_of_ble_eq_true rfl) dL_law_304 rfl (fun H locs hP hP2 hS => ?_)
  refine lv_iload E.1.1 E.1.2.1 dL_law_307 (lv_at hl 1 rfl) ?_
  refine lv_icmp_eq (tgt := 314) E.1.1 E.1.2.1 dL_law_309 (by decide) (fun _ => ?_) (fun h9 => absurd (by rw [hth]) h9)
  refine lv_iload E.1.1 E.1.2.1 dL_law_314 (lv_at hl 1 rfl) ?_
  refine lv_if_ne (tgt := 331) E.1.1 E.1.2.1 dL_law_316 (by decide) (fun _ => ?_) (fun h9 => ?_)
  · refine lv_goto (tgt := 636) E.1.1 E.1.2.1 dL_law_331 (by decide) ?_
    exact hK σ1 ρ1 u1 _ _ _ h1 hP hP2 hS (lv_sub hl [2, 3, 4, 5, 6] rfl)
  · refine lv_aload_n E.1.1 E.1.2.1 dL_law_319 rfl (lv_at hl 5 rfl) ?_
    refine lv_iconst (v := nI 0) E.1.1 E.1.2.1 dL_law_320 rfl ?_
    refine LL.lald E hP dL_law_321 ?_
    refine lv_iload E.1.1 E.1.2.1 dL_law_322 (lv_at hl 0 rfl) ?_
    refine lv_i2l (v := bb.toInt64) E.1.1 E.1.2.1 dL_law_324 rfl ?_
    refine W.lcmp E.1.1 E.1.2.1 dL_law_325 ?_
    refine lv_if_eq (tgt := 331) E.1.1 E.1.2.1 dL_law_326 (by decide) (fun _ => ?_) (fun h8 => absurd (by rw [hu ((nI_z (by omega)).mp h9)]; exact lg_self _) h8)
    refine lv_goto (tgt := 636) E.1.1 E.1.2.1 dL_law_331 (by decide) ?_
    exact hK σ1 ρ1 u1 _ _ _ h1 hP hP2 hS (lv_sub hl [2, 3, 4, 5, 6] rfl)
set_option maxRecDepth 100000 in
set_option maxHeartbeats 400000 in
theorem lw_site (hLK : LK p l s m b L xs c D cI cJ cZ ad bd o) (hi : i + 7 ≤ L) (hc : cells + 1 ≤ 601024) (hs : slots + 6 ≤ 7293034) (hK : KC p l e s m b below meth c D cI cJ cZ ad bd o i (cells + 1) (slots + 6)) (h : LI σ ρ) (hP : va_P D vwCl (wO ad cI cJ cZ o σ u) H) (hP2 : va_P D vwCl (wR bd cI cJ cZ ρ) H) (hS : va_S (LA s) s.heap H locs) (hl : lv_has ls 7 (lcl b i ad bd o)) : W p l e room_1 s m #[Value.ref b] below meth c H locs cells slots (lw_Z below #[Value.ref b] s) (F0 m 360 ls []) := by
  obtain ⟨E, hst, hXs, hbl, hL, hX, hD, hD2, hAP⟩ := hLK
  have hbA : ¬ LA s b := Nat.not_le.mpr hbl
  obtain ⟨σ1, ρ1, k, bb, u1, hY, hM, hth, hu, h1, hk2⟩ := op_site (D := D) (cI := cI) (cJ := cJ) (cZ := cZ) (ad := ad) (bd := bd) (o := o) (u := u) hst h (xs (i + 1)) (xs (i + 2)) (xs (i + 3))
  refine lv_aload_n E.1.1 E.1.2.1 dL_law_360 rfl (lv_at hl 1 rfl) ?_
  refine lv_aload_n E.1.1 E.1.2.1 dL_law_361 rfl (lv_at hl 0 rfl) ?_
  refine lv_iload E.1.1 E.1.2.1 dL_law_362 (lv_at hl 4 rfl) ?_
  refine lv_iconst (v := nI 1) E.1.1 E.1.2.1 dL_law_364 rfl ?_
  refine nv_iadd E dL_law_365 ?_
  refine LL.sld (i := i + 1) E hXs hbl hbA hS (by omega) hL dL_law_366 ?_
  refine lv_aload_n E.1.1 E.1.2.1 dL_law_367 rfl (lv_at hl 0 rfl) ?_
  refine lv_iload E.1.1 E.1.2.1 dL_law_368 (lv_at hl 4 rfl) ?_
  refine lv_iconst (v := nI 2) E.1.1 E.1.2.1 dL_law_370 rfl ?_
  refine nv_iadd E dL_law_371 ?_
  refine LL.sld (i := i + 2) E hXs hbl hbA hS (by omega) hL dL_law_372 ?_
  refine lv_aload_n E.1.1 E.1.2.1 dL_law_373 rfl (lv_at hl 0 rfl) ?_
  refine lv_iload E.1.1 E.1.2.1 dL_law_374 (lv_at hl 4 rfl) ?_
  refine lv_iconst (v := nI 3) E.1.1 E.1.2.1 dL_law_376 rfl ?_
  refine nv_iadd E dL_law_377 ?_
  refine LL.sld (i := i + 3) E hXs hbl hbA hS (by omega) hL dL_law_378 ?_
  refine lv_aload_n E.1.1 E.1.2.1 dL_law_379 rfl (lv_at hl 3 rfl) ?_
  refine LL.callY (n := 5) (rest := []) E hY ml_L_71 st_L_site ini_L cw_L_site hdL_site ⟨by decide, by decide⟩ ⟨hc, hs⟩ hP hP2 (wO_D hD) (wO_AP hAP) hS (fun q h => h) hX rfl hl.1 (Nat.le_of_ble_eq_true rfl) dL_law_380 rfl (fun H locs hP hP2 hS => ?_)
  refine lv_istore (lv' := [(5, .int (nI k)), (0, .ref b), (1, .ref (ad 0)), (2, .ref (bd 0)), (3, .ref o), (4, .int (nI i))]) E.1.1 E.1.2.1 dL_law_383 hl (by decide) rfl (fun ls hl => ?_)
  refine lv_aload_n E.1.1 E.1.2.1 dL_law_385 rfl (lv_at hl 3 rfl) ?_
  refine lv_aload_n E.1.1 E.1.2.1 dL_law_386 rfl (lv_at hl 1 rfl) ?_
  refine lv_iload E.1.1 E.1.2.1 dL_law_387 (lv_at hl 5 rfl) ?_
  refine lv_iconst (v := nI 1) E.1.1 E.1.2.1 dL_law_389 rfl ?_
  refine nv_iadd E dL_law_390 ?_
  refine LL.sld (i := i + 1) E hXs hbl hbA hS (by omega) hL dL_law_391 ?_
  refine lv_aload_n E.1.1 E.1.2.1 dL_law_392 rfl (lv_at hl 1 rfl) ?_
  refine lv_iload E.1.1 E.1.2.1 dL_law_393 (lv_at hl 5 rfl) ?_
  refine lv_iconst (v := nI 2) E.1.1 E.1.2.1 dL_law_395 rfl ?_
  refine nv_iadd E dL_law_396 ?_
  refine LL.sld (i := i + 2) E hXs hbl hbA hS (by omega) hL dL_law_397 ?_
  refine lv_aload_n E.1.1 E.1.2.1 dL_law_398 rfl (lv_at hl 1 rfl) ?_
  refine lv_iload E.1.1 E.1.2.1 dL_law_399 (lv_at hl 5 rfl) ?_
  refine lv_iconst (v := nI 3) E.1.1 E.1.2.1 dL_law_401 rfl ?_
  refine nv_iadd E dL_law_402 ?_
  refine LL.sld (i := i + 3) E hXs hbl hbA hS (by omega) hL dL_law_403 ?_
  refine LL.callR (n := 3) (rest := []) E hM ml_L_74 im_X4_site se_X4_site ini_X4 co_X4_site hd_X4_site ⟨by decide, by decide⟩ ⟨hc, hs⟩ 0 rfl rfl hP hP2 (wR_D2 hD2) (wO_AP hAP) hS (fun q h => h) rfl hl.1 (Nat.le_of_ble_eq_true rfl) dL_law_404 rfl (fun H locs hP hP2 hS => ?_)
  refine lv_istore (lv' := [(6, .int bb), (5, .int (nI k)), (0, .ref b), (1, .ref (ad 0)), (2, .ref (bd 0)), (3, .ref o), (4, .int (nI i))]) E.1.1 E.1.2.1 dL_law_407 hl (by decide) rfl (fun ls hl => ?_)
  refine lv_aload_n E.1.1 E.1.2.1 dL_law_409 rfl (lv_at hl 4 rfl) ?_
  refine LL.callR (n := 0) (rest := []) E (c_X4_thrown l D cI cJ cZ bd ρ1) ml_L_51 im_X4_thrown se_X4_thrown ini_X4 co_X4_thrown hd_X4_thrown ⟨by decide, by decide⟩ ⟨hc, hs⟩ 0 rfl rfl hP hP2 (wR_D2 hD2) (wO_AP hAP) hS (fun q h => h) rfl hl.1 (Nat.le_of_ble_eq_true rfl) dL_law_410 rfl (fun H locs hP hP2 hS => ?_)
  refine lv_iload E.1.1 E.1.2.1 dL_law_413 (lv_at hl 1 rfl) ?_
  refine lv_icmp_eq (tgt := 420) E.1.1 E.1.2.1 dL_law_415 (by decide) (fun _ => ?_) (fun h9 => absurd (by rw [hth]) h9)
  refine lv_iload E.1.1 E.1.2.1 dL_law_420 (lv_at hl 1 rfl) ?_
  refine lv_if_ne (tgt := 437) E.1.1 E.1.2.1 dL_law_422 (by decide) (fun _ => ?_) (fun h9 => ?_)
  · refine lv_goto (tgt := 636) E.1.1 E.1.2.1 dL_law_437 (by decide) ?_
    exact hK σ1 ρ1 u1 _ _ _ h1 hP hP2 hS (lv_sub hl [2, 3, 4, 5, 6] rfl)
  · refine lv_aload_n E.1.1 E.1.2.1 dL_law_425 rfl (lv_at hl 5 rfl) ?_
    refine lv_iconst (v := nI 0) E.1.1 E.1.2.1 dL_law_426 rfl ?_
    refine LL.lald E hP dL_law_427 ?_
    refine lv_iload E.1.1 E.1.2.1 dL_law_428 (lv_at hl 0 rfl) ?_
    refine lv_i2l (v := bb.toInt64) E.1.1 E.1.2.1 dL_law_430 rfl ?_
    refine W.lcmp E.1.1 E.1.2.1 dL_law_431 ?_
    refine lv_if_eq (tgt := 437) E.1.1 E.1.2.1 dL_law_432 (by decide) (fun _ => ?_) (fun h8 => absurd (by rw [hu ((nI_z (by omega)).mp h9)]; exact lg_self _) h8)
    refine lv_goto (tgt := 636) E.1.1 E.1.2.1 dL_law_437 (by decide) ?_
    exact hK σ1 ρ1 u1 _ _ _ h1 hP hP2 hS (lv_sub hl [2, 3, 4, 5, 6] rfl)
set_option maxRecDepth 100000 in
set_option maxHeartbeats 400000 in
theorem lw_run (hLK : LK p l s m b L xs c D cI cJ cZ ad bd o) (hi : i + 7 ≤ L) (hc : cells + 1 ≤ 601024) (hs : slots + 6 ≤ 7293034) (hK : KC p l e s m b below meth c D cI cJ cZ ad bd o i (cells + 1) (slots + 6)) (h : LI σ ρ) (hP : va_P D vwCl (wO ad cI cJ cZ o σ u) H) (hP2 : va_P D vwCl (wR bd cI cJ cZ ρ) H) (hS : va_S (LA s) s.heap H locs) (hl : lv_has ls 7 (lcl b i ad bd o)) : W p l e room_1 s m #[Value.ref b] below meth c H locs cells slots (lw_Z below #[Value.ref b] s) (F0 m 440 ls []) := by
  obtain ⟨E, hst, hXs, hbl, hL, hX, hD, hD2, hAP⟩ := hLK
  have hbA : ¬ LA s b := Nat.not_le.mpr hbl
  obtain ⟨σ1, ρ1, k, bb, u1, hY, hM, hth, hu, h1, hk2⟩ := op_run (D := D) (cI := cI) (cJ := cJ) (cZ := cZ) (ad := ad) (bd := bd) (o := o) (u := u) hst h (decide (¬ xs (i + 1) = 0)) (xs (i + 2))
  refine lv_aload_n E.1.1 E.1.2.1 dL_law_440 rfl (lv_at hl 1 rfl) ?_
  refine lv_aload_n E.1.1 E.1.2.1 dL_law_441 rfl (lv_at hl 0 rfl) ?_
  refine lv_iload E.1.1 E.1.2.1 dL_law_442 (lv_at hl 4 rfl) ?_
  refine lv_iconst (v := nI 1) E.1.1 E.1.2.1 dL_law_444 rfl ?_
  refine nv_iadd E dL_law_445 ?_
  refine LL.sld (i := i + 1) E hXs hbl hbA hS (by omega) hL dL_law_446 ?_
  have K455 : W p l e room_1 s m #[Value.ref b] below meth c H locs cells slots (lw_Z below #[Value.ref b] s) (F0 m 455 ls [.int (bI (decide (¬ xs (i + 1) = 0))), .ref (ad 0)]) := by
    refine lv_aload_n E.1.1 E.1.2.1 dL_law_455 rfl (lv_at hl 0 rfl) ?_
    refine lv_iload E.1.1 E.1.2.1 dL_law_456 (lv_at hl 4 rfl) ?_
    refine lv_iconst (v := nI 2) E.1.1 E.1.2.1 dL_law_458 rfl ?_
    refine nv_iadd E dL_law_459 ?_
    refine LL.sld (i := i + 2) E hXs hbl hbA hS (by omega) hL dL_law_460 ?_
    refine lv_aload_n E.1.1 E.1.2.1 dL_law_461 rfl (lv_at hl 3 rfl) ?_
    refine LL.callY (n := 4) (rest := []) E hY ml_L_75 st_L_run ini_L cw_L_run hdL_run ⟨by decide, by decide⟩ ⟨hc, hs⟩ hP hP2 (wO_D hD) (wO_AP hAP) hS (fun q h => h) hX rfl hl.1 (Nat.le_of_ble_eq_true rfl) dL_law_462 rfl (fun H locs hP hP2 hS => ?_)
    refine lv_istore (lv' := [(5, .int (nI k)), (0, .ref b), (1, .ref (ad 0)), (2, .ref (bd 0)), (3, .ref o), (4, .int (nI i))]) E.1.1 E.1.2.1 dL_law_465 hl (by decide) rfl (fun ls hl => ?_)
    refine lv_aload_n E.1.1 E.1.2.1 dL_law_467 rfl (lv_at hl 3 rfl) ?_
    refine lv_aload_n E.1.1 E.1.2.1 dL_law_468 rfl (lv_at hl 1 rfl) ?_
    refine lv_iload E.1.1 E.1.2.1 dL_law_469 (lv_at hl 5 rfl) ?_
    refine lv_iconst (v := nI 1) E.1.1 E.1.2.1 dL_law_471 rfl ?_
    refine nv_iadd E dL_law_472 ?_
    refine LL.sld (i := i + 1) E hXs hbl hbA hS (by omega) hL dL_law_473 ?_
    have K482 : W p l e room_1 s m #[Value.ref b] below meth c H locs (cells + 1) (slots + 6) (lw_Z below #[Value.ref b] s) (F0 m 482 ls [.int (bI (decide (¬ xs (i + 1) = 0))), .ref (bd 0)]) := by
      refine lv_aload_n E.1.1 E.1.2.1 dL_law_482 rfl (lv_at hl 1 rfl) ?_
      refine lv_iload E.1.1 E.1.2.1 dL_law_483 (lv_at hl 5 rfl) ?_
      refine lv_iconst (v := nI 2) E.1.1 E.1.2.1 dL_law_485 rfl ?_
      refine nv_iadd E dL_law_486 ?_
      refine LL.sld (i := i + 2) E hXs hbl hbA hS (by omega) hL dL_law_487 ?_
      refine LL.callR (n := 2) (rest := []) E hM ml_L_78 im_X4_run se_X4_run ini_X4 co_X4_run hd_X4_run ⟨by decide, by decide⟩ ⟨hc, hs⟩ 0 rfl rfl hP hP2 (wR_D2 hD2) (wO_AP hAP) hS (fun q h => h) rfl hl.1 (Nat.le_of_ble_eq_true rfl) dL_law_488 rfl (fun H locs hP hP2 hS => ?_)
      refine lv_istore (lv' := [(6, .int bb), (5, .int (nI k)), (0, .ref b), (1, .ref (ad 0)), (2, .ref (bd 0)), (3, .ref o), (4, .int (nI i))]) E.1.1 E.1.2.1 dL_law_491 hl (by decide) rfl (fun ls hl => ?_)
      refine lv_aload_n E.1.1 E.1.2.1 dL_law_493 rfl (lv_at hl 4 rfl) ?_
      refine LL.callR (n := 0) (rest := []) E (c_X4_thrown l D cI cJ cZ bd ρ1) ml_L_51 im_X4_thrown se_X4_thrown ini_X4 co_X4_thrown hd_X4_thrown ⟨by decide, by decide⟩ ⟨hc, hs⟩ 0 rfl rfl hP hP2 (wR_D2 hD2) (wO_AP hAP) hS (fun q h => h) rfl hl.1 (Nat.le_of_ble_eq_true rfl) dL_law_494 rfl (fun H locs hP hP2 hS => ?_)
      refine lv_iload E.1.1 E.1.2.1 dL_law_497 (lv_at hl 1 rfl) ?_
      refine lv_icmp_eq (tgt := 504) E.1.1 E.1.2.1 dL_law_499 (by decide) (fun _ => ?_) (fun h9 => absurd (by rw [hth]) h9)
      refine lv_iload E.1.1 E.1.2.1 dL_law_504 (lv_at hl 1 rfl) ?_
      refine lv_if_ne (tgt := 521) E.1.1 E.1.2.1 dL_law_506 (by decide) (fun _ => ?_) (fun h9 => ?_)
      · refine lv_goto (tgt := 636) E.1.1 E.1.2.1 dL_law_521 (by decide) ?_
        exact hK σ1 ρ1 u1 _ _ _ h1 hP hP2 hS (lv_sub hl [2, 3, 4, 5, 6] rfl)
      · refine lv_aload_n E.1.1 E.1.2.1 dL_law_509 rfl (lv_at hl 5 rfl) ?_
        refine lv_iconst (v := nI 0) E.1.1 E.1.2.1 dL_law_510 rfl ?_
        refine LL.lald E hP dL_law_511 ?_
        refine lv_iload E.1.1 E.1.2.1 dL_law_512 (lv_at hl 0 rfl) ?_
        refine lv_i2l (v := bb.toInt64) E.1.1 E.1.2.1 dL_law_514 rfl ?_
        refine W.lcmp E.1.1 E.1.2.1 dL_law_515 ?_
        refine lv_if_eq (tgt := 521) E.1.1 E.1.2.1 dL_law_516 (by decide) (fun _ => ?_) (fun h8 => absurd (by rw [hu ((nI_z (by omega)).mp h9)]; exact lg_self _) h8)
        refine lv_goto (tgt := 636) E.1.1 E.1.2.1 dL_law_521 (by decide) ?_
        exact hK σ1 ρ1 u1 _ _ _ h1 hP hP2 hS (lv_sub hl [2, 3, 4, 5, 6] rfl)
    refine lv_if_eq (tgt := 481) E.1.1 E.1.2.1 dL_law_474 (by decide) (fun h9 => ?_) (fun h9 => ?_)
    · refine lv_iconst (v := nI 0) E.1.1 E.1.2.1 dL_law_481 rfl ?_
      refine tpi (y := bI (decide (¬ xs (i + 1) = 0))) (by rw [decide_eq_false (fun z => z h9)]; rfl) ?_
      exact K482
    · refine lv_iconst (v := nI 1) E.1.1 E.1.2.1 dL_law_477 rfl ?_
      refine lv_goto (tgt := 482) E.1.1 E.1.2.1 dL_law_478 (by decide) ?_
      refine tpi (y := bI (decide (¬ xs (i + 1) = 0))) (by rw [decide_eq_true h9]; rfl) ?_
      exact K482
  refine lv_if_eq (tgt := 454) E.1.1 E.1.2.1 dL_law_447 (by decide) (fun h9 => ?_) (fun h9 => ?_)
  · refine lv_iconst (v := nI 0) E.1.1 E.1.2.1 dL_law_454 rfl ?_
    refine tpi (y := bI (decide (¬ xs (i + 1) = 0))) (by rw [decide_eq_false (fun z => z h9)]; rfl) ?_
    exact K455
  · refine lv_iconst (v := nI 1) E.1.1 E.1.2.1 dL_law_450 rfl ?_
    refine lv_goto (tgt := 455) E.1.1 E.1.2.1 dL_law_451 (by decide) ?_
    refine tpi (y := bI (decide (¬ xs (i + 1) = 0))) (by rw [decide_eq_true h9]; rfl) ?_
    exact K455
set_option maxRecDepth 100000 in
set_option maxHeartbeats 400000 in
theorem lw_count (hLK : LK p l s m b L xs c D cI cJ cZ ad bd o) (hi : i + 7 ≤ L) (hc : cells + 1 ≤ 601024) (hs : slots + 6 ≤ 7293034) (hK : KC p l e s m b below meth c D cI cJ cZ ad bd o i (cells + 1) (slots + 6)) (h : LI σ ρ) (hP : va_P D vwCl (wO ad cI cJ cZ o σ u) H) (hP2 : va_P D vwCl (wR bd cI cJ cZ ρ) H) (hS : va_S (LA s) s.heap H locs) (hl : lv_has ls 7 (lcl b i ad bd o)) : W p l e room_1 s m #[Value.ref b] below meth c H locs cells slots (lw_Z below #[Value.ref b] s) (F0 m 524 ls []) := by
  obtain ⟨E, hst, hXs, hbl, hL, hX, hD, hD2, hAP⟩ := hLK
  have hbA : ¬ LA s b := Nat.not_le.mpr hbl
  obtain ⟨σ1, ρ1, k, bb, u1, hY, hM, hth, hu, h1, hk2⟩ := op_count (D := D) (cI := cI) (cJ := cJ) (cZ := cZ) (ad := ad) (bd := bd) (o := o) (u := u) hst h (xs (i + 1))
  refine lv_aload_n E.1.1 E.1.2.1 dL_law_524 rfl (lv_at hl 1 rfl) ?_
  refine lv_aload_n E.1.1 E.1.2.1 dL_law_525 rfl (lv_at hl 0 rfl) ?_
  refine lv_iload E.1.1 E.1.2.1 dL_law_526 (lv_at hl 4 rfl) ?_
  refine lv_iconst (v := nI 1) E.1.1 E.1.2.1 dL_law_528 rfl ?_
  refine nv_iadd E dL_law_529 ?_
  refine LL.sld (i := i + 1) E hXs hbl hbA hS (by omega) hL dL_law_530 ?_
  refine lv_aload_n E.1.1 E.1.2.1 dL_law_531 rfl (lv_at hl 3 rfl) ?_
  refine LL.callY (n := 3) (rest := []) E hY ml_L_79 st_L_count ini_L cw_L_count hdL_count ⟨by decide, by decide⟩ ⟨hc, hs⟩ hP hP2 (wO_D hD) (wO_AP hAP) hS (fun q h => h) hX rfl hl.1 (Nat.le_of_ble_eq_true rfl) dL_law_532 rfl (fun H locs hP hP2 hS => ?_)
  refine lv_istore (lv' := [(5, .int (nI k)), (0, .ref b), (1, .ref (ad 0)), (2, .ref (bd 0)), (3, .ref o), (4, .int (nI i))]) E.1.1 E.1.2.1 dL_law_535 hl (by decide) rfl (fun ls hl => ?_)
  refine lv_aload_n E.1.1 E.1.2.1 dL_law_537 rfl (lv_at hl 3 rfl) ?_
  refine lv_aload_n E.1.1 E.1.2.1 dL_law_538 rfl (lv_at hl 1 rfl) ?_
  refine lv_iload E.1.1 E.1.2.1 dL_law_539 (lv_at hl 5 rfl) ?_
  refine lv_iconst (v := nI 1) E.1.1 E.1.2.1 dL_law_541 rfl ?_
  refine nv_iadd E dL_law_542 ?_
  refine LL.sld (i := i + 1) E hXs hbl hbA hS (by omega) hL dL_law_543 ?_
  refine LL.callR (n := 1) (rest := []) E hM ml_L_81 im_X4_count se_X4_count ini_X4 co_X4_count hd_X4_count ⟨by decide, by decide⟩ ⟨hc, hs⟩ 0 rfl rfl hP hP2 (wR_D2 hD2) (wO_AP hAP) hS (fun q h => h) rfl hl.1 (Nat.le_of_ble_eq_true rfl) dL_law_544 rfl (fun H locs hP hP2 hS => ?_)
  refine lv_istore (lv' := [(6, .int bb), (5, .int (nI k)), (0, .ref b), (1, .ref (ad 0)), (2, .ref (bd 0)), (3, .ref o), (4, .int (nI i))]) E.1.1 E.1.2.1 dL_law_547 hl (by decide) rfl (fun ls hl => ?_)
  refine lv_aload_n E.1.1 E.1.2.1 dL_law_549 rfl (lv_at hl 4 rfl) ?_
  refine LL.callR (n := 0) (rest := []) E (c_X4_thrown l D cI cJ cZ bd ρ1) ml_L_51 im_X4_thrown se_X4_thrown ini_X4 co_X4_thrown hd_X4_thrown ⟨by decide, by decide⟩ ⟨hc, hs⟩ 0 rfl rfl hP hP2 (wR_D2 hD2) (wO_AP hAP) hS (fun q h => h) rfl hl.1 (Nat.le_of_ble_eq_true rfl) dL_law_550 rfl (fun H locs hP hP2 hS => ?_)
  refine lv_iload E.1.1 E.1.2.1 dL_law_553 (lv_at hl 1 rfl) ?_
  refine lv_icmp_eq (tgt := 560) E.1.1 E.1.2.1 dL_law_555 (by decide) (fun _ => ?_) (fun h9 => absurd (by rw [hth]) h9)
  refine lv_iload E.1.1 E.1.2.1 dL_law_560 (lv_at hl 1 rfl) ?_
  refine lv_if_ne (tgt := 577) E.1.1 E.1.2.1 dL_law_562 (by decide) (fun _ => ?_) (fun h9 => ?_)
  · refine lv_goto (tgt := 636) E.1.1 E.1.2.1 dL_law_577 (by decide) ?_
    exact hK σ1 ρ1 u1 _ _ _ h1 hP hP2 hS (lv_sub hl [2, 3, 4, 5, 6] rfl)
  · refine lv_aload_n E.1.1 E.1.2.1 dL_law_565 rfl (lv_at hl 5 rfl) ?_
    refine lv_iconst (v := nI 0) E.1.1 E.1.2.1 dL_law_566 rfl ?_
    refine LL.lald E hP dL_law_567 ?_
    refine lv_iload E.1.1 E.1.2.1 dL_law_568 (lv_at hl 0 rfl) ?_
    refine lv_i2l (v := bb.toInt64) E.1.1 E.1.2.1 dL_law_570 rfl ?_
    refine W.lcmp E.1.1 E.1.2.1 dL_law_571 ?_
    refine lv_if_eq (tgt := 577) E.1.1 E.1.2.1 dL_law_572 (by decide) (fun _ => ?_) (fun h8 => absurd (by rw [hu ((nI_z (by omega)).mp h9)]; exact lg_self _) h8)
    refine lv_goto (tgt := 636) E.1.1 E.1.2.1 dL_law_577 (by decide) ?_
    exact hK σ1 ρ1 u1 _ _ _ h1 hP hP2 hS (lv_sub hl [2, 3, 4, 5, 6] rfl)
set_option maxRecDepth 100000 in
set_option maxHeartbeats 400000 in
theorem lw_out (hLK : LK p l s m b L xs c D cI cJ cZ ad bd o) (hi : i + 7 ≤ L) (hc : cells + 1 ≤ 601024) (hs : slots + 6 ≤ 7293034) (hK : KC p l e s m b below meth c D cI cJ cZ ad bd o i (cells + 1) (slots + 6)) (h : LI σ ρ) (hP : va_P D vwCl (wO ad cI cJ cZ o σ u) H) (hP2 : va_P D vwCl (wR bd cI cJ cZ ρ) H) (hS : va_S (LA s) s.heap H locs) (hl : lv_has ls 7 (lcl b i ad bd o)) : W p l e room_1 s m #[Value.ref b] below meth c H locs cells slots (lw_Z below #[Value.ref b] s) (F0 m 580 ls []) := by
  obtain ⟨E, hst, hXs, hbl, hL, hX, hD, hD2, hAP⟩ := hLK
  have hbA : ¬ LA s b := Nat.not_le.mpr hbl
  obtain ⟨σ1, ρ1, k, bb, u1, hY, hM, hth, hu, h1, hk2⟩ := op_out (D := D) (cI := cI) (cJ := cJ) (cZ := cZ) (ad := ad) (bd := bd) (o := o) (u := u) hst h (xs (i + 1))
  refine lv_aload_n E.1.1 E.1.2.1 dL_law_580 rfl (lv_at hl 1 rfl) ?_
  refine lv_aload_n E.1.1 E.1.2.1 dL_law_581 rfl (lv_at hl 0 rfl) ?_
  refine lv_iload E.1.1 E.1.2.1 dL_law_582 (lv_at hl 4 rfl) ?_
  refine lv_iconst (v := nI 1) E.1.1 E.1.2.1 dL_law_584 rfl ?_
  refine nv_iadd E dL_law_585 ?_
  refine LL.sld (i := i + 1) E hXs hbl hbA hS (by omega) hL dL_law_586 ?_
  refine lv_aload_n E.1.1 E.1.2.1 dL_law_587 rfl (lv_at hl 3 rfl) ?_
  refine LL.callY (n := 3) (rest := []) E hY ml_L_82 st_L_out ini_L cw_L_out hdL_out ⟨by decide, by decide⟩ ⟨hc, hs⟩ hP hP2 (wO_D hD) (wO_AP hAP) hS (fun q h => h) hX rfl hl.1 (Nat.le_of_ble_eq_true rfl) dL_law_588 rfl (fun H locs hP hP2 hS => ?_)
  refine lv_istore (lv' := [(5, .int (nI k)), (0, .ref b), (1, .ref (ad 0)), (2, .ref (bd 0)), (3, .ref o), (4, .int (nI i))]) E.1.1 E.1.2.1 dL_law_591 hl (by decide) rfl (fun ls hl => ?_)
  refine lv_aload_n E.1.1 E.1.2.1 dL_law_593 rfl (lv_at hl 3 rfl) ?_
  refine lv_aload_n E.1.1 E.1.2.1 dL_law_594 rfl (lv_at hl 1 rfl) ?_
  refine lv_iload E.1.1 E.1.2.1 dL_law_595 (lv_at hl 5 rfl) ?_
  refine lv_iconst (v := nI 1) E.1.1 E.1.2.1 dL_law_597 rfl ?_
  refine nv_iadd E dL_law_598 ?_
  refine LL.sld (i := i + 1) E hXs hbl hbA hS (by omega) hL dL_law_599 ?_
  refine LL.callR (n := 1) (rest := []) E hM ml_L_84 im_X4_out se_X4_out ini_X4 co_X4_out hd_X4_out ⟨by decide, by decide⟩ ⟨hc, hs⟩ 0 rfl rfl hP hP2 (wR_D2 hD2) (wO_AP hAP) hS (fun q h => h) rfl hl.1 (Nat.le_of_ble_eq_true rfl) dL_law_600 rfl (fun H locs hP hP2 hS => ?_)
  refine lv_istore (lv' := [(6, .int bb), (5, .int (nI k)), (0, .ref b), (1, .ref (ad 0)), (2, .ref (bd 0)), (3, .ref o), (4, .int (nI i))]) E.1.1 E.1.2.1 dL_law_603 hl (by decide) rfl (fun ls hl => ?_)
  refine lv_aload_n E.1.1 E.1.2.1 dL_law_605 rfl (lv_at hl 4 rfl) ?_
  refine LL.callR (n := 0) (rest := []) E (c_X4_thrown l D cI cJ cZ bd ρ1) ml_L_51 im_X4_thrown se_X4_thrown ini_X4 co_X4_thrown hd_X4_thrown ⟨by decide, by decide⟩ ⟨hc, hs⟩ 0 rfl rfl hP hP2 (wR_D2 hD2) (wO_AP hAP) hS (fun q h => h) rfl hl.1 (Nat.le_of_ble_eq_true rfl) dL_law_606 rfl (fun H locs hP hP2 hS => ?_)
  refine lv_iload E.1.1 E.1.2.1 dL_law_609 (lv_at hl 1 rfl) ?_
  refine lv_icmp_eq (tgt := 616) E.1.1 E.1.2.1 dL_law_611 (by decide) (fun _ => ?_) (fun h9 => absurd (by rw [hth]) h9)
  refine lv_iload E.1.1 E.1.2.1 dL_law_616 (lv_at hl 1 rfl) ?_
  refine lv_if_ne (tgt := 633) E.1.1 E.1.2.1 dL_law_618 (by decide) (fun _ => ?_) (fun h9 => ?_)
  · refine lv_goto (tgt := 636) E.1.1 E.1.2.1 dL_law_633 (by decide) ?_
    exact hK σ1 ρ1 u1 _ _ _ h1 hP hP2 hS (lv_sub hl [2, 3, 4, 5, 6] rfl)
  · refine lv_aload_n E.1.1 E.1.2.1 dL_law_621 rfl (lv_at hl 5 rfl) ?_
    refine lv_iconst (v := nI 0) E.1.1 E.1.2.1 dL_law_622 rfl ?_
    refine LL.lald E hP dL_law_623 ?_
    refine lv_iload E.1.1 E.1.2.1 dL_law_624 (lv_at hl 0 rfl) ?_
    refine lv_i2l (v := bb.toInt64) E.1.1 E.1.2.1 dL_law_626 rfl ?_
    refine W.lcmp E.1.1 E.1.2.1 dL_law_627 ?_
    refine lv_if_eq (tgt := 633) E.1.1 E.1.2.1 dL_law_628 (by decide) (fun _ => ?_) (fun h8 => absurd (by rw [hu ((nI_z (by omega)).mp h9)]; exact lg_self _) h8)
    refine lv_goto (tgt := 636) E.1.1 E.1.2.1 dL_law_633 (by decide) ?_
    exact hK σ1 ρ1 u1 _ _ _ h1 hP hP2 hS (lv_sub hl [2, 3, 4, 5, 6] rfl)
set_option maxRecDepth 100000 in
set_option maxHeartbeats 400000 in
theorem lw_shape (hLK : LK p l s m b L xs c D cI cJ cZ ad bd o) (hi : i + 7 ≤ L) (hc : cells + 1 ≤ 601024) (hs : slots + 6 ≤ 7293034) (hK : KC p l e s m b below meth c D cI cJ cZ ad bd o i (cells + 1) (slots + 6)) (h : LI σ ρ) (hP : va_P D vwCl (wO ad cI cJ cZ o σ u) H) (hP2 : va_P D vwCl (wR bd cI cJ cZ ρ) H) (hS : va_S (LA s) s.heap H locs) (hl : lv_has ls 7 (lcl b i ad bd o)) : W p l e room_1 s m #[Value.ref b] below meth c H locs cells slots (lw_Z below #[Value.ref b] s) (F0 m 334 ls []) := by
  obtain ⟨E, hst, hXs, hbl, hL, hX, hD, hD2, hAP⟩ := hLK
  have hbA : ¬ LA s b := Nat.not_le.mpr hbl
  have hcc : cells ≤ 601024 ∧ slots ≤ 7293034 := ⟨by omega, by omega⟩
  obtain ⟨h1, he⟩ := shape_top h
  refine lv_aload_n E.1.1 E.1.2.1 dL_law_334 rfl (lv_at hl 1 rfl) ?_
  refine LL.callC (n := 0) (rest := []) E (c_X3_shape l D cI cJ cZ ad σ h.2.1.1.1 h.2.1.1.2) ml_L_63 im_X3_shape se_X3_shape ini_X3 co_X3_shape hd_X3_shape ⟨by decide, by decide⟩ hcc 0 rfl rfl hP hP2 (wO_D hD) (wO_AP hAP) hS (fun q h => h) rfl hl.1 (Nat.le_of_ble_eq_true rfl) dL_law_335 rfl (fun H locs hP hP2 hS => ?_)
  refine lv_aload_n E.1.1 E.1.2.1 dL_law_338 rfl (lv_at hl 2 rfl) ?_
  refine LL.callR (n := 0) (rest := [.int (bcF (nI (gcre (rnF σ))))]) E (c_X4_shape l D cI cJ cZ bd ρ (Kr_of h.1.2.1 h.2.1.1.1 h.2.1.1.2)) ml_L_66 im_X4_shape se_X4_shape ini_X4 co_X4_shape hd_X4_shape ⟨by decide, by decide⟩ hcc 0 rfl rfl hP hP2 (wR_D2 hD2) (wO_AP hAP) hS (fun q h => h) rfl hl.1 (Nat.le_of_ble_eq_true rfl) dL_law_339 rfl (fun H locs hP hP2 hS => ?_)
  refine lv_icmp_eq (tgt := 636) E.1.1 E.1.2.1 dL_law_342 (by decide) (fun _ => ?_) (fun h9 => absurd he h9)
  refine W.widen (k := cells + 1) (n := slots + 6) (Nat.le_succ _) (Nat.le_add_right _ _) ?_
  exact hK (rnF σ) (shZ ρ).2 u _ _ _ h1 hP hP2 hS hl
set_option maxRecDepth 100000 in
set_option maxHeartbeats 400000 in
theorem lw_reach (hLK : LK p l s m b L xs c D cI cJ cZ ad bd o) (hi : i + 7 ≤ L) (hc : cells + 1 ≤ 601024) (hs : slots + 6 ≤ 7293034) (hK : KC p l e s m b below meth c D cI cJ cZ ad bd o i (cells + 1) (slots + 6)) (h : LI σ ρ) (hP : va_P D vwCl (wO ad cI cJ cZ o σ u) H) (hP2 : va_P D vwCl (wR bd cI cJ cZ ρ) H) (hS : va_S (LA s) s.heap H locs) (hl : lv_has ls 7 (lcl b i ad bd o)) : W p l e room_1 s m #[Value.ref b] below meth c H locs cells slots (lw_Z below #[Value.ref b] s) (F0 m 347 ls []) := by
  obtain ⟨E, hst, hXs, hbl, hL, hX, hD, hD2, hAP⟩ := hLK
  have hbA : ¬ LA s b := Nat.not_le.mpr hbl
  have hcc : cells ≤ 601024 ∧ slots ≤ 7293034 := ⟨by omega, by omega⟩
  have h1 : LI σ (smth ρ 0) := li_th 0 h
  have he : nI (gcma σ ||| gcre σ <<< 8) = nI (rcF ρ) := by rw [rc_eq h.2.2.1 h.2.2.2.1 h.2.2.2.2.1 h.2.2.2.2.2]
  refine lv_aload_n E.1.1 E.1.2.1 dL_law_347 rfl (lv_at hl 1 rfl) ?_
  refine LL.callC (n := 0) (rest := []) E (c_X3_reach l D cI cJ cZ ad σ) ml_L_67 im_X3_reach se_X3_reach ini_X3 co_X3_reach hd_X3_reach ⟨by decide, by decide⟩ hcc 0 rfl rfl hP hP2 (wO_D hD) (wO_AP hAP) hS (fun q h => h) rfl hl.1 (Nat.le_of_ble_eq_true rfl) dL_law_348 rfl (fun H locs hP hP2 hS => ?_)
  refine lv_aload_n E.1.1 E.1.2.1 dL_law_351 rfl (lv_at hl 2 rfl) ?_
  refine LL.callR (n := 0) (rest := [.int (nI (gcma σ ||| gcre σ <<< 8))]) E (c_X4_reach l D cI cJ cZ bd ρ) ml_L_70 im_X4_reach se_X4_reach ini_X4 co_X4_reach hd_X4_reach ⟨by decide, by decide⟩ hcc 0 rfl rfl hP hP2 (wR_D2 hD2) (wO_AP hAP) hS (fun q h => h) rfl hl.1 (Nat.le_of_ble_eq_true rfl) dL_law_352 rfl (fun H locs hP hP2 hS => ?_)
  refine lv_icmp_eq (tgt := 636) E.1.1 E.1.2.1 dL_law_355 (by decide) (fun _ => ?_) (fun h9 => absurd he h9)
  refine W.widen (k := cells + 1) (n := slots + 6) (Nat.le_succ _) (Nat.le_add_right _ _) ?_
  exact hK σ (smth ρ 0) u _ _ _ h1 hP hP2 hS hl
end LAWC
