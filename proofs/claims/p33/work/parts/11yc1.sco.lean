/-! scores, by the law -/
theorem L_sc_L81 {A : St} {σ : Sg} {d : Dt} {D x : Nat} (hS : Lay σ) (hW : WF A) (hQ : RepQ A d) (hD : D < A 11 0 0) (hx : x = 275 ∨ x = 276) (hsp : Spx A D (A 13 0 D) x d) (hz : ∀ s, s < 50 → d.1 272 s = nI (A 17 0 s)) {x5 y w c : Nat} {x7 x11 : Int32} (hw : w < A 2 0 0) {k : Int32 → Dt → Option (Int32 × Dt)} : ∀ (m i f : Nat), i + m = (own A D w).length → m < f → f_L_score_L81 σ f k 266 272 x5 274 x7 x y x11 (nI w) (nI (c + sumR (fun k => A 5 0 w * figs (A 17 0 ((own A D w).getD k 0))) i)) (nI i) d = k (nI (c + sumR (fun k => A 5 0 w * figs (A 17 0 ((own A D w).getD k 0))) (own A D w).length)) d := by
  have hw6 := hQ.w6
  have qn := rq_words hQ
  have hwr := own_wrd hW hD hw
  have h16 := hwr.1
  have qm := L_many hS hx (show w < 6 by omega) (hsp w hw) hwr
  have em : (sp A D (A 13 0 D) w).length = (own A D w).length := rfl
  rw [em] at qm
  intro m
  induction m with
  | zero =>
    intro i f hi hf
    cases f with
    | zero => omega
    | succ f =>
      have hiN : i = (own A D w).length := by omega
      show f_L_score_B81 σ (f_L_score_L81 σ f k 266 272 x5 274 x7 x y x11 (nI w)) k 266 272 x5 274 x7 x y x11 (nI w) (nI (c + sumR (fun k => A 5 0 w * figs (A 17 0 ((own A D w).getD k 0))) i)) (nI i) d = _
      simp (disch := first | assumption | omega) only [f_L_score_B81, qm, lo_0 hS, lo_1 hS, lo_33 hS, lo_34 hS, lo_89 hS, lo_100 hS, lo_123 hS, lo_146 hS, lo_148 hS, lo_176 hS, lo_182 hS, lo_D hS, lo_G hS, lr_37 hS, lr_93 hS, lr_101 hS, lr_124 hS, lr_152 hS, lr_169 hS, lr_0_0 hS, lr_0_1 hS, lr_0_2 hS, lr_0_3 hS, lr_0_5 hS, lr_0_6 hS, lr_0_7 hS, lr_0_8 hS, lr_0_9 hS, lr_0_10 hS, lr_0_11 hS, lr_0_12 hS, lr_1_0 hS, lr_1_2 hS, lr_33_0 hS, lr_33_1 hS, lr_33_2 hS, lr_33_3 hS, lr_34_0 hS, lr_89_0 hS, lr_89_1 hS, lr_89_2 hS, lr_89_3 hS, lr_89_4 hS, lr_89_5 hS, lr_100_0 hS, lr_100_1 hS, lr_123_0 hS, lr_123_1 hS, lr_146_0 hS, lr_148_0 hS, lr_148_1 hS, lr_148_2 hS, lr_148_3 hS, lr_148_4 hS, lr_148_5 hS, lr_176_0 hS, lr_176_1 hS, lr_176_4 hS, lr_176_6 hS, lr_176_7 hS, lr_182_0 hS, lr_D_0 hS, lr_D_1 hS, lr_D_2 hS, lr_D_3 hS, lr_D_5 hS, lr_D_6 hS, lr_D_r hS, lr_31 hS, lr_32 hS, lr_G_2 hS, lr_G_3 hS, lr_G_4 hS, li_2 hS, li_3 hS, li_31 hS, li_32 hS, li_35 hS, li_36 hS, li_37 hS, li_88 hS, li_90 hS, li_91 hS, li_92 hS, li_93 hS, li_98 hS, li_99 hS, li_101 hS, li_122 hS, li_124 hS, li_145 hS, li_147 hS, li_149 hS, li_150 hS, li_151 hS, li_152 hS, li_169 hS, li_175 hS, li_177 hS, li_178 hS, li_179 hS, li_180 hS, li_181 hS, li_183 hS, li_265 hS, li_266 hS, li_267 hS, li_268 hS, li_269 hS, li_270 hS, li_271 hS, li_272 hS, li_273 hS, li_274 hS, li_275 hS, li_276 hS, li_38 hS, li_94 hS, li_102 hS, li_125 hS, li_153 hS, li_170 hS, li_D_1 hS, li_D_2 hS, li_D_3 hS, li_D_4 hS, li_D_5 hS, li_D_26 hS, li_D_r hS, li_G_1 hS, li_G_2 hS, li_G_3 hS, li_rA hS, li_rK hS, li_rX hS, il_0, il_1, il_2, il_3, il_4, il_5, il_6, il_7, il_8, il_9, il_10, il_11, il_12, il_13, il_15, il_16, il_17, il_18, il_19, il_20, il_21, il_22, il_23, il_24, il_26, il_27, il_28, il_30, il_32, il_34, il_36, il_38, il_40, il_43, il_44, il_46, il_47, il_48, il_49, il_50, il_51, il_60, il_64, il_100, il_108, il_111, il_127, il_971, il_972, il_999, il_1000, il_1024, il_1087, il_2500, il_5000, il_9999, il_60000, il_2147483647, nI_add, nI_mulI, nI_subI, nI_divI, nI_cl, nI_leJ, nI_ltJ, nI_eqJ, nI_neM, nI_neM', il_31, aw_sI_e, aw_sI_n, aw_sI_2, aw_sL_e, aw_sL_n, aw_sL_1, Option.bind_some, aw_chkT, ck_and0, ck_and1, bI_t, bI_f, nar_0, nar_1]
      rw [if_pos (by omega)]
      rw [hiN]
  | succ m ih =>
    intro i f hi hf
    cases f with
    | zero => omega
    | succ f =>
      have hlt : i < (own A D w).length := by omega
      have qs0 := L_sign (k := i) hS hx (show w < 6 by omega) (hsp w hw) hwr (by omega)
      have es : sp A D (A 13 0 D) w = own A D w := rfl
      rw [es, atI_t (by omega)] at qs0
      have g0 := hwr.g i
      have qk0 := hz _ g0
      have k0 := shp hW g0
      have ql := L_length (σ := σ) (d := d) k0.1 (by omega)
      have qw := rq_wt hQ hw
      have hw14 : 8 + w < 64 := by omega
      rw [← ih (i + 1) f (by omega) (by omega)]
      have e : sumR (fun k => A 5 0 w * figs (A 17 0 ((own A D w).getD k 0))) (i + 1) = sumR (fun k => A 5 0 w * figs (A 17 0 ((own A D w).getD k 0))) i + A 5 0 w * figs (A 17 0 ((own A D w).getD i 0)) := rfl
      show f_L_score_B81 σ (f_L_score_L81 σ f k 266 272 x5 274 x7 x y x11 (nI w)) k 266 272 x5 274 x7 x y x11 (nI w) (nI (c + sumR (fun k => A 5 0 w * figs (A 17 0 ((own A D w).getD k 0))) i)) (nI i) d = _
      simp (disch := first | assumption | omega) only [f_L_score_B81, qm, qs0, qk0, ql, qw, lo_0 hS, lo_1 hS, lo_33 hS, lo_34 hS, lo_89 hS, lo_100 hS, lo_123 hS, lo_146 hS, lo_148 hS, lo_176 hS, lo_182 hS, lo_D hS, lo_G hS, lr_37 hS, lr_93 hS, lr_101 hS, lr_124 hS, lr_152 hS, lr_169 hS, lr_0_0 hS, lr_0_1 hS, lr_0_2 hS, lr_0_3 hS, lr_0_5 hS, lr_0_6 hS, lr_0_7 hS, lr_0_8 hS, lr_0_9 hS, lr_0_10 hS, lr_0_11 hS, lr_0_12 hS, lr_1_0 hS, lr_1_2 hS, lr_33_0 hS, lr_33_1 hS, lr_33_2 hS, lr_33_3 hS, lr_34_0 hS, lr_89_0 hS, lr_89_1 hS, lr_89_2 hS, lr_89_3 hS, lr_89_4 hS, lr_89_5 hS, lr_100_0 hS, lr_100_1 hS, lr_123_0 hS, lr_123_1 hS, lr_146_0 hS, lr_148_0 hS, lr_148_1 hS, lr_148_2 hS, lr_148_3 hS, lr_148_4 hS, lr_148_5 hS, lr_176_0 hS, lr_176_1 hS, lr_176_4 hS, lr_176_6 hS, lr_176_7 hS, lr_182_0 hS, lr_D_0 hS, lr_D_1 hS, lr_D_2 hS, lr_D_3 hS, lr_D_5 hS, lr_D_6 hS, lr_D_r hS, lr_31 hS, lr_32 hS, lr_G_2 hS, lr_G_3 hS, lr_G_4 hS, li_2 hS, li_3 hS, li_31 hS, li_32 hS, li_35 hS, li_36 hS, li_37 hS, li_88 hS, li_90 hS, li_91 hS, li_92 hS, li_93 hS, li_98 hS, li_99 hS, li_101 hS, li_122 hS, li_124 hS, li_145 hS, li_147 hS, li_149 hS, li_150 hS, li_151 hS, li_152 hS, li_169 hS, li_175 hS, li_177 hS, li_178 hS, li_179 hS, li_180 hS, li_181 hS, li_183 hS, li_265 hS, li_266 hS, li_267 hS, li_268 hS, li_269 hS, li_270 hS, li_271 hS, li_272 hS, li_273 hS, li_274 hS, li_275 hS, li_276 hS, li_38 hS, li_94 hS, li_102 hS, li_125 hS, li_153 hS, li_170 hS, li_D_1 hS, li_D_2 hS, li_D_3 hS, li_D_4 hS, li_D_5 hS, li_D_26 hS, li_D_r hS, li_G_1 hS, li_G_2 hS, li_G_3 hS, li_rA hS, li_rK hS, li_rX hS, il_0, il_1, il_2, il_3, il_4, il_5, il_6, il_7, il_8, il_9, il_10, il_11, il_12, il_13, il_15, il_16, il_17, il_18, il_19, il_20, il_21, il_22, il_23, il_24, il_26, il_27, il_28, il_30, il_32, il_34, il_36, il_38, il_40, il_43, il_44, il_46, il_47, il_48, il_49, il_50, il_51, il_60, il_64, il_100, il_108, il_111, il_127, il_971, il_972, il_999, il_1000, il_1024, il_1087, il_2500, il_5000, il_9999, il_60000, il_2147483647, nI_add, nI_mulI, nI_subI, nI_divI, nI_cl, nI_leJ, nI_ltJ, nI_eqJ, nI_neM, nI_neM', il_31, aw_sI_e, aw_sI_n, aw_sI_2, aw_sL_e, aw_sL_n, aw_sL_1, Option.bind_some, aw_chkT, ck_and0, ck_and1, bI_t, bI_f, nar_0, nar_1]
      rw [if_neg (by omega)]
      rw [e]
      simp only [nI_mulI, nI_add, il_1, Nat.add_assoc]

theorem L_sc_L57 {A : St} {σ : Sg} {d : Dt} {D x : Nat} (hS : Lay σ) (hW : WF A) (hQ : RepQ A d) (hD : D < A 11 0 0) (hx : x = 275 ∨ x = 276) (hsp : Spx A D (A 13 0 D) x d) (hz : ∀ s, s < 50 → d.1 272 s = nI (A 17 0 s)) {x5 y : Nat} {x7 : Int32} {k : Int32 → Int32 → Dt → Option (Int32 × Dt)} : ∀ (m i f : Nat), i + m = A 2 0 0 → m < f → f_L_score_L57 σ f k 266 272 x5 274 x7 x y (nI (sumR (fun w => sumR (fun k => A 5 0 w * figs (A 17 0 ((own A D w).getD k 0))) (own A D w).length) i)) (nI (sumR (fun w => A 5 0 w) i)) (nI i) d = k (nI (strS A D)) (nI (wtS A)) d := by
  have hw6 := hQ.w6
  have qn := rq_words hQ
  intro m
  induction m with
  | zero =>
    intro i f hi hf
    cases f with
    | zero => omega
    | succ f =>
      have hiN : i = A 2 0 0 := by omega
      show f_L_score_B57 σ (f_L_score_L57 σ f k 266 272 x5 274 x7 x y) k 266 272 x5 274 x7 x y (nI (sumR (fun w => sumR (fun k => A 5 0 w * figs (A 17 0 ((own A D w).getD k 0))) (own A D w).length) i)) (nI (sumR (fun w => A 5 0 w) i)) (nI i) d = _
      simp (disch := first | assumption | omega) only [f_L_score_B57, qn, lo_0 hS, lo_1 hS, lo_33 hS, lo_34 hS, lo_89 hS, lo_100 hS, lo_123 hS, lo_146 hS, lo_148 hS, lo_176 hS, lo_182 hS, lo_D hS, lo_G hS, lr_37 hS, lr_93 hS, lr_101 hS, lr_124 hS, lr_152 hS, lr_169 hS, lr_0_0 hS, lr_0_1 hS, lr_0_2 hS, lr_0_3 hS, lr_0_5 hS, lr_0_6 hS, lr_0_7 hS, lr_0_8 hS, lr_0_9 hS, lr_0_10 hS, lr_0_11 hS, lr_0_12 hS, lr_1_0 hS, lr_1_2 hS, lr_33_0 hS, lr_33_1 hS, lr_33_2 hS, lr_33_3 hS, lr_34_0 hS, lr_89_0 hS, lr_89_1 hS, lr_89_2 hS, lr_89_3 hS, lr_89_4 hS, lr_89_5 hS, lr_100_0 hS, lr_100_1 hS, lr_123_0 hS, lr_123_1 hS, lr_146_0 hS, lr_148_0 hS, lr_148_1 hS, lr_148_2 hS, lr_148_3 hS, lr_148_4 hS, lr_148_5 hS, lr_176_0 hS, lr_176_1 hS, lr_176_4 hS, lr_176_6 hS, lr_176_7 hS, lr_182_0 hS, lr_D_0 hS, lr_D_1 hS, lr_D_2 hS, lr_D_3 hS, lr_D_5 hS, lr_D_6 hS, lr_D_r hS, lr_31 hS, lr_32 hS, lr_G_2 hS, lr_G_3 hS, lr_G_4 hS, li_2 hS, li_3 hS, li_31 hS, li_32 hS, li_35 hS, li_36 hS, li_37 hS, li_88 hS, li_90 hS, li_91 hS, li_92 hS, li_93 hS, li_98 hS, li_99 hS, li_101 hS, li_122 hS, li_124 hS, li_145 hS, li_147 hS, li_149 hS, li_150 hS, li_151 hS, li_152 hS, li_169 hS, li_175 hS, li_177 hS, li_178 hS, li_179 hS, li_180 hS, li_181 hS, li_183 hS, li_265 hS, li_266 hS, li_267 hS, li_268 hS, li_269 hS, li_270 hS, li_271 hS, li_272 hS, li_273 hS, li_274 hS, li_275 hS, li_276 hS, li_38 hS, li_94 hS, li_102 hS, li_125 hS, li_153 hS, li_170 hS, li_D_1 hS, li_D_2 hS, li_D_3 hS, li_D_4 hS, li_D_5 hS, li_D_26 hS, li_D_r hS, li_G_1 hS, li_G_2 hS, li_G_3 hS, li_rA hS, li_rK hS, li_rX hS, il_0, il_1, il_2, il_3, il_4, il_5, il_6, il_7, il_8, il_9, il_10, il_11, il_12, il_13, il_15, il_16, il_17, il_18, il_19, il_20, il_21, il_22, il_23, il_24, il_26, il_27, il_28, il_30, il_32, il_34, il_36, il_38, il_40, il_43, il_44, il_46, il_47, il_48, il_49, il_50, il_51, il_60, il_64, il_100, il_108, il_111, il_127, il_971, il_972, il_999, il_1000, il_1024, il_1087, il_2500, il_5000, il_9999, il_60000, il_2147483647, nI_add, nI_mulI, nI_subI, nI_divI, nI_cl, nI_leJ, nI_ltJ, nI_eqJ, nI_neM, nI_neM', il_31, aw_sI_e, aw_sI_n, aw_sI_2, aw_sL_e, aw_sL_n, aw_sL_1, Option.bind_some, aw_chkT, ck_and0, ck_and1, bI_t, bI_f, nar_0, nar_1]
      rw [if_pos (by omega)]
      rw [hiN]
      rfl
  | succ m ih =>
    intro i f hi hf
    cases f with
    | zero => omega
    | succ f =>
      have hlt : i < A 2 0 0 := by omega
      have qw := rq_wt hQ hlt
      have hw14 : 8 + i < 64 := by omega
      show f_L_score_B57 σ (f_L_score_L57 σ f k 266 272 x5 274 x7 x y) k 266 272 x5 274 x7 x y (nI (sumR (fun w => sumR (fun k => A 5 0 w * figs (A 17 0 ((own A D w).getD k 0))) (own A D w).length) i)) (nI (sumR (fun w => A 5 0 w) i)) (nI i) d = _
      simp (disch := first | assumption | omega) only [f_L_score_B57, qn, qw, lo_0 hS, lo_1 hS, lo_33 hS, lo_34 hS, lo_89 hS, lo_100 hS, lo_123 hS, lo_146 hS, lo_148 hS, lo_176 hS, lo_182 hS, lo_D hS, lo_G hS, lr_37 hS, lr_93 hS, lr_101 hS, lr_124 hS, lr_152 hS, lr_169 hS, lr_0_0 hS, lr_0_1 hS, lr_0_2 hS, lr_0_3 hS, lr_0_5 hS, lr_0_6 hS, lr_0_7 hS, lr_0_8 hS, lr_0_9 hS, lr_0_10 hS, lr_0_11 hS, lr_0_12 hS, lr_1_0 hS, lr_1_2 hS, lr_33_0 hS, lr_33_1 hS, lr_33_2 hS, lr_33_3 hS, lr_34_0 hS, lr_89_0 hS, lr_89_1 hS, lr_89_2 hS, lr_89_3 hS, lr_89_4 hS, lr_89_5 hS, lr_100_0 hS, lr_100_1 hS, lr_123_0 hS, lr_123_1 hS, lr_146_0 hS, lr_148_0 hS, lr_148_1 hS, lr_148_2 hS, lr_148_3 hS, lr_148_4 hS, lr_148_5 hS, lr_176_0 hS, lr_176_1 hS, lr_176_4 hS, lr_176_6 hS, lr_176_7 hS, lr_182_0 hS, lr_D_0 hS, lr_D_1 hS, lr_D_2 hS, lr_D_3 hS, lr_D_5 hS, lr_D_6 hS, lr_D_r hS, lr_31 hS, lr_32 hS, lr_G_2 hS, lr_G_3 hS, lr_G_4 hS, li_2 hS, li_3 hS, li_31 hS, li_32 hS, li_35 hS, li_36 hS, li_37 hS, li_88 hS, li_90 hS, li_91 hS, li_92 hS, li_93 hS, li_98 hS, li_99 hS, li_101 hS, li_122 hS, li_124 hS, li_145 hS, li_147 hS, li_149 hS, li_150 hS, li_151 hS, li_152 hS, li_169 hS, li_175 hS, li_177 hS, li_178 hS, li_179 hS, li_180 hS, li_181 hS, li_183 hS, li_265 hS, li_266 hS, li_267 hS, li_268 hS, li_269 hS, li_270 hS, li_271 hS, li_272 hS, li_273 hS, li_274 hS, li_275 hS, li_276 hS, li_38 hS, li_94 hS, li_102 hS, li_125 hS, li_153 hS, li_170 hS, li_D_1 hS, li_D_2 hS, li_D_3 hS, li_D_4 hS, li_D_5 hS, li_D_26 hS, li_D_r hS, li_G_1 hS, li_G_2 hS, li_G_3 hS, li_rA hS, li_rK hS, li_rX hS, il_0, il_1, il_2, il_3, il_4, il_5, il_6, il_7, il_8, il_9, il_10, il_11, il_12, il_13, il_15, il_16, il_17, il_18, il_19, il_20, il_21, il_22, il_23, il_24, il_26, il_27, il_28, il_30, il_32, il_34, il_36, il_38, il_40, il_43, il_44, il_46, il_47, il_48, il_49, il_50, il_51, il_60, il_64, il_100, il_108, il_111, il_127, il_971, il_972, il_999, il_1000, il_1024, il_1087, il_2500, il_5000, il_9999, il_60000, il_2147483647, nI_add, nI_mulI, nI_subI, nI_divI, nI_cl, nI_leJ, nI_ltJ, nI_eqJ, nI_neM, nI_neM', il_31, aw_sI_e, aw_sI_n, aw_sI_2, aw_sL_e, aw_sL_n, aw_sL_1, Option.bind_some, aw_chkT, ck_and0, ck_and1, bI_t, bI_f, nar_0, nar_1]
      rw [if_neg (by omega)]
      have h16 := (own_wrd hW hD hlt).1
      have h := fun (x11 : Int32) (kk : Int32 → Dt → Option (Int32 × Dt)) => L_sc_L81 (k := kk) (x5 := x5) (y := y) (x7 := x7) (x11 := x11) (c := sumR (fun w => sumR (fun k => A 5 0 w * figs (A 17 0 ((own A D w).getD k 0))) (own A D w).length) i) hS hW hQ hD hx hsp hz hlt (own A D i).length 0 aw_FU (by omega) (by show _ < 5000; omega)
      have e0 : ∀ g : Nat → Nat, sumR g 0 = 0 := fun _ => rfl
      simp only [e0, Nat.add_zero, Nat.zero_add] at h
      rw [h]
      exact ih (i + 1) f (by omega) (by omega)

theorem dcB {A : St} {D : Nat} {d : Dt} {σ : Sg} {α : Type} (hS : Lay σ) {a : Nat} (ha : a = 268 ∨ a = 269) (hA : RepA A D a d) (hb : A 13 0 D < 4) (F : Int32 → Option α) (h0 : Option α) (e0 : A 13 0 D = 0 → h0 = F 3) : aw_chk (aw_I σ 20 a 48) (if d.1 a ((48 : Int32)).toNatClampNeg = 0 then h0 else F (d.1 a ((48 : Int32)).toNatClampNeg - 1)) = F (nI (dc (A 13 0 D))) := by
  have q := hA.2.2.1
  simp (disch := first | assumption | omega) only [q, lo_0 hS, lo_1 hS, lo_33 hS, lo_34 hS, lo_89 hS, lo_100 hS, lo_123 hS, lo_146 hS, lo_148 hS, lo_176 hS, lo_182 hS, lo_D hS, lo_G hS, lr_37 hS, lr_93 hS, lr_101 hS, lr_124 hS, lr_152 hS, lr_169 hS, lr_0_0 hS, lr_0_1 hS, lr_0_2 hS, lr_0_3 hS, lr_0_5 hS, lr_0_6 hS, lr_0_7 hS, lr_0_8 hS, lr_0_9 hS, lr_0_10 hS, lr_0_11 hS, lr_0_12 hS, lr_1_0 hS, lr_1_2 hS, lr_33_0 hS, lr_33_1 hS, lr_33_2 hS, lr_33_3 hS, lr_34_0 hS, lr_89_0 hS, lr_89_1 hS, lr_89_2 hS, lr_89_3 hS, lr_89_4 hS, lr_89_5 hS, lr_100_0 hS, lr_100_1 hS, lr_123_0 hS, lr_123_1 hS, lr_146_0 hS, lr_148_0 hS, lr_148_1 hS, lr_148_2 hS, lr_148_3 hS, lr_148_4 hS, lr_148_5 hS, lr_176_0 hS, lr_176_1 hS, lr_176_4 hS, lr_176_6 hS, lr_176_7 hS, lr_182_0 hS, lr_D_0 hS, lr_D_1 hS, lr_D_2 hS, lr_D_3 hS, lr_D_5 hS, lr_D_6 hS, lr_D_r hS, lr_31 hS, lr_32 hS, lr_G_2 hS, lr_G_3 hS, lr_G_4 hS, li_2 hS, li_3 hS, li_31 hS, li_32 hS, li_35 hS, li_36 hS, li_37 hS, li_88 hS, li_90 hS, li_91 hS, li_92 hS, li_93 hS, li_98 hS, li_99 hS, li_101 hS, li_122 hS, li_124 hS, li_145 hS, li_147 hS, li_149 hS, li_150 hS, li_151 hS, li_152 hS, li_169 hS, li_175 hS, li_177 hS, li_178 hS, li_179 hS, li_180 hS, li_181 hS, li_183 hS, li_265 hS, li_266 hS, li_267 hS, li_268 hS, li_269 hS, li_270 hS, li_271 hS, li_272 hS, li_273 hS, li_274 hS, li_275 hS, li_276 hS, li_38 hS, li_94 hS, li_102 hS, li_125 hS, li_153 hS, li_170 hS, li_D_1 hS, li_D_2 hS, li_D_3 hS, li_D_4 hS, li_D_5 hS, li_D_26 hS, li_D_r hS, li_G_1 hS, li_G_2 hS, li_G_3 hS, li_rA hS, li_rK hS, li_rX hS, il_0, il_1, il_2, il_3, il_4, il_5, il_6, il_7, il_8, il_9, il_10, il_11, il_12, il_13, il_15, il_16, il_17, il_18, il_19, il_20, il_21, il_22, il_23, il_24, il_26, il_27, il_28, il_30, il_32, il_34, il_36, il_38, il_40, il_43, il_44, il_46, il_47, il_48, il_49, il_50, il_51, il_60, il_64, il_100, il_108, il_111, il_127, il_971, il_972, il_999, il_1000, il_1024, il_1087, il_2500, il_5000, il_9999, il_60000, il_2147483647, nI_add, nI_mulI, nI_subI, nI_divI, nI_cl, nI_leJ, nI_ltJ, nI_eqJ, nI_neM, nI_neM', il_31, aw_sI_e, aw_sI_n, aw_sI_2, aw_sL_e, aw_sL_n, aw_sL_1, Option.bind_some, aw_chkT, ck_and0, ck_and1, bI_t, bI_f, nar_0, nar_1]
  unfold dc
  by_cases e : A 13 0 D = 0
  · rw [if_pos e, if_pos e, e0 e, il_3]
  · rw [if_neg e, if_neg e]
theorem L_score {A : St} {σ : Sg} {d : Dt} {D a g : Nat} (hS : Lay σ) (hW : WF A) (hL : RepL A d) (hD : D < A 11 0 0) (ha : a = 268 ∨ a = 269) (hA : RepA A D a d) (hg : g < 4) : ok (f_L_score σ 265 266 267 a 272 273 274 (nI g) 275 276 d) (fun z => z.1 = nI (scS A g D) ∧ z.2.1 = d.1 ∧ (∀ c, c ≠ 275 → c ≠ 276 → z.2.2 c = d.2 c)) := by
  have hQ := hL.1
  have hw6 := hQ.w6
  have hb := (hW.G hD).2.1
  have hgg := hW.g hg
  unfold f_L_score
  rw [dcB hS ha hA (by omega) (fun t => f_L_score_J23 σ t 274 a 267 266 265 265 266 267 a 272 273 274 (nI g) 275 276 d) _ (fun _ => rfl)]
  unfold f_L_score_J23
  obtain ⟨z1, hz1, s1, F1⟩ := L_spellsAll (x := 275) hS hW hQ ha hA hD (show A 13 0 D < 4 by omega) (Or.inl rfl)
  rw [hz1]
  have q20 : z1.2.1 273 (3 * g + 2) = nI (A 20 0 g) := by rw [F1.1]; exact (hL.2.2.2.2 g hg).2.2
  have hg12 : 3 * g + 2 < 12 := by omega
  have hg13 : 3 * g + 1 < 12 := by omega
  have e20 : nI (A 20 0 g) = nI (dc (A 20 0 g + 1)) := by unfold dc; rw [if_neg (by omega)]; rfl
  obtain ⟨z2, hz2, s2, F2⟩ := L_spellsAll (b := A 20 0 g + 1) (x := 276) (d := z1.2) hS hW (hQ.e F1.1) ha (hA.e F1.1) hD (by have := hgg.2.2; omega) (Or.inr rfl)
  have s1' : Spx A D (A 13 0 D) 275 z2.2 := s1.e (F2.2 275 (by omega))
  have e2 : z2.2.1 = d.1 := F2.1.trans F1.1
  have hQ2 : RepQ A z2.2 := hQ.e e2
  have hzz : ∀ s, s < 50 → z2.2.1 272 s = nI (A 17 0 s) := fun s hs => by rw [e2]; exact hL.2.2.2.1 s hs
  have q19 : z2.2.1 273 (3 * g + 1) = nI (A 19 0 g) := by rw [e2]; exact (hL.2.2.2.2 g hg).2.1
  have hlo := loadS_le hW D
  have hst := strS_le hW hD
  have hwt := wtS_le hW
  have hfi := fitS_le A D (A 20 0 g + 1)
  have hc19 := hgg.2.1
  have ql := L_load hS hW hQ2 hD (Or.inl rfl) s1'
  have qf := L_fit hS hW hQ2 hD (show A 20 0 g + 1 < 4 by have := hgg.2.2; omega) (Or.inl rfl) (Or.inr rfl) s1' s2
  have h := fun (kk : Int32 → Int32 → Dt → Option (Int32 × Dt)) => L_sc_L57 (k := kk) (x5 := 273) (x7 := nI g) (y := 276) hS hW hQ2 hD (Or.inl rfl) s1' hzz (A 2 0 0) 0 aw_FU (by omega) (by show _ < 5000; omega)
  have e0 : ∀ g : Nat → Nat, sumR g 0 = 0 := fun _ => rfl
  simp only [e0] at h
  simp (disch := first | assumption | omega) only [q20, e20, lo_0 hS, lo_1 hS, lo_33 hS, lo_34 hS, lo_89 hS, lo_100 hS, lo_123 hS, lo_146 hS, lo_148 hS, lo_176 hS, lo_182 hS, lo_D hS, lo_G hS, lr_37 hS, lr_93 hS, lr_101 hS, lr_124 hS, lr_152 hS, lr_169 hS, lr_0_0 hS, lr_0_1 hS, lr_0_2 hS, lr_0_3 hS, lr_0_5 hS, lr_0_6 hS, lr_0_7 hS, lr_0_8 hS, lr_0_9 hS, lr_0_10 hS, lr_0_11 hS, lr_0_12 hS, lr_1_0 hS, lr_1_2 hS, lr_33_0 hS, lr_33_1 hS, lr_33_2 hS, lr_33_3 hS, lr_34_0 hS, lr_89_0 hS, lr_89_1 hS, lr_89_2 hS, lr_89_3 hS, lr_89_4 hS, lr_89_5 hS, lr_100_0 hS, lr_100_1 hS, lr_123_0 hS, lr_123_1 hS, lr_146_0 hS, lr_148_0 hS, lr_148_1 hS, lr_148_2 hS, lr_148_3 hS, lr_148_4 hS, lr_148_5 hS, lr_176_0 hS, lr_176_1 hS, lr_176_4 hS, lr_176_6 hS, lr_176_7 hS, lr_182_0 hS, lr_D_0 hS, lr_D_1 hS, lr_D_2 hS, lr_D_3 hS, lr_D_5 hS, lr_D_6 hS, lr_D_r hS, lr_31 hS, lr_32 hS, lr_G_2 hS, lr_G_3 hS, lr_G_4 hS, li_2 hS, li_3 hS, li_31 hS, li_32 hS, li_35 hS, li_36 hS, li_37 hS, li_88 hS, li_90 hS, li_91 hS, li_92 hS, li_93 hS, li_98 hS, li_99 hS, li_101 hS, li_122 hS, li_124 hS, li_145 hS, li_147 hS, li_149 hS, li_150 hS, li_151 hS, li_152 hS, li_169 hS, li_175 hS, li_177 hS, li_178 hS, li_179 hS, li_180 hS, li_181 hS, li_183 hS, li_265 hS, li_266 hS, li_267 hS, li_268 hS, li_269 hS, li_270 hS, li_271 hS, li_272 hS, li_273 hS, li_274 hS, li_275 hS, li_276 hS, li_38 hS, li_94 hS, li_102 hS, li_125 hS, li_153 hS, li_170 hS, li_D_1 hS, li_D_2 hS, li_D_3 hS, li_D_4 hS, li_D_5 hS, li_D_26 hS, li_D_r hS, li_G_1 hS, li_G_2 hS, li_G_3 hS, li_rA hS, li_rK hS, li_rX hS, il_0, il_1, il_2, il_3, il_4, il_5, il_6, il_7, il_8, il_9, il_10, il_11, il_12, il_13, il_15, il_16, il_17, il_18, il_19, il_20, il_21, il_22, il_23, il_24, il_26, il_27, il_28, il_30, il_32, il_34, il_36, il_38, il_40, il_43, il_44, il_46, il_47, il_48, il_49, il_50, il_51, il_60, il_64, il_100, il_108, il_111, il_127, il_971, il_972, il_999, il_1000, il_1024, il_1087, il_2500, il_5000, il_9999, il_60000, il_2147483647, nI_add, nI_mulI, nI_subI, nI_divI, nI_cl, nI_leJ, nI_ltJ, nI_eqJ, nI_neM, nI_neM', il_31, aw_sI_e, aw_sI_n, aw_sI_2, aw_sL_e, aw_sL_n, aw_sL_1, Option.bind_some, aw_chkT, ck_and0, ck_and1, bI_t, bI_f, nar_0, nar_1]
  rw [hz2]
  simp (disch := first | assumption | omega) only [h, ql, qf, q19, lo_0 hS, lo_1 hS, lo_33 hS, lo_34 hS, lo_89 hS, lo_100 hS, lo_123 hS, lo_146 hS, lo_148 hS, lo_176 hS, lo_182 hS, lo_D hS, lo_G hS, lr_37 hS, lr_93 hS, lr_101 hS, lr_124 hS, lr_152 hS, lr_169 hS, lr_0_0 hS, lr_0_1 hS, lr_0_2 hS, lr_0_3 hS, lr_0_5 hS, lr_0_6 hS, lr_0_7 hS, lr_0_8 hS, lr_0_9 hS, lr_0_10 hS, lr_0_11 hS, lr_0_12 hS, lr_1_0 hS, lr_1_2 hS, lr_33_0 hS, lr_33_1 hS, lr_33_2 hS, lr_33_3 hS, lr_34_0 hS, lr_89_0 hS, lr_89_1 hS, lr_89_2 hS, lr_89_3 hS, lr_89_4 hS, lr_89_5 hS, lr_100_0 hS, lr_100_1 hS, lr_123_0 hS, lr_123_1 hS, lr_146_0 hS, lr_148_0 hS, lr_148_1 hS, lr_148_2 hS, lr_148_3 hS, lr_148_4 hS, lr_148_5 hS, lr_176_0 hS, lr_176_1 hS, lr_176_4 hS, lr_176_6 hS, lr_176_7 hS, lr_182_0 hS, lr_D_0 hS, lr_D_1 hS, lr_D_2 hS, lr_D_3 hS, lr_D_5 hS, lr_D_6 hS, lr_D_r hS, lr_31 hS, lr_32 hS, lr_G_2 hS, lr_G_3 hS, lr_G_4 hS, li_2 hS, li_3 hS, li_31 hS, li_32 hS, li_35 hS, li_36 hS, li_37 hS, li_88 hS, li_90 hS, li_91 hS, li_92 hS, li_93 hS, li_98 hS, li_99 hS, li_101 hS, li_122 hS, li_124 hS, li_145 hS, li_147 hS, li_149 hS, li_150 hS, li_151 hS, li_152 hS, li_169 hS, li_175 hS, li_177 hS, li_178 hS, li_179 hS, li_180 hS, li_181 hS, li_183 hS, li_265 hS, li_266 hS, li_267 hS, li_268 hS, li_269 hS, li_270 hS, li_271 hS, li_272 hS, li_273 hS, li_274 hS, li_275 hS, li_276 hS, li_38 hS, li_94 hS, li_102 hS, li_125 hS, li_153 hS, li_170 hS, li_D_1 hS, li_D_2 hS, li_D_3 hS, li_D_4 hS, li_D_5 hS, li_D_26 hS, li_D_r hS, li_G_1 hS, li_G_2 hS, li_G_3 hS, li_rA hS, li_rK hS, li_rX hS, il_0, il_1, il_2, il_3, il_4, il_5, il_6, il_7, il_8, il_9, il_10, il_11, il_12, il_13, il_15, il_16, il_17, il_18, il_19, il_20, il_21, il_22, il_23, il_24, il_26, il_27, il_28, il_30, il_32, il_34, il_36, il_38, il_40, il_43, il_44, il_46, il_47, il_48, il_49, il_50, il_51, il_60, il_64, il_100, il_108, il_111, il_127, il_971, il_972, il_999, il_1000, il_1024, il_1087, il_2500, il_5000, il_9999, il_60000, il_2147483647, nI_add, nI_mulI, nI_subI, nI_divI, nI_cl, nI_leJ, nI_ltJ, nI_eqJ, nI_neM, nI_neM', il_31, aw_sI_e, aw_sI_n, aw_sI_2, aw_sL_e, aw_sL_n, aw_sL_1, Option.bind_some, aw_chkT, ck_and0, ck_and1, bI_t, bI_f, nar_0, nar_1]
  refine ok_some ⟨?_, e2, fun c h1 h2 => (F2.2 c h2).trans (F1.2 c h1)⟩
  have w1 : (A 19 0 g - A 19 0 g / 100 * 100) / 10 = A 19 0 g / 10 % 10 := by omega
  have w2 : A 19 0 g - A 19 0 g / 10 * 10 = A 19 0 g % 10 := by omega
  rw [w1, w2]
  rfl
