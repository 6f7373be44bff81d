/-! units, lengths of shapes, travel, reading: the law over its rows -/
theorem L_isUnit {A : St} {σ : Sg} {d : Dt} {D a u : Nat} (hS : Lay σ) (ha : a = 268 ∨ a = 269) (hA : RepA A D a d) (hk : A 12 0 D ≤ 1) (hu : u < 2147483648) : f_L_isUnit σ a (nI u) d = some (bI (isU (A 12 0 D) u), d) := by
  have q := hA.2.1
  have hu0 : ¬ nI u < nI 0 := by rw [nI_ltJ hu (by omega)]; omega
  by_cases e : 47 ≤ u
  · have e2 : isU (A 12 0 D) u = false := by unfold isU; simp; split <;> omega
    simp (disch := first | assumption | omega) only [f_L_isUnit, f_L_isUnit_J34, f_L_isUnit_J35, Nat.not_lt_zero, e, e2, if_true, if_false, ↓reduceIte, Nat.reduceEqDiff, Nat.one_ne_zero, if_true, if_false, lo_0 hS, lo_1 hS, lo_33 hS, lo_34 hS, lo_89 hS, lo_100 hS, lo_123 hS, lo_146 hS, lo_148 hS, lo_176 hS, lo_182 hS, lo_D hS, lo_G hS, lr_37 hS, lr_93 hS, lr_101 hS, lr_124 hS, lr_152 hS, lr_169 hS, lr_0_0 hS, lr_0_1 hS, lr_0_2 hS, lr_0_3 hS, lr_0_5 hS, lr_0_6 hS, lr_0_7 hS, lr_0_8 hS, lr_0_9 hS, lr_0_10 hS, lr_0_11 hS, lr_0_12 hS, lr_1_0 hS, lr_1_2 hS, lr_33_0 hS, lr_33_1 hS, lr_33_2 hS, lr_33_3 hS, lr_34_0 hS, lr_89_0 hS, lr_89_1 hS, lr_89_2 hS, lr_89_3 hS, lr_89_4 hS, lr_89_5 hS, lr_100_0 hS, lr_100_1 hS, lr_123_0 hS, lr_123_1 hS, lr_146_0 hS, lr_148_0 hS, lr_148_1 hS, lr_148_2 hS, lr_148_3 hS, lr_148_4 hS, lr_148_5 hS, lr_176_0 hS, lr_176_1 hS, lr_176_4 hS, lr_176_6 hS, lr_176_7 hS, lr_182_0 hS, lr_D_0 hS, lr_D_1 hS, lr_D_2 hS, lr_D_3 hS, lr_D_5 hS, lr_D_6 hS, lr_D_r hS, lr_31 hS, lr_32 hS, lr_G_2 hS, lr_G_3 hS, lr_G_4 hS, li_2 hS, li_3 hS, li_31 hS, li_32 hS, li_35 hS, li_36 hS, li_37 hS, li_88 hS, li_90 hS, li_91 hS, li_92 hS, li_93 hS, li_98 hS, li_99 hS, li_101 hS, li_122 hS, li_124 hS, li_145 hS, li_147 hS, li_149 hS, li_150 hS, li_151 hS, li_152 hS, li_169 hS, li_175 hS, li_177 hS, li_178 hS, li_179 hS, li_180 hS, li_181 hS, li_183 hS, li_265 hS, li_266 hS, li_267 hS, li_268 hS, li_269 hS, li_270 hS, li_271 hS, li_272 hS, li_273 hS, li_274 hS, li_275 hS, li_276 hS, li_38 hS, li_94 hS, li_102 hS, li_125 hS, li_153 hS, li_170 hS, li_D_1 hS, li_D_2 hS, li_D_3 hS, li_D_4 hS, li_D_5 hS, li_D_26 hS, li_D_r hS, li_G_1 hS, li_G_2 hS, li_G_3 hS, li_rA hS, li_rK hS, li_rX hS, il_0, il_1, il_2, il_3, il_4, il_5, il_6, il_7, il_8, il_9, il_10, il_11, il_12, il_13, il_15, il_16, il_17, il_18, il_19, il_20, il_21, il_22, il_23, il_24, il_26, il_27, il_28, il_30, il_32, il_34, il_36, il_38, il_40, il_43, il_44, il_46, il_47, il_48, il_49, il_50, il_51, il_60, il_64, il_100, il_108, il_111, il_127, il_971, il_972, il_999, il_1000, il_1024, il_1087, il_2500, il_5000, il_9999, il_60000, il_2147483647, nI_add, nI_mulI, nI_subI, nI_divI, nI_cl, nI_leJ, nI_ltJ, nI_eqJ, nI_neM, nI_neM', il_31, aw_sI_e, aw_sI_n, aw_sI_2, aw_sL_e, aw_sL_n, aw_sL_1, Option.bind_some, aw_chkT, ck_and0, ck_and1, bI_t, bI_f, nar_0, nar_1]
  · rcases (show A 12 0 D = 0 ∨ A 12 0 D = 1 by omega) with e1 | e1
    · simp (disch := first | assumption | omega) only [f_L_isUnit, f_L_isUnit_J30, f_L_isUnit_J34, f_L_isUnit_J35, Nat.not_lt_zero, q, e, e1, if_true, if_false, ↓reduceIte, Nat.reduceEqDiff, Nat.one_ne_zero, if_true, if_false, lo_0 hS, lo_1 hS, lo_33 hS, lo_34 hS, lo_89 hS, lo_100 hS, lo_123 hS, lo_146 hS, lo_148 hS, lo_176 hS, lo_182 hS, lo_D hS, lo_G hS, lr_37 hS, lr_93 hS, lr_101 hS, lr_124 hS, lr_152 hS, lr_169 hS, lr_0_0 hS, lr_0_1 hS, lr_0_2 hS, lr_0_3 hS, lr_0_5 hS, lr_0_6 hS, lr_0_7 hS, lr_0_8 hS, lr_0_9 hS, lr_0_10 hS, lr_0_11 hS, lr_0_12 hS, lr_1_0 hS, lr_1_2 hS, lr_33_0 hS, lr_33_1 hS, lr_33_2 hS, lr_33_3 hS, lr_34_0 hS, lr_89_0 hS, lr_89_1 hS, lr_89_2 hS, lr_89_3 hS, lr_89_4 hS, lr_89_5 hS, lr_100_0 hS, lr_100_1 hS, lr_123_0 hS, lr_123_1 hS, lr_146_0 hS, lr_148_0 hS, lr_148_1 hS, lr_148_2 hS, lr_148_3 hS, lr_148_4 hS, lr_148_5 hS, lr_176_0 hS, lr_176_1 hS, lr_176_4 hS, lr_176_6 hS, lr_176_7 hS, lr_182_0 hS, lr_D_0 hS, lr_D_1 hS, lr_D_2 hS, lr_D_3 hS, lr_D_5 hS, lr_D_6 hS, lr_D_r hS, lr_31 hS, lr_32 hS, lr_G_2 hS, lr_G_3 hS, lr_G_4 hS, li_2 hS, li_3 hS, li_31 hS, li_32 hS, li_35 hS, li_36 hS, li_37 hS, li_88 hS, li_90 hS, li_91 hS, li_92 hS, li_93 hS, li_98 hS, li_99 hS, li_101 hS, li_122 hS, li_124 hS, li_145 hS, li_147 hS, li_149 hS, li_150 hS, li_151 hS, li_152 hS, li_169 hS, li_175 hS, li_177 hS, li_178 hS, li_179 hS, li_180 hS, li_181 hS, li_183 hS, li_265 hS, li_266 hS, li_267 hS, li_268 hS, li_269 hS, li_270 hS, li_271 hS, li_272 hS, li_273 hS, li_274 hS, li_275 hS, li_276 hS, li_38 hS, li_94 hS, li_102 hS, li_125 hS, li_153 hS, li_170 hS, li_D_1 hS, li_D_2 hS, li_D_3 hS, li_D_4 hS, li_D_5 hS, li_D_26 hS, li_D_r hS, li_G_1 hS, li_G_2 hS, li_G_3 hS, li_rA hS, li_rK hS, li_rX hS, il_0, il_1, il_2, il_3, il_4, il_5, il_6, il_7, il_8, il_9, il_10, il_11, il_12, il_13, il_15, il_16, il_17, il_18, il_19, il_20, il_21, il_22, il_23, il_24, il_26, il_27, il_28, il_30, il_32, il_34, il_36, il_38, il_40, il_43, il_44, il_46, il_47, il_48, il_49, il_50, il_51, il_60, il_64, il_100, il_108, il_111, il_127, il_971, il_972, il_999, il_1000, il_1024, il_1087, il_2500, il_5000, il_9999, il_60000, il_2147483647, nI_add, nI_mulI, nI_subI, nI_divI, nI_cl, nI_leJ, nI_ltJ, nI_eqJ, nI_neM, nI_neM', il_31, aw_sI_e, aw_sI_n, aw_sI_2, aw_sL_e, aw_sL_n, aw_sL_1, Option.bind_some, aw_chkT, ck_and0, ck_and1, bI_t, bI_f, nar_0, nar_1]
      by_cases e2 : u < 12
      · have e3 : isU 0 u = true := by simp [isU, e2]
        rw [if_pos e2, e3]; rfl
      · by_cases e4 : u ≤ 43
        · have e3 : isU 0 u = false := by simp [isU]; omega
          rw [if_neg e2, if_pos e4, e3]; rfl
        · have e3 : isU 0 u = true := by simp [isU]; omega
          rw [if_neg e2, if_neg e4, e3]; rfl
    · have e3 : isU 1 u = true := by simp [isU]; omega
      simp (disch := first | assumption | omega) only [f_L_isUnit, f_L_isUnit_J30, f_L_isUnit_J34, f_L_isUnit_J35, Nat.not_lt_zero, q, e, e1, e3, if_true, if_false, ↓reduceIte, Nat.reduceEqDiff, Nat.one_ne_zero, if_true, if_false, lo_0 hS, lo_1 hS, lo_33 hS, lo_34 hS, lo_89 hS, lo_100 hS, lo_123 hS, lo_146 hS, lo_148 hS, lo_176 hS, lo_182 hS, lo_D hS, lo_G hS, lr_37 hS, lr_93 hS, lr_101 hS, lr_124 hS, lr_152 hS, lr_169 hS, lr_0_0 hS, lr_0_1 hS, lr_0_2 hS, lr_0_3 hS, lr_0_5 hS, lr_0_6 hS, lr_0_7 hS, lr_0_8 hS, lr_0_9 hS, lr_0_10 hS, lr_0_11 hS, lr_0_12 hS, lr_1_0 hS, lr_1_2 hS, lr_33_0 hS, lr_33_1 hS, lr_33_2 hS, lr_33_3 hS, lr_34_0 hS, lr_89_0 hS, lr_89_1 hS, lr_89_2 hS, lr_89_3 hS, lr_89_4 hS, lr_89_5 hS, lr_100_0 hS, lr_100_1 hS, lr_123_0 hS, lr_123_1 hS, lr_146_0 hS, lr_148_0 hS, lr_148_1 hS, lr_148_2 hS, lr_148_3 hS, lr_148_4 hS, lr_148_5 hS, lr_176_0 hS, lr_176_1 hS, lr_176_4 hS, lr_176_6 hS, lr_176_7 hS, lr_182_0 hS, lr_D_0 hS, lr_D_1 hS, lr_D_2 hS, lr_D_3 hS, lr_D_5 hS, lr_D_6 hS, lr_D_r hS, lr_31 hS, lr_32 hS, lr_G_2 hS, lr_G_3 hS, lr_G_4 hS, li_2 hS, li_3 hS, li_31 hS, li_32 hS, li_35 hS, li_36 hS, li_37 hS, li_88 hS, li_90 hS, li_91 hS, li_92 hS, li_93 hS, li_98 hS, li_99 hS, li_101 hS, li_122 hS, li_124 hS, li_145 hS, li_147 hS, li_149 hS, li_150 hS, li_151 hS, li_152 hS, li_169 hS, li_175 hS, li_177 hS, li_178 hS, li_179 hS, li_180 hS, li_181 hS, li_183 hS, li_265 hS, li_266 hS, li_267 hS, li_268 hS, li_269 hS, li_270 hS, li_271 hS, li_272 hS, li_273 hS, li_274 hS, li_275 hS, li_276 hS, li_38 hS, li_94 hS, li_102 hS, li_125 hS, li_153 hS, li_170 hS, li_D_1 hS, li_D_2 hS, li_D_3 hS, li_D_4 hS, li_D_5 hS, li_D_26 hS, li_D_r hS, li_G_1 hS, li_G_2 hS, li_G_3 hS, li_rA hS, li_rK hS, li_rX hS, il_0, il_1, il_2, il_3, il_4, il_5, il_6, il_7, il_8, il_9, il_10, il_11, il_12, il_13, il_15, il_16, il_17, il_18, il_19, il_20, il_21, il_22, il_23, il_24, il_26, il_27, il_28, il_30, il_32, il_34, il_36, il_38, il_40, il_43, il_44, il_46, il_47, il_48, il_49, il_50, il_51, il_60, il_64, il_100, il_108, il_111, il_127, il_971, il_972, il_999, il_1000, il_1024, il_1087, il_2500, il_5000, il_9999, il_60000, il_2147483647, nI_add, nI_mulI, nI_subI, nI_divI, nI_cl, nI_leJ, nI_ltJ, nI_eqJ, nI_neM, nI_neM', il_31, aw_sI_e, aw_sI_n, aw_sI_2, aw_sL_e, aw_sL_n, aw_sL_1, Option.bind_some, aw_chkT, ck_and0, ck_and1, bI_t, bI_f, nar_0, nar_1]
theorem cnt_or (p : Nat → Bool) (i : Nat) : decide (0 < cntR p 0 (i + 1)) = (decide (0 < cntR p 0 i) || p i) := by
  simp only [cntR, Nat.zero_add]
  cases p i
  · simp
  · simp
theorem L_has_L4 {A : St} {σ : Sg} {d : Dt} {D a s : Nat} (hS : Lay σ) (ha : a = 268 ∨ a = 269) (hA : RepA A D a d) (hk : A 12 0 D ≤ 1) (hs : ∀ u, u < 47 → A 14 D u < 50) (hs50 : s < 50) {k : Int32 → Dt → Option (Int32 × Dt)} : ∀ (m i f : Nat), i + m = 47 → m < f → f_L_has_L4 σ f k a (nI s) (bI (decide (0 < cntR (hasU A D s) 0 i))) (nI i) d = k (bI (isOfS A D s)) d := by
  intro m
  induction m with
  | zero =>
    intro i f hi hf
    cases f with
    | zero => omega
    | succ f =>
      have hiN : i = 47 := by omega
      show f_L_has_B4 σ (f_L_has_L4 σ f k a (nI s)) k a (nI s) (bI (decide (0 < cntR (hasU A D s) 0 i))) (nI i) d = _
      simp (disch := first | assumption | omega) only [f_L_has_B4, lo_0 hS, lo_1 hS, lo_33 hS, lo_34 hS, lo_89 hS, lo_100 hS, lo_123 hS, lo_146 hS, lo_148 hS, lo_176 hS, lo_182 hS, lo_D hS, lo_G hS, lr_37 hS, lr_93 hS, lr_101 hS, lr_124 hS, lr_152 hS, lr_169 hS, lr_0_0 hS, lr_0_1 hS, lr_0_2 hS, lr_0_3 hS, lr_0_5 hS, lr_0_6 hS, lr_0_7 hS, lr_0_8 hS, lr_0_9 hS, lr_0_10 hS, lr_0_11 hS, lr_0_12 hS, lr_1_0 hS, lr_1_2 hS, lr_33_0 hS, lr_33_1 hS, lr_33_2 hS, lr_33_3 hS, lr_34_0 hS, lr_89_0 hS, lr_89_1 hS, lr_89_2 hS, lr_89_3 hS, lr_89_4 hS, lr_89_5 hS, lr_100_0 hS, lr_100_1 hS, lr_123_0 hS, lr_123_1 hS, lr_146_0 hS, lr_148_0 hS, lr_148_1 hS, lr_148_2 hS, lr_148_3 hS, lr_148_4 hS, lr_148_5 hS, lr_176_0 hS, lr_176_1 hS, lr_176_4 hS, lr_176_6 hS, lr_176_7 hS, lr_182_0 hS, lr_D_0 hS, lr_D_1 hS, lr_D_2 hS, lr_D_3 hS, lr_D_5 hS, lr_D_6 hS, lr_D_r hS, lr_31 hS, lr_32 hS, lr_G_2 hS, lr_G_3 hS, lr_G_4 hS, li_2 hS, li_3 hS, li_31 hS, li_32 hS, li_35 hS, li_36 hS, li_37 hS, li_88 hS, li_90 hS, li_91 hS, li_92 hS, li_93 hS, li_98 hS, li_99 hS, li_101 hS, li_122 hS, li_124 hS, li_145 hS, li_147 hS, li_149 hS, li_150 hS, li_151 hS, li_152 hS, li_169 hS, li_175 hS, li_177 hS, li_178 hS, li_179 hS, li_180 hS, li_181 hS, li_183 hS, li_265 hS, li_266 hS, li_267 hS, li_268 hS, li_269 hS, li_270 hS, li_271 hS, li_272 hS, li_273 hS, li_274 hS, li_275 hS, li_276 hS, li_38 hS, li_94 hS, li_102 hS, li_125 hS, li_153 hS, li_170 hS, li_D_1 hS, li_D_2 hS, li_D_3 hS, li_D_4 hS, li_D_5 hS, li_D_26 hS, li_D_r hS, li_G_1 hS, li_G_2 hS, li_G_3 hS, li_rA hS, li_rK hS, li_rX hS, il_0, il_1, il_2, il_3, il_4, il_5, il_6, il_7, il_8, il_9, il_10, il_11, il_12, il_13, il_15, il_16, il_17, il_18, il_19, il_20, il_21, il_22, il_23, il_24, il_26, il_27, il_28, il_30, il_32, il_34, il_36, il_38, il_40, il_43, il_44, il_46, il_47, il_48, il_49, il_50, il_51, il_60, il_64, il_100, il_108, il_111, il_127, il_971, il_972, il_999, il_1000, il_1024, il_1087, il_2500, il_5000, il_9999, il_60000, il_2147483647, nI_add, nI_mulI, nI_subI, nI_divI, nI_cl, nI_leJ, nI_ltJ, nI_eqJ, nI_neM, nI_neM', il_31, aw_sI_e, aw_sI_n, aw_sI_2, aw_sL_e, aw_sL_n, aw_sL_1, Option.bind_some, aw_chkT, ck_and0, ck_and1, bI_t, bI_f, nar_0, nar_1]
      rw [if_pos (by omega)]
      rw [hiN]
      rfl
  | succ m ih =>
    intro i f hi hf
    cases f with
    | zero => omega
    | succ f =>
      have hlt : i < 47 := by omega
      have qu := L_isUnit (u := i) hS ha hA hk (by omega)
      have qs := hA.1 i hlt
      have s2 := hs i hlt
      have hi50 : i < 50 := by omega
      rw [← ih (i + 1) f (by omega) (by omega), cnt_or]
      show f_L_has_B4 σ (f_L_has_L4 σ f k a (nI s)) k a (nI s) (bI (decide (0 < cntR (hasU A D s) 0 i))) (nI i) d = _
      simp (disch := first | assumption | omega) only [f_L_has_B4, qu, qs, lo_0 hS, lo_1 hS, lo_33 hS, lo_34 hS, lo_89 hS, lo_100 hS, lo_123 hS, lo_146 hS, lo_148 hS, lo_176 hS, lo_182 hS, lo_D hS, lo_G hS, lr_37 hS, lr_93 hS, lr_101 hS, lr_124 hS, lr_152 hS, lr_169 hS, lr_0_0 hS, lr_0_1 hS, lr_0_2 hS, lr_0_3 hS, lr_0_5 hS, lr_0_6 hS, lr_0_7 hS, lr_0_8 hS, lr_0_9 hS, lr_0_10 hS, lr_0_11 hS, lr_0_12 hS, lr_1_0 hS, lr_1_2 hS, lr_33_0 hS, lr_33_1 hS, lr_33_2 hS, lr_33_3 hS, lr_34_0 hS, lr_89_0 hS, lr_89_1 hS, lr_89_2 hS, lr_89_3 hS, lr_89_4 hS, lr_89_5 hS, lr_100_0 hS, lr_100_1 hS, lr_123_0 hS, lr_123_1 hS, lr_146_0 hS, lr_148_0 hS, lr_148_1 hS, lr_148_2 hS, lr_148_3 hS, lr_148_4 hS, lr_148_5 hS, lr_176_0 hS, lr_176_1 hS, lr_176_4 hS, lr_176_6 hS, lr_176_7 hS, lr_182_0 hS, lr_D_0 hS, lr_D_1 hS, lr_D_2 hS, lr_D_3 hS, lr_D_5 hS, lr_D_6 hS, lr_D_r hS, lr_31 hS, lr_32 hS, lr_G_2 hS, lr_G_3 hS, lr_G_4 hS, li_2 hS, li_3 hS, li_31 hS, li_32 hS, li_35 hS, li_36 hS, li_37 hS, li_88 hS, li_90 hS, li_91 hS, li_92 hS, li_93 hS, li_98 hS, li_99 hS, li_101 hS, li_122 hS, li_124 hS, li_145 hS, li_147 hS, li_149 hS, li_150 hS, li_151 hS, li_152 hS, li_169 hS, li_175 hS, li_177 hS, li_178 hS, li_179 hS, li_180 hS, li_181 hS, li_183 hS, li_265 hS, li_266 hS, li_267 hS, li_268 hS, li_269 hS, li_270 hS, li_271 hS, li_272 hS, li_273 hS, li_274 hS, li_275 hS, li_276 hS, li_38 hS, li_94 hS, li_102 hS, li_125 hS, li_153 hS, li_170 hS, li_D_1 hS, li_D_2 hS, li_D_3 hS, li_D_4 hS, li_D_5 hS, li_D_26 hS, li_D_r hS, li_G_1 hS, li_G_2 hS, li_G_3 hS, li_rA hS, li_rK hS, li_rX hS, il_0, il_1, il_2, il_3, il_4, il_5, il_6, il_7, il_8, il_9, il_10, il_11, il_12, il_13, il_15, il_16, il_17, il_18, il_19, il_20, il_21, il_22, il_23, il_24, il_26, il_27, il_28, il_30, il_32, il_34, il_36, il_38, il_40, il_43, il_44, il_46, il_47, il_48, il_49, il_50, il_51, il_60, il_64, il_100, il_108, il_111, il_127, il_971, il_972, il_999, il_1000, il_1024, il_1087, il_2500, il_5000, il_9999, il_60000, il_2147483647, nI_add, nI_mulI, nI_subI, nI_divI, nI_cl, nI_leJ, nI_ltJ, nI_eqJ, nI_neM, nI_neM', il_31, aw_sI_e, aw_sI_n, aw_sI_2, aw_sL_e, aw_sL_n, aw_sL_1, Option.bind_some, aw_chkT, ck_and0, ck_and1, bI_t, bI_f, nar_0, nar_1]
      rw [if_neg (by omega)]
      rw [if_bI]
      cases decide (0 < cntR (hasU A D s) 0 i)
      · rw [if_neg (by decide), if_bI]
        cases hu : isU (A 12 0 D) i
        · rw [if_neg (by decide)]
          have e : hasU A D s i = false := by simp [hasU, hu]
          simp only [f_L_has_J33, f_L_has_J34, e, il_0, il_1, nI_add, Bool.or_false]; rfl
        · rw [if_pos rfl]
          by_cases e2 : A 14 D i = s
          · have e : hasU A D s i = true := by simp [hasU, hu, e2]
            rw [if_pos e2]
            simp only [f_L_has_J29, f_L_has_J34, e, il_0, il_1, nI_add, Bool.or_true]; rfl
          · have e : hasU A D s i = false := by simp [hasU, e2]
            rw [if_neg e2]
            simp only [f_L_has_J33, f_L_has_J34, e, il_0, il_1, nI_add, Bool.or_false]; rfl
      · rw [if_pos rfl]
        simp only [f_L_has_J29, f_L_has_J34, il_0, il_1, nI_add, Bool.true_or]; rfl

theorem L_has {A : St} {σ : Sg} {d : Dt} {D a s : Nat} (hS : Lay σ) (ha : a = 268 ∨ a = 269) (hA : RepA A D a d) (hk : A 12 0 D ≤ 1) (hs : ∀ u, u < 47 → A 14 D u < 50) (hs50 : s < 50) : f_L_has σ a (nI s) d = some (bI (isOfS A D s), d) := by
  simp only [f_L_has, il_0]
  have h := L_has_L4 (k := fun x2_4 d_5 => aw_chk (x2_4 &&& 1 = x2_4) (some (x2_4, d_5))) hS ha hA hk hs hs50 47 0 aw_FU (by omega) (by show _ < 5000; omega)
  refine Eq.trans h ?_
  have e := bI_and (isOfS A D s)
  simp only [il_1, e, aw_chkT]
/-- how many figures a number below 10000 has -/
theorem L_len1 {σ : Sg} {d : Dt} {k : Int32 → Dt → Option (Int32 × Dt)} (f c n : Nat) (hn : n < 2147483648) : f_L_length_L4 σ (f + 1) k (nI c) (nI n) d = if n = 0 then k (nI c) d else f_L_length_L4 σ f k (nI (c + 1)) (nI (n / 10)) d := by
  show f_L_length_B4 σ (f_L_length_L4 σ f k) k (nI c) (nI n) d = _
  simp (disch := first | assumption | omega) only [f_L_length_B4, il_0, il_1, il_2, il_3, il_4, il_5, il_6, il_7, il_8, il_9, il_10, il_11, il_12, il_13, il_15, il_16, il_17, il_18, il_19, il_20, il_21, il_22, il_23, il_24, il_26, il_27, il_28, il_30, il_32, il_34, il_36, il_38, il_40, il_43, il_44, il_46, il_47, il_48, il_49, il_50, il_51, il_60, il_64, il_100, il_108, il_111, il_127, il_971, il_972, il_999, il_1000, il_1024, il_1087, il_2500, il_5000, il_9999, il_60000, il_2147483647, nI_add, nI_mulI, nI_subI, nI_divI, nI_cl, nI_leJ, nI_ltJ, nI_eqJ, nI_neM, nI_neM', il_31]
  by_cases e : n = 0
  · rw [if_pos (by omega), if_pos e]
  · rw [if_neg (by omega), if_neg e]
theorem L_length {σ : Sg} {d : Dt} {n : Nat} (h1 : 1 ≤ n) (h2 : n < 10000) : f_L_length σ (nI n) d = some (nI (figs n), d) := by
  have hFU : aw_FU = 4995 + 1 + 1 + 1 + 1 + 1 := rfl
  simp only [f_L_length, il_0]
  rw [hFU, L_len1 _ _ _ (by omega), if_neg (by omega), L_len1 _ _ _ (by omega)]
  unfold figs
  by_cases e1 : n < 10
  · rw [if_pos e1, if_pos (by omega)]
  · rw [if_neg e1, if_neg (by omega), L_len1 _ _ _ (by omega)]
    by_cases e2 : n < 100
    · rw [if_pos e2, if_pos (by omega)]
    · rw [if_neg e2, if_neg (by omega), L_len1 _ _ _ (by omega)]
      by_cases e3 : n < 1000
      · rw [if_pos e3, if_pos (by omega)]
      · rw [if_neg e3, if_neg (by omega), L_len1 _ _ _ (by omega), if_pos (by omega)]
/-! travel -/
theorem abs_p {a b : Nat} (ha : a < 50) (hb : b < 50) (h : nI a - nI b ≤ nI 0) : -(nI a - nI b) = nI (adf a b) := (by decide +kernel : ∀ a, a < 50 → ∀ b, b < 50 → nI a - nI b ≤ nI 0 → -(nI a - nI b) = nI (adf a b)) a ha b hb h
theorem abs_n {a b : Nat} (ha : a < 50) (hb : b < 50) (h : ¬ nI a - nI b ≤ nI 0) : nI a - nI b = nI (adf a b) := (by decide +kernel : ∀ a, a < 50 → ∀ b, b < 50 → ¬ nI a - nI b ≤ nI 0 → nI a - nI b = nI (adf a b)) a ha b hb h
theorem anyR0 (p : Nat → Bool) : bI (anyR p 0) = nI 0 := rfl
theorem anyR1 (p : Nat → Bool) : bI (!anyR p 0) = nI 1 := rfl
theorem atI_t {l : List Nat} {k : Nat} (h : k < l.length) : atI l k = nI (l.getD k 0) := if_pos h
theorem L_travel_L17 {A : St} {σ : Sg} {d : Dt} {D x : Nat} (hS : Lay σ) (hW : WF A) (hQ : RepQ A d) (hD : D < A 11 0 0) (hx : x = 275 ∨ x = 276) (hsp : Spx A D (A 13 0 D) x d) {r : Nat} (hr : r = 270 ∨ r = 271) (hK : ∀ s, s < 50 → d.1 r s = nI (A 16 D s)) {w c : Nat} (hw : w < A 2 0 0) {k : Int32 → Dt → Option (Int32 × Dt)} : ∀ (m i f : Nat), i + m = (own A D w).length - 1 → m < f → f_L_travel_L17 σ f k r x 266 274 (nI w) (nI (c + sumR (fun k => A 5 0 w * adf (A 16 D ((own A D w).getD (k + 1) 0)) (A 16 D ((own A D w).getD k 0))) i)) (nI (i + 1)) d = k (nI (c + sumR (fun k => A 5 0 w * adf (A 16 D ((own A D w).getD (k + 1) 0)) (A 16 D ((own A D w).getD k 0))) ((own A D w).length - 1))) d := by
  have hw6 := hQ.w6
  have hb := (hW.G hD).2.1
  have qn := rq_words hQ
  have hwr := own_wrd hW hD hw
  have hlen := own_len hW D hw
  have h16 := hwr.1
  have qm := L_many hS hx (show w < 6 by omega) (hsp w hw) hwr
  have em : (sp A D (A 13 0 D) w).length = (own A D w).length := rfl
  rw [em] at qm
  intro m
  induction m with
  | zero =>
    intro i f hi hf
    cases f with
    | zero => omega
    | succ f =>
      have hiN : i = (own A D w).length - 1 := by omega
      show f_L_travel_B17 σ (f_L_travel_L17 σ f k r x 266 274 (nI w)) k r x 266 274 (nI w) (nI (c + sumR (fun k => A 5 0 w * adf (A 16 D ((own A D w).getD (k + 1) 0)) (A 16 D ((own A D w).getD k 0))) i)) (nI (i + 1)) d = _
      simp (disch := first | assumption | omega) only [f_L_travel_B17, qm, lo_0 hS, lo_1 hS, lo_33 hS, lo_34 hS, lo_89 hS, lo_100 hS, lo_123 hS, lo_146 hS, lo_148 hS, lo_176 hS, lo_182 hS, lo_D hS, lo_G hS, lr_37 hS, lr_93 hS, lr_101 hS, lr_124 hS, lr_152 hS, lr_169 hS, lr_0_0 hS, lr_0_1 hS, lr_0_2 hS, lr_0_3 hS, lr_0_5 hS, lr_0_6 hS, lr_0_7 hS, lr_0_8 hS, lr_0_9 hS, lr_0_10 hS, lr_0_11 hS, lr_0_12 hS, lr_1_0 hS, lr_1_2 hS, lr_33_0 hS, lr_33_1 hS, lr_33_2 hS, lr_33_3 hS, lr_34_0 hS, lr_89_0 hS, lr_89_1 hS, lr_89_2 hS, lr_89_3 hS, lr_89_4 hS, lr_89_5 hS, lr_100_0 hS, lr_100_1 hS, lr_123_0 hS, lr_123_1 hS, lr_146_0 hS, lr_148_0 hS, lr_148_1 hS, lr_148_2 hS, lr_148_3 hS, lr_148_4 hS, lr_148_5 hS, lr_176_0 hS, lr_176_1 hS, lr_176_4 hS, lr_176_6 hS, lr_176_7 hS, lr_182_0 hS, lr_D_0 hS, lr_D_1 hS, lr_D_2 hS, lr_D_3 hS, lr_D_5 hS, lr_D_6 hS, lr_D_r hS, lr_31 hS, lr_32 hS, lr_G_2 hS, lr_G_3 hS, lr_G_4 hS, li_2 hS, li_3 hS, li_31 hS, li_32 hS, li_35 hS, li_36 hS, li_37 hS, li_88 hS, li_90 hS, li_91 hS, li_92 hS, li_93 hS, li_98 hS, li_99 hS, li_101 hS, li_122 hS, li_124 hS, li_145 hS, li_147 hS, li_149 hS, li_150 hS, li_151 hS, li_152 hS, li_169 hS, li_175 hS, li_177 hS, li_178 hS, li_179 hS, li_180 hS, li_181 hS, li_183 hS, li_265 hS, li_266 hS, li_267 hS, li_268 hS, li_269 hS, li_270 hS, li_271 hS, li_272 hS, li_273 hS, li_274 hS, li_275 hS, li_276 hS, li_38 hS, li_94 hS, li_102 hS, li_125 hS, li_153 hS, li_170 hS, li_D_1 hS, li_D_2 hS, li_D_3 hS, li_D_4 hS, li_D_5 hS, li_D_26 hS, li_D_r hS, li_G_1 hS, li_G_2 hS, li_G_3 hS, li_rA hS, li_rK hS, li_rX hS, il_0, il_1, il_2, il_3, il_4, il_5, il_6, il_7, il_8, il_9, il_10, il_11, il_12, il_13, il_15, il_16, il_17, il_18, il_19, il_20, il_21, il_22, il_23, il_24, il_26, il_27, il_28, il_30, il_32, il_34, il_36, il_38, il_40, il_43, il_44, il_46, il_47, il_48, il_49, il_50, il_51, il_60, il_64, il_100, il_108, il_111, il_127, il_971, il_972, il_999, il_1000, il_1024, il_1087, il_2500, il_5000, il_9999, il_60000, il_2147483647, nI_add, nI_mulI, nI_subI, nI_divI, nI_cl, nI_leJ, nI_ltJ, nI_eqJ, nI_neM, nI_neM', il_31, aw_sI_e, aw_sI_n, aw_sI_2, aw_sL_e, aw_sL_n, aw_sL_1, Option.bind_some, aw_chkT, ck_and0, ck_and1, bI_t, bI_f, nar_0, nar_1]
      rw [if_pos (by omega)]
      rw [hiN]
  | succ m ih =>
    intro i f hi hf
    cases f with
    | zero => omega
    | succ f =>
      have hlt : i < (own A D w).length - 1 := by omega
      have qs1 := L_sign (k := i + 1) hS hx (show w < 6 by omega) (hsp w hw) hwr (by omega)
      have qs0 := L_sign (k := i) hS hx (show w < 6 by omega) (hsp w hw) hwr (by omega)
      have es : sp A D (A 13 0 D) w = own A D w := rfl
      rw [es, atI_t (by omega)] at qs1 qs0
      have g1 := hwr.g (i + 1)
      have g0 := hwr.g i
      have qk1 := hK _ g1
      have qk0 := hK _ g0
      have k1 := (hW.G hD).2.2.2.2 _ g1
      have k0 := (hW.G hD).2.2.2.2 _ g0
      have qw := rq_wt hQ hw
      have hw14 : 8 + w < 64 := by omega
      rw [← ih (i + 1) f (by omega) (by omega)]
      have e : sumR (fun k => A 5 0 w * adf (A 16 D ((own A D w).getD (k + 1) 0)) (A 16 D ((own A D w).getD k 0))) (i + 1) = sumR (fun k => A 5 0 w * adf (A 16 D ((own A D w).getD (k + 1) 0)) (A 16 D ((own A D w).getD k 0))) i + A 5 0 w * adf (A 16 D ((own A D w).getD (i + 1) 0)) (A 16 D ((own A D w).getD i 0)) := rfl
      rw [e]
      show f_L_travel_B17 σ (f_L_travel_L17 σ f k r x 266 274 (nI w)) k r x 266 274 (nI w) (nI (c + sumR (fun k => A 5 0 w * adf (A 16 D ((own A D w).getD (k + 1) 0)) (A 16 D ((own A D w).getD k 0))) i)) (nI (i + 1)) d = _
      simp (disch := first | assumption | omega) only [f_L_travel_B17, qm, qs1, qs0, qk1, qk0, qw, Nat.add_sub_cancel, lo_0 hS, lo_1 hS, lo_33 hS, lo_34 hS, lo_89 hS, lo_100 hS, lo_123 hS, lo_146 hS, lo_148 hS, lo_176 hS, lo_182 hS, lo_D hS, lo_G hS, lr_37 hS, lr_93 hS, lr_101 hS, lr_124 hS, lr_152 hS, lr_169 hS, lr_0_0 hS, lr_0_1 hS, lr_0_2 hS, lr_0_3 hS, lr_0_5 hS, lr_0_6 hS, lr_0_7 hS, lr_0_8 hS, lr_0_9 hS, lr_0_10 hS, lr_0_11 hS, lr_0_12 hS, lr_1_0 hS, lr_1_2 hS, lr_33_0 hS, lr_33_1 hS, lr_33_2 hS, lr_33_3 hS, lr_34_0 hS, lr_89_0 hS, lr_89_1 hS, lr_89_2 hS, lr_89_3 hS, lr_89_4 hS, lr_89_5 hS, lr_100_0 hS, lr_100_1 hS, lr_123_0 hS, lr_123_1 hS, lr_146_0 hS, lr_148_0 hS, lr_148_1 hS, lr_148_2 hS, lr_148_3 hS, lr_148_4 hS, lr_148_5 hS, lr_176_0 hS, lr_176_1 hS, lr_176_4 hS, lr_176_6 hS, lr_176_7 hS, lr_182_0 hS, lr_D_0 hS, lr_D_1 hS, lr_D_2 hS, lr_D_3 hS, lr_D_5 hS, lr_D_6 hS, lr_D_r hS, lr_31 hS, lr_32 hS, lr_G_2 hS, lr_G_3 hS, lr_G_4 hS, li_2 hS, li_3 hS, li_31 hS, li_32 hS, li_35 hS, li_36 hS, li_37 hS, li_88 hS, li_90 hS, li_91 hS, li_92 hS, li_93 hS, li_98 hS, li_99 hS, li_101 hS, li_122 hS, li_124 hS, li_145 hS, li_147 hS, li_149 hS, li_150 hS, li_151 hS, li_152 hS, li_169 hS, li_175 hS, li_177 hS, li_178 hS, li_179 hS, li_180 hS, li_181 hS, li_183 hS, li_265 hS, li_266 hS, li_267 hS, li_268 hS, li_269 hS, li_270 hS, li_271 hS, li_272 hS, li_273 hS, li_274 hS, li_275 hS, li_276 hS, li_38 hS, li_94 hS, li_102 hS, li_125 hS, li_153 hS, li_170 hS, li_D_1 hS, li_D_2 hS, li_D_3 hS, li_D_4 hS, li_D_5 hS, li_D_26 hS, li_D_r hS, li_G_1 hS, li_G_2 hS, li_G_3 hS, li_rA hS, li_rK hS, li_rX hS, il_0, il_1, il_2, il_3, il_4, il_5, il_6, il_7, il_8, il_9, il_10, il_11, il_12, il_13, il_15, il_16, il_17, il_18, il_19, il_20, il_21, il_22, il_23, il_24, il_26, il_27, il_28, il_30, il_32, il_34, il_36, il_38, il_40, il_43, il_44, il_46, il_47, il_48, il_49, il_50, il_51, il_60, il_64, il_100, il_108, il_111, il_127, il_971, il_972, il_999, il_1000, il_1024, il_1087, il_2500, il_5000, il_9999, il_60000, il_2147483647, nI_add, nI_mulI, nI_subI, nI_divI, nI_cl, nI_leJ, nI_ltJ, nI_eqJ, nI_neM, nI_neM', il_31, aw_sI_e, aw_sI_n, aw_sI_2, aw_sL_e, aw_sL_n, aw_sL_1, Option.bind_some, aw_chkT, ck_and0, ck_and1, bI_t, bI_f, nar_0, nar_1]
      rw [if_neg (by omega)]
      by_cases ho : nI (A 16 D ((own A D w).getD (i + 1) 0)) - nI (A 16 D ((own A D w).getD i 0)) ≤ nI 0
      · rw [if_pos ho, abs_p k1 k0 ho]
        simp only [f_L_travel_J75, nI_mulI, nI_add, il_1, Nat.add_assoc]
      · rw [if_neg ho, abs_n k1 k0 ho]
        simp only [f_L_travel_J75, nI_mulI, nI_add, il_1, Nat.add_assoc]

theorem L_travel_L6 {A : St} {σ : Sg} {d : Dt} {D x : Nat} (hS : Lay σ) (hW : WF A) (hQ : RepQ A d) (hD : D < A 11 0 0) (hx : x = 275 ∨ x = 276) (hsp : Spx A D (A 13 0 D) x d) {r : Nat} (hr : r = 270 ∨ r = 271) (hK : ∀ s, s < 50 → d.1 r s = nI (A 16 D s)) {k : Int32 → Dt → Option (Int32 × Dt)} : ∀ (m i f : Nat), i + m = A 2 0 0 → m < f → f_L_travel_L6 σ f k r x 266 274 (nI (sumR (fun w => sumR (fun k => A 5 0 w * adf (A 16 D ((own A D w).getD (k + 1) 0)) (A 16 D ((own A D w).getD k 0))) ((own A D w).length - 1)) i)) (nI i) d = k (nI (travK A D (A 16 D))) d := by
  have hw6 := hQ.w6
  have hb := (hW.G hD).2.1
  have qn := rq_words hQ
  intro m
  induction m with
  | zero =>
    intro i f hi hf
    cases f with
    | zero => omega
    | succ f =>
      have hiN : i = A 2 0 0 := by omega
      show f_L_travel_B6 σ (f_L_travel_L6 σ f k r x 266 274) k r x 266 274 (nI (sumR (fun w => sumR (fun k => A 5 0 w * adf (A 16 D ((own A D w).getD (k + 1) 0)) (A 16 D ((own A D w).getD k 0))) ((own A D w).length - 1)) i)) (nI i) d = _
      simp (disch := first | assumption | omega) only [f_L_travel_B6, qn, lo_0 hS, lo_1 hS, lo_33 hS, lo_34 hS, lo_89 hS, lo_100 hS, lo_123 hS, lo_146 hS, lo_148 hS, lo_176 hS, lo_182 hS, lo_D hS, lo_G hS, lr_37 hS, lr_93 hS, lr_101 hS, lr_124 hS, lr_152 hS, lr_169 hS, lr_0_0 hS, lr_0_1 hS, lr_0_2 hS, lr_0_3 hS, lr_0_5 hS, lr_0_6 hS, lr_0_7 hS, lr_0_8 hS, lr_0_9 hS, lr_0_10 hS, lr_0_11 hS, lr_0_12 hS, lr_1_0 hS, lr_1_2 hS, lr_33_0 hS, lr_33_1 hS, lr_33_2 hS, lr_33_3 hS, lr_34_0 hS, lr_89_0 hS, lr_89_1 hS, lr_89_2 hS, lr_89_3 hS, lr_89_4 hS, lr_89_5 hS, lr_100_0 hS, lr_100_1 hS, lr_123_0 hS, lr_123_1 hS, lr_146_0 hS, lr_148_0 hS, lr_148_1 hS, lr_148_2 hS, lr_148_3 hS, lr_148_4 hS, lr_148_5 hS, lr_176_0 hS, lr_176_1 hS, lr_176_4 hS, lr_176_6 hS, lr_176_7 hS, lr_182_0 hS, lr_D_0 hS, lr_D_1 hS, lr_D_2 hS, lr_D_3 hS, lr_D_5 hS, lr_D_6 hS, lr_D_r hS, lr_31 hS, lr_32 hS, lr_G_2 hS, lr_G_3 hS, lr_G_4 hS, li_2 hS, li_3 hS, li_31 hS, li_32 hS, li_35 hS, li_36 hS, li_37 hS, li_88 hS, li_90 hS, li_91 hS, li_92 hS, li_93 hS, li_98 hS, li_99 hS, li_101 hS, li_122 hS, li_124 hS, li_145 hS, li_147 hS, li_149 hS, li_150 hS, li_151 hS, li_152 hS, li_169 hS, li_175 hS, li_177 hS, li_178 hS, li_179 hS, li_180 hS, li_181 hS, li_183 hS, li_265 hS, li_266 hS, li_267 hS, li_268 hS, li_269 hS, li_270 hS, li_271 hS, li_272 hS, li_273 hS, li_274 hS, li_275 hS, li_276 hS, li_38 hS, li_94 hS, li_102 hS, li_125 hS, li_153 hS, li_170 hS, li_D_1 hS, li_D_2 hS, li_D_3 hS, li_D_4 hS, li_D_5 hS, li_D_26 hS, li_D_r hS, li_G_1 hS, li_G_2 hS, li_G_3 hS, li_rA hS, li_rK hS, li_rX hS, il_0, il_1, il_2, il_3, il_4, il_5, il_6, il_7, il_8, il_9, il_10, il_11, il_12, il_13, il_15, il_16, il_17, il_18, il_19, il_20, il_21, il_22, il_23, il_24, il_26, il_27, il_28, il_30, il_32, il_34, il_36, il_38, il_40, il_43, il_44, il_46, il_47, il_48, il_49, il_50, il_51, il_60, il_64, il_100, il_108, il_111, il_127, il_971, il_972, il_999, il_1000, il_1024, il_1087, il_2500, il_5000, il_9999, il_60000, il_2147483647, nI_add, nI_mulI, nI_subI, nI_divI, nI_cl, nI_leJ, nI_ltJ, nI_eqJ, nI_neM, nI_neM', il_31, aw_sI_e, aw_sI_n, aw_sI_2, aw_sL_e, aw_sL_n, aw_sL_1, Option.bind_some, aw_chkT, ck_and0, ck_and1, bI_t, bI_f, nar_0, nar_1]
      rw [if_pos (by omega)]
      rw [hiN]
      rfl
  | succ m ih =>
    intro i f hi hf
    cases f with
    | zero => omega
    | succ f =>
      have hlt : i < A 2 0 0 := by omega
      show f_L_travel_B6 σ (f_L_travel_L6 σ f k r x 266 274) k r x 266 274 (nI (sumR (fun w => sumR (fun k => A 5 0 w * adf (A 16 D ((own A D w).getD (k + 1) 0)) (A 16 D ((own A D w).getD k 0))) ((own A D w).length - 1)) i)) (nI i) d = _
      simp (disch := first | assumption | omega) only [f_L_travel_B6, qn, lo_0 hS, lo_1 hS, lo_33 hS, lo_34 hS, lo_89 hS, lo_100 hS, lo_123 hS, lo_146 hS, lo_148 hS, lo_176 hS, lo_182 hS, lo_D hS, lo_G hS, lr_37 hS, lr_93 hS, lr_101 hS, lr_124 hS, lr_152 hS, lr_169 hS, lr_0_0 hS, lr_0_1 hS, lr_0_2 hS, lr_0_3 hS, lr_0_5 hS, lr_0_6 hS, lr_0_7 hS, lr_0_8 hS, lr_0_9 hS, lr_0_10 hS, lr_0_11 hS, lr_0_12 hS, lr_1_0 hS, lr_1_2 hS, lr_33_0 hS, lr_33_1 hS, lr_33_2 hS, lr_33_3 hS, lr_34_0 hS, lr_89_0 hS, lr_89_1 hS, lr_89_2 hS, lr_89_3 hS, lr_89_4 hS, lr_89_5 hS, lr_100_0 hS, lr_100_1 hS, lr_123_0 hS, lr_123_1 hS, lr_146_0 hS, lr_148_0 hS, lr_148_1 hS, lr_148_2 hS, lr_148_3 hS, lr_148_4 hS, lr_148_5 hS, lr_176_0 hS, lr_176_1 hS, lr_176_4 hS, lr_176_6 hS, lr_176_7 hS, lr_182_0 hS, lr_D_0 hS, lr_D_1 hS, lr_D_2 hS, lr_D_3 hS, lr_D_5 hS, lr_D_6 hS, lr_D_r hS, lr_31 hS, lr_32 hS, lr_G_2 hS, lr_G_3 hS, lr_G_4 hS, li_2 hS, li_3 hS, li_31 hS, li_32 hS, li_35 hS, li_36 hS, li_37 hS, li_88 hS, li_90 hS, li_91 hS, li_92 hS, li_93 hS, li_98 hS, li_99 hS, li_101 hS, li_122 hS, li_124 hS, li_145 hS, li_147 hS, li_149 hS, li_150 hS, li_151 hS, li_152 hS, li_169 hS, li_175 hS, li_177 hS, li_178 hS, li_179 hS, li_180 hS, li_181 hS, li_183 hS, li_265 hS, li_266 hS, li_267 hS, li_268 hS, li_269 hS, li_270 hS, li_271 hS, li_272 hS, li_273 hS, li_274 hS, li_275 hS, li_276 hS, li_38 hS, li_94 hS, li_102 hS, li_125 hS, li_153 hS, li_170 hS, li_D_1 hS, li_D_2 hS, li_D_3 hS, li_D_4 hS, li_D_5 hS, li_D_26 hS, li_D_r hS, li_G_1 hS, li_G_2 hS, li_G_3 hS, li_rA hS, li_rK hS, li_rX hS, il_0, il_1, il_2, il_3, il_4, il_5, il_6, il_7, il_8, il_9, il_10, il_11, il_12, il_13, il_15, il_16, il_17, il_18, il_19, il_20, il_21, il_22, il_23, il_24, il_26, il_27, il_28, il_30, il_32, il_34, il_36, il_38, il_40, il_43, il_44, il_46, il_47, il_48, il_49, il_50, il_51, il_60, il_64, il_100, il_108, il_111, il_127, il_971, il_972, il_999, il_1000, il_1024, il_1087, il_2500, il_5000, il_9999, il_60000, il_2147483647, nI_add, nI_mulI, nI_subI, nI_divI, nI_cl, nI_leJ, nI_ltJ, nI_eqJ, nI_neM, nI_neM', il_31, aw_sI_e, aw_sI_n, aw_sI_2, aw_sL_e, aw_sL_n, aw_sL_1, Option.bind_some, aw_chkT, ck_and0, ck_and1, bI_t, bI_f, nar_0, nar_1]
      rw [if_neg (by omega)]
      have h16 := (own_wrd hW hD hlt).1
      have h := fun (kk : Int32 → Dt → Option (Int32 × Dt)) => L_travel_L17 (k := kk) (c := sumR (fun w => sumR (fun k => A 5 0 w * adf (A 16 D ((own A D w).getD (k + 1) 0)) (A 16 D ((own A D w).getD k 0))) ((own A D w).length - 1)) i) hS hW hQ hD hx hsp hr hK hlt ((own A D i).length - 1) 0 aw_FU (by omega) (by show _ < 5000; omega)
      have e0 : ∀ g : Nat → Nat, sumR g 0 = 0 := fun _ => rfl
      simp only [e0, Nat.add_zero, Nat.zero_add] at h
      rw [h]
      exact ih (i + 1) f (by omega) (by omega)

theorem L_travel {A : St} {σ : Sg} {d : Dt} {D x : Nat} (hS : Lay σ) (hW : WF A) (hQ : RepQ A d) (hD : D < A 11 0 0) (hx : x = 275 ∨ x = 276) (hsp : Spx A D (A 13 0 D) x d) {r : Nat} (hr : r = 270 ∨ r = 271) (hK : ∀ s, s < 50 → d.1 r s = nI (A 16 D s)) : f_L_travel σ r x 266 274 d = some (nI (travK A D (A 16 D)), d) := by
  have hw6 := hQ.w6
  simp only [f_L_travel, il_0]
  exact L_travel_L6 (k := fun x d => some (x, d)) hS hW hQ hD hx hsp hr hK (A 2 0 0) 0 aw_FU (by omega) (by show _ < 5000; omega)
theorem L_hasSign_L9 {σ : Sg} {d : Dt} {x w mm : Nat} {v : Int32} {l : List Nat} (hS : Lay σ) (hx : x = 275 ∨ x = 276) (hw : w < 6) (h : Lx d x w l) (hl : wrd l) (hm : mm < 9223372036854775808) {k : Int32 → Int32 → Dt → Option (Int32 × Dt)} : ∀ (m i f : Nat), i + m = l.length → m < f → f_L_hasSign_L9 σ f k x (nI w) v (nL mm) (bI (anyR (fun k => decide (nI (l.getD k 0) = v)) i)) (bI (!anyR (fun k => !mm.testBit (l.getD k 0)) i)) (nI i) d = k (bI (anyR (fun k => decide (nI (l.getD k 0) = v)) l.length)) (bI (!anyR (fun k => !mm.testBit (l.getD k 0)) l.length)) d := by
  have h16 := hl.1
  have qm := L_many hS hx hw h hl
  intro m
  induction m with
  | zero =>
    intro i f hi hf
    cases f with
    | zero => omega
    | succ f =>
      have hiN : i = l.length := by omega
      show f_L_hasSign_B9 σ (f_L_hasSign_L9 σ f k x (nI w) v (nL mm)) k x (nI w) v (nL mm) (bI (anyR (fun k => decide (nI (l.getD k 0) = v)) i)) (bI (!anyR (fun k => !mm.testBit (l.getD k 0)) i)) (nI i) d = _
      simp (disch := first | assumption | omega) only [f_L_hasSign_B9, qm, lo_0 hS, lo_1 hS, lo_33 hS, lo_34 hS, lo_89 hS, lo_100 hS, lo_123 hS, lo_146 hS, lo_148 hS, lo_176 hS, lo_182 hS, lo_D hS, lo_G hS, lr_37 hS, lr_93 hS, lr_101 hS, lr_124 hS, lr_152 hS, lr_169 hS, lr_0_0 hS, lr_0_1 hS, lr_0_2 hS, lr_0_3 hS, lr_0_5 hS, lr_0_6 hS, lr_0_7 hS, lr_0_8 hS, lr_0_9 hS, lr_0_10 hS, lr_0_11 hS, lr_0_12 hS, lr_1_0 hS, lr_1_2 hS, lr_33_0 hS, lr_33_1 hS, lr_33_2 hS, lr_33_3 hS, lr_34_0 hS, lr_89_0 hS, lr_89_1 hS, lr_89_2 hS, lr_89_3 hS, lr_89_4 hS, lr_89_5 hS, lr_100_0 hS, lr_100_1 hS, lr_123_0 hS, lr_123_1 hS, lr_146_0 hS, lr_148_0 hS, lr_148_1 hS, lr_148_2 hS, lr_148_3 hS, lr_148_4 hS, lr_148_5 hS, lr_176_0 hS, lr_176_1 hS, lr_176_4 hS, lr_176_6 hS, lr_176_7 hS, lr_182_0 hS, lr_D_0 hS, lr_D_1 hS, lr_D_2 hS, lr_D_3 hS, lr_D_5 hS, lr_D_6 hS, lr_D_r hS, lr_31 hS, lr_32 hS, lr_G_2 hS, lr_G_3 hS, lr_G_4 hS, li_2 hS, li_3 hS, li_31 hS, li_32 hS, li_35 hS, li_36 hS, li_37 hS, li_88 hS, li_90 hS, li_91 hS, li_92 hS, li_93 hS, li_98 hS, li_99 hS, li_101 hS, li_122 hS, li_124 hS, li_145 hS, li_147 hS, li_149 hS, li_150 hS, li_151 hS, li_152 hS, li_169 hS, li_175 hS, li_177 hS, li_178 hS, li_179 hS, li_180 hS, li_181 hS, li_183 hS, li_265 hS, li_266 hS, li_267 hS, li_268 hS, li_269 hS, li_270 hS, li_271 hS, li_272 hS, li_273 hS, li_274 hS, li_275 hS, li_276 hS, li_38 hS, li_94 hS, li_102 hS, li_125 hS, li_153 hS, li_170 hS, li_D_1 hS, li_D_2 hS, li_D_3 hS, li_D_4 hS, li_D_5 hS, li_D_26 hS, li_D_r hS, li_G_1 hS, li_G_2 hS, li_G_3 hS, li_rA hS, li_rK hS, li_rX hS, il_0, il_1, il_2, il_3, il_4, il_5, il_6, il_7, il_8, il_9, il_10, il_11, il_12, il_13, il_15, il_16, il_17, il_18, il_19, il_20, il_21, il_22, il_23, il_24, il_26, il_27, il_28, il_30, il_32, il_34, il_36, il_38, il_40, il_43, il_44, il_46, il_47, il_48, il_49, il_50, il_51, il_60, il_64, il_100, il_108, il_111, il_127, il_971, il_972, il_999, il_1000, il_1024, il_1087, il_2500, il_5000, il_9999, il_60000, il_2147483647, nI_add, nI_mulI, nI_subI, nI_divI, nI_cl, nI_leJ, nI_ltJ, nI_eqJ, nI_neM, nI_neM', il_31, aw_sI_e, aw_sI_n, aw_sI_2, aw_sL_e, aw_sL_n, aw_sL_1, Option.bind_some, aw_chkT, ck_and0, ck_and1, bI_t, bI_f, nar_0, nar_1]
      rw [if_pos (by omega)]
      rw [hiN]
  | succ m ih =>
    intro i f hi hf
    cases f with
    | zero => omega
    | succ f =>
      have hlt : i < l.length := by omega
      have qs := L_sign (k := i) hS hx hw h hl (by omega)
      rw [atI_t hlt] at qs
      have g0 := hl.g i
      have hh := nL_has (m := mm) (s := l.getD i 0) hm (by omega)
      have e1 : anyR (fun k => decide (nI (l.getD k 0) = v)) (i + 1) = (anyR (fun k => decide (nI (l.getD k 0) = v)) i || decide (nI (l.getD i 0) = v)) := rfl
      have e2 : anyR (fun k => !mm.testBit (l.getD k 0)) (i + 1) = (anyR (fun k => !mm.testBit (l.getD k 0)) i || !mm.testBit (l.getD i 0)) := rfl
      rw [← ih (i + 1) f (by omega) (by omega), e1, e2]
      have hJ : ∀ t : Bool, f_L_hasSign_J40 σ (f_L_hasSign_L9 σ f k x (nI w) v (nL mm)) (bI t) x (nI w) v (nL mm) (bI (!anyR (fun k => !mm.testBit (l.getD k 0)) i)) (nI i) d = f_L_hasSign_L9 σ f k x (nI w) v (nL mm) (bI t) (bI (!(anyR (fun k => !mm.testBit (l.getD k 0)) i || !mm.testBit (l.getD i 0)))) (nI (i + 1)) d := by
        intro t
        unfold f_L_hasSign_J40
        simp only [qs, Option.bind_some, nI_L (show l.getD i 0 < 2147483648 by omega), jl_63, jl_1, hh, il_0, lgc0]
        rw [if_bI]
        cases anyR (fun k => !mm.testBit (l.getD k 0)) i
        · simp only [Bool.not_false, if_true, Bool.false_or]
          cases hb : mm.testBit (l.getD i 0)
          · rw [if_neg (by decide)]
            simp only [f_L_hasSign_J67, f_L_hasSign_J68, il_0, il_1, nI_add, Bool.not_false, Bool.not_true]; rfl
          · rw [if_pos (by rfl)]
            simp only [f_L_hasSign_J67, f_L_hasSign_J68, il_0, il_1, nI_add, Bool.not_false, Bool.not_true]; rfl
        · simp only [Bool.not_true, Bool.false_eq_true, if_false, Bool.true_or]
          simp only [f_L_hasSign_J67, f_L_hasSign_J68, il_0, il_1, nI_add]; rfl
      show f_L_hasSign_B9 σ (f_L_hasSign_L9 σ f k x (nI w) v (nL mm)) k x (nI w) v (nL mm) (bI (anyR (fun k => decide (nI (l.getD k 0) = v)) i)) (bI (!anyR (fun k => !mm.testBit (l.getD k 0)) i)) (nI i) d = _
      simp (disch := first | assumption | omega) only [f_L_hasSign_B9, qm, qs, lo_0 hS, lo_1 hS, lo_33 hS, lo_34 hS, lo_89 hS, lo_100 hS, lo_123 hS, lo_146 hS, lo_148 hS, lo_176 hS, lo_182 hS, lo_D hS, lo_G hS, lr_37 hS, lr_93 hS, lr_101 hS, lr_124 hS, lr_152 hS, lr_169 hS, lr_0_0 hS, lr_0_1 hS, lr_0_2 hS, lr_0_3 hS, lr_0_5 hS, lr_0_6 hS, lr_0_7 hS, lr_0_8 hS, lr_0_9 hS, lr_0_10 hS, lr_0_11 hS, lr_0_12 hS, lr_1_0 hS, lr_1_2 hS, lr_33_0 hS, lr_33_1 hS, lr_33_2 hS, lr_33_3 hS, lr_34_0 hS, lr_89_0 hS, lr_89_1 hS, lr_89_2 hS, lr_89_3 hS, lr_89_4 hS, lr_89_5 hS, lr_100_0 hS, lr_100_1 hS, lr_123_0 hS, lr_123_1 hS, lr_146_0 hS, lr_148_0 hS, lr_148_1 hS, lr_148_2 hS, lr_148_3 hS, lr_148_4 hS, lr_148_5 hS, lr_176_0 hS, lr_176_1 hS, lr_176_4 hS, lr_176_6 hS, lr_176_7 hS, lr_182_0 hS, lr_D_0 hS, lr_D_1 hS, lr_D_2 hS, lr_D_3 hS, lr_D_5 hS, lr_D_6 hS, lr_D_r hS, lr_31 hS, lr_32 hS, lr_G_2 hS, lr_G_3 hS, lr_G_4 hS, li_2 hS, li_3 hS, li_31 hS, li_32 hS, li_35 hS, li_36 hS, li_37 hS, li_88 hS, li_90 hS, li_91 hS, li_92 hS, li_93 hS, li_98 hS, li_99 hS, li_101 hS, li_122 hS, li_124 hS, li_145 hS, li_147 hS, li_149 hS, li_150 hS, li_151 hS, li_152 hS, li_169 hS, li_175 hS, li_177 hS, li_178 hS, li_179 hS, li_180 hS, li_181 hS, li_183 hS, li_265 hS, li_266 hS, li_267 hS, li_268 hS, li_269 hS, li_270 hS, li_271 hS, li_272 hS, li_273 hS, li_274 hS, li_275 hS, li_276 hS, li_38 hS, li_94 hS, li_102 hS, li_125 hS, li_153 hS, li_170 hS, li_D_1 hS, li_D_2 hS, li_D_3 hS, li_D_4 hS, li_D_5 hS, li_D_26 hS, li_D_r hS, li_G_1 hS, li_G_2 hS, li_G_3 hS, li_rA hS, li_rK hS, li_rX hS, il_0, il_1, il_2, il_3, il_4, il_5, il_6, il_7, il_8, il_9, il_10, il_11, il_12, il_13, il_15, il_16, il_17, il_18, il_19, il_20, il_21, il_22, il_23, il_24, il_26, il_27, il_28, il_30, il_32, il_34, il_36, il_38, il_40, il_43, il_44, il_46, il_47, il_48, il_49, il_50, il_51, il_60, il_64, il_100, il_108, il_111, il_127, il_971, il_972, il_999, il_1000, il_1024, il_1087, il_2500, il_5000, il_9999, il_60000, il_2147483647, nI_add, nI_mulI, nI_subI, nI_divI, nI_cl, nI_leJ, nI_ltJ, nI_eqJ, nI_neM, nI_neM', il_31, aw_sI_e, aw_sI_n, aw_sI_2, aw_sL_e, aw_sL_n, aw_sL_1, Option.bind_some, aw_chkT, ck_and0, ck_and1, bI_t, bI_f, nar_0, nar_1]
      rw [if_neg (by omega)]
      rw [if_bI]
      cases anyR (fun k => decide (nI (l.getD k 0) = v)) i
      · rw [if_neg (by decide)]
        by_cases e : nI (l.getD i 0) = v
        · rw [if_pos e, decide_eq_true e]
          simp only [f_L_hasSign_J35, il_1]
          exact hJ true
        · rw [if_neg e, decide_eq_false e]
          exact hJ false
      · rw [if_pos rfl]
        simp only [f_L_hasSign_J35, il_1, Bool.true_or]
        exact hJ true

theorem L_hasSign {σ : Sg} {d : Dt} {x w mm s : Nat} {l : List Nat} (hS : Lay σ) (hx : x = 275 ∨ x = 276) (hw : w < 6) (h : Lx d x w l) (hl : wrd l) (hm : mm < 9223372036854775808) (hs : s < 50) : f_L_hasSign σ x (nI w) (nI s) (nL mm) d = some (bI (anyR (fun k => decide (l.getD k 0 = s)) l.length), d) := by
  have h16 := hl.1
  have hh := L_hasSign_L9 (v := nI s) (k := fun x5_7 x6_8 d_9 => if 0 ≤ nI s then f_L_hasSign_J87 σ x5_7 d_9 else f_L_hasSign_J87 σ x6_8 d_9) hS hx hw h hl hm l.length 0 aw_FU (by omega) (by show _ < 5000; omega)
  simp only [f_L_hasSign, il_0, il_1]
  simp only [il_0, anyR0, anyR1] at hh
  refine Eq.trans hh ?_
  rw [if_pos (by rw [nI_leJ (by omega) (by omega)]; omega), anyR_cg (q := fun k => decide (l.getD k 0 = s)) (fun u hu => decide_eq_decide.mpr (by rw [nI_eqJ (by have := hl.g u; omega) (by omega)]))]
  have e := bI_and (anyR (fun k => decide (l.getD k 0 = s)) l.length)
  simp only [f_L_hasSign_J87, il_1, e, aw_chkT]
theorem L_hasAll {σ : Sg} {d : Dt} {x w mm : Nat} {l : List Nat} (hS : Lay σ) (hx : x = 275 ∨ x = 276) (hw : w < 6) (h : Lx d x w l) (hl : wrd l) (hm : mm < 9223372036854775808) : f_L_hasSign σ x (nI w) NO (nL mm) d = some (bI (!anyR (fun k => !mm.testBit (l.getD k 0)) l.length), d) := by
  have h16 := hl.1
  have hh := L_hasSign_L9 (v := NO) (k := fun x5_7 x6_8 d_9 => if 0 ≤ NO then f_L_hasSign_J87 σ x5_7 d_9 else f_L_hasSign_J87 σ x6_8 d_9) hS hx hw h hl hm l.length 0 aw_FU (by omega) (by show _ < 5000; omega)
  simp only [f_L_hasSign, il_0, il_1]
  simp only [il_0, anyR0, anyR1] at hh
  refine Eq.trans hh ?_
  rw [if_neg (by decide)]
  have e := bI_and (!anyR (fun k => !mm.testBit (l.getD k 0)) l.length)
  simp only [f_L_hasSign_J87, il_1, e, aw_chkT]
theorem has_bit {A : St} {D w s : Nat} : anyR (fun k => decide ((own A D w).getD k 0 = s)) (own A D w).length = (hasW A D w).testBit s := by
  cases h : (hasW A D w).testBit s
  · rw [Bool.eq_false_iff]
    intro g
    obtain ⟨u, hu, hp⟩ := anyR_iff.mp g
    have := hasW_bit.mpr ⟨u, hu, of_decide_eq_true hp⟩
    rw [h] at this; cases this
  · obtain ⟨u, hu, hp⟩ := hasW_bit.mp h
    exact anyR_iff.mpr ⟨u, hu, decide_eq_true hp⟩
theorem all_sub {A : St} {D w m : Nat} : (!anyR (fun k => !m.testBit ((own A D w).getD k 0)) (own A D w).length) = sub (hasW A D w) m := by
  cases h : sub (hasW A D w) m
  · rw [Bool.not_eq_false']
    rw [← Bool.not_eq_true, sub_iff] at h
    refine Classical.byContradiction fun g => h fun s hs => ?_
    obtain ⟨u, hu, hp⟩ := hasW_bit.mp hs
    cases e : m.testBit s
    · exact absurd (anyR_iff.mpr ⟨u, hu, by show (!m.testBit ((own A D w).getD u 0)) = true; rw [hp, e]; rfl⟩) g
    · rfl
  · rw [Bool.not_eq_true', Bool.eq_false_iff]
    intro g
    obtain ⟨u, hu, hp⟩ := anyR_iff.mp g
    have := sub_iff.mp h _ (hasW_bit.mpr ⟨u, hu, rfl⟩)
    simp only [this, Bool.not_true] at hp
    cases hp
theorem L_read_L6 {A : St} {σ : Sg} {d : Dt} {D x : Nat} (hS : Lay σ) (hW : WF A) (hQ : RepQ A d) (hD : D < A 11 0 0) (hx : x = 275 ∨ x = 276) (hsp : Spx A D (A 13 0 D) x d) {mm : Nat} (hm : mm < 9223372036854775808) {k : Int32 → Dt → Option (Int32 × Dt)} : ∀ (m i f : Nat), i + m = A 2 0 0 → m < f → f_L_read_L6 σ f k x 266 274 (nL mm) (nI (sumR (fun w => if sub (hasW A D w) mm = true then A 5 0 w else 0) i)) (nI i) d = k (nI (rdW A D mm)) d := by
  have hw6 := hQ.w6
  have hb := (hW.G hD).2.1
  have qn := rq_words hQ
  intro m
  induction m with
  | zero =>
    intro i f hi hf
    cases f with
    | zero => omega
    | succ f =>
      have hiN : i = A 2 0 0 := by omega
      show f_L_read_B6 σ (f_L_read_L6 σ f k x 266 274 (nL mm)) k x 266 274 (nL mm) (nI (sumR (fun w => if sub (hasW A D w) mm = true then A 5 0 w else 0) i)) (nI i) d = _
      simp (disch := first | assumption | omega) only [f_L_read_B6, qn, lo_0 hS, lo_1 hS, lo_33 hS, lo_34 hS, lo_89 hS, lo_100 hS, lo_123 hS, lo_146 hS, lo_148 hS, lo_176 hS, lo_182 hS, lo_D hS, lo_G hS, lr_37 hS, lr_93 hS, lr_101 hS, lr_124 hS, lr_152 hS, lr_169 hS, lr_0_0 hS, lr_0_1 hS, lr_0_2 hS, lr_0_3 hS, lr_0_5 hS, lr_0_6 hS, lr_0_7 hS, lr_0_8 hS, lr_0_9 hS, lr_0_10 hS, lr_0_11 hS, lr_0_12 hS, lr_1_0 hS, lr_1_2 hS, lr_33_0 hS, lr_33_1 hS, lr_33_2 hS, lr_33_3 hS, lr_34_0 hS, lr_89_0 hS, lr_89_1 hS, lr_89_2 hS, lr_89_3 hS, lr_89_4 hS, lr_89_5 hS, lr_100_0 hS, lr_100_1 hS, lr_123_0 hS, lr_123_1 hS, lr_146_0 hS, lr_148_0 hS, lr_148_1 hS, lr_148_2 hS, lr_148_3 hS, lr_148_4 hS, lr_148_5 hS, lr_176_0 hS, lr_176_1 hS, lr_176_4 hS, lr_176_6 hS, lr_176_7 hS, lr_182_0 hS, lr_D_0 hS, lr_D_1 hS, lr_D_2 hS, lr_D_3 hS, lr_D_5 hS, lr_D_6 hS, lr_D_r hS, lr_31 hS, lr_32 hS, lr_G_2 hS, lr_G_3 hS, lr_G_4 hS, li_2 hS, li_3 hS, li_31 hS, li_32 hS, li_35 hS, li_36 hS, li_37 hS, li_88 hS, li_90 hS, li_91 hS, li_92 hS, li_93 hS, li_98 hS, li_99 hS, li_101 hS, li_122 hS, li_124 hS, li_145 hS, li_147 hS, li_149 hS, li_150 hS, li_151 hS, li_152 hS, li_169 hS, li_175 hS, li_177 hS, li_178 hS, li_179 hS, li_180 hS, li_181 hS, li_183 hS, li_265 hS, li_266 hS, li_267 hS, li_268 hS, li_269 hS, li_270 hS, li_271 hS, li_272 hS, li_273 hS, li_274 hS, li_275 hS, li_276 hS, li_38 hS, li_94 hS, li_102 hS, li_125 hS, li_153 hS, li_170 hS, li_D_1 hS, li_D_2 hS, li_D_3 hS, li_D_4 hS, li_D_5 hS, li_D_26 hS, li_D_r hS, li_G_1 hS, li_G_2 hS, li_G_3 hS, li_rA hS, li_rK hS, li_rX hS, il_0, il_1, il_2, il_3, il_4, il_5, il_6, il_7, il_8, il_9, il_10, il_11, il_12, il_13, il_15, il_16, il_17, il_18, il_19, il_20, il_21, il_22, il_23, il_24, il_26, il_27, il_28, il_30, il_32, il_34, il_36, il_38, il_40, il_43, il_44, il_46, il_47, il_48, il_49, il_50, il_51, il_60, il_64, il_100, il_108, il_111, il_127, il_971, il_972, il_999, il_1000, il_1024, il_1087, il_2500, il_5000, il_9999, il_60000, il_2147483647, nI_add, nI_mulI, nI_subI, nI_divI, nI_cl, nI_leJ, nI_ltJ, nI_eqJ, nI_neM, nI_neM', il_31, aw_sI_e, aw_sI_n, aw_sI_2, aw_sL_e, aw_sL_n, aw_sL_1, Option.bind_some, aw_chkT, ck_and0, ck_and1, bI_t, bI_f, nar_0, nar_1]
      rw [if_pos (by omega)]
      rw [hiN]
      rfl
  | succ m ih =>
    intro i f hi hf
    cases f with
    | zero => omega
    | succ f =>
      have hlt : i < A 2 0 0 := by omega
      have qh := L_hasAll hS hx (show i < 6 by omega) (hsp i hlt) (own_wrd hW hD hlt) hm
      have es : sp A D (A 13 0 D) i = own A D i := rfl
      rw [es, all_sub] at qh
      have qw := rq_wt hQ hlt
      have hw14 : 8 + i < 64 := by omega
      have e : sumR (fun w => if sub (hasW A D w) mm = true then A 5 0 w else 0) (i + 1) = sumR (fun w => if sub (hasW A D w) mm = true then A 5 0 w else 0) i + (if sub (hasW A D i) mm = true then A 5 0 i else 0) := rfl
      rw [← ih (i + 1) f (by omega) (by omega), e]
      show f_L_read_B6 σ (f_L_read_L6 σ f k x 266 274 (nL mm)) k x 266 274 (nL mm) (nI (sumR (fun w => if sub (hasW A D w) mm = true then A 5 0 w else 0) i)) (nI i) d = _
      simp (disch := first | assumption | omega) only [f_L_read_B6, qn, nno, qh, qw, lo_0 hS, lo_1 hS, lo_33 hS, lo_34 hS, lo_89 hS, lo_100 hS, lo_123 hS, lo_146 hS, lo_148 hS, lo_176 hS, lo_182 hS, lo_D hS, lo_G hS, lr_37 hS, lr_93 hS, lr_101 hS, lr_124 hS, lr_152 hS, lr_169 hS, lr_0_0 hS, lr_0_1 hS, lr_0_2 hS, lr_0_3 hS, lr_0_5 hS, lr_0_6 hS, lr_0_7 hS, lr_0_8 hS, lr_0_9 hS, lr_0_10 hS, lr_0_11 hS, lr_0_12 hS, lr_1_0 hS, lr_1_2 hS, lr_33_0 hS, lr_33_1 hS, lr_33_2 hS, lr_33_3 hS, lr_34_0 hS, lr_89_0 hS, lr_89_1 hS, lr_89_2 hS, lr_89_3 hS, lr_89_4 hS, lr_89_5 hS, lr_100_0 hS, lr_100_1 hS, lr_123_0 hS, lr_123_1 hS, lr_146_0 hS, lr_148_0 hS, lr_148_1 hS, lr_148_2 hS, lr_148_3 hS, lr_148_4 hS, lr_148_5 hS, lr_176_0 hS, lr_176_1 hS, lr_176_4 hS, lr_176_6 hS, lr_176_7 hS, lr_182_0 hS, lr_D_0 hS, lr_D_1 hS, lr_D_2 hS, lr_D_3 hS, lr_D_5 hS, lr_D_6 hS, lr_D_r hS, lr_31 hS, lr_32 hS, lr_G_2 hS, lr_G_3 hS, lr_G_4 hS, li_2 hS, li_3 hS, li_31 hS, li_32 hS, li_35 hS, li_36 hS, li_37 hS, li_88 hS, li_90 hS, li_91 hS, li_92 hS, li_93 hS, li_98 hS, li_99 hS, li_101 hS, li_122 hS, li_124 hS, li_145 hS, li_147 hS, li_149 hS, li_150 hS, li_151 hS, li_152 hS, li_169 hS, li_175 hS, li_177 hS, li_178 hS, li_179 hS, li_180 hS, li_181 hS, li_183 hS, li_265 hS, li_266 hS, li_267 hS, li_268 hS, li_269 hS, li_270 hS, li_271 hS, li_272 hS, li_273 hS, li_274 hS, li_275 hS, li_276 hS, li_38 hS, li_94 hS, li_102 hS, li_125 hS, li_153 hS, li_170 hS, li_D_1 hS, li_D_2 hS, li_D_3 hS, li_D_4 hS, li_D_5 hS, li_D_26 hS, li_D_r hS, li_G_1 hS, li_G_2 hS, li_G_3 hS, li_rA hS, li_rK hS, li_rX hS, il_0, il_1, il_2, il_3, il_4, il_5, il_6, il_7, il_8, il_9, il_10, il_11, il_12, il_13, il_15, il_16, il_17, il_18, il_19, il_20, il_21, il_22, il_23, il_24, il_26, il_27, il_28, il_30, il_32, il_34, il_36, il_38, il_40, il_43, il_44, il_46, il_47, il_48, il_49, il_50, il_51, il_60, il_64, il_100, il_108, il_111, il_127, il_971, il_972, il_999, il_1000, il_1024, il_1087, il_2500, il_5000, il_9999, il_60000, il_2147483647, nI_add, nI_mulI, nI_subI, nI_divI, nI_cl, nI_leJ, nI_ltJ, nI_eqJ, nI_neM, nI_neM', il_31, aw_sI_e, aw_sI_n, aw_sI_2, aw_sL_e, aw_sL_n, aw_sL_1, Option.bind_some, aw_chkT, ck_and0, ck_and1, bI_t, bI_f, nar_0, nar_1]
      rw [if_neg (by omega)]
      rw [if_bI]
      cases sub (hasW A D i) mm
      · rw [if_neg (by decide), if_neg (by decide)]
        simp only [f_L_read_J38, il_0, il_1, nI_add]
      · rw [if_pos rfl, if_pos rfl]
        simp only [f_L_read_J38, il_0, il_1, nI_add]

theorem L_read {A : St} {σ : Sg} {d : Dt} {D x : Nat} (hS : Lay σ) (hW : WF A) (hQ : RepQ A d) (hD : D < A 11 0 0) (hx : x = 275 ∨ x = 276) (hsp : Spx A D (A 13 0 D) x d) {mm : Nat} (hm : mm < 9223372036854775808) : f_L_read σ x 266 274 (nL mm) d = some (nI (rdW A D mm), d) := by
  have hw6 := hQ.w6
  simp only [f_L_read, il_0]
  exact L_read_L6 (k := fun x d => some (x, d)) hS hW hQ hD hx hsp hm (A 2 0 0) 0 aw_FU (by omega) (by show _ < 5000; omega)
