/-! errors, ways, scores of the law -/
theorem sumR_pos {g : Nat → Nat} {n : Nat} (h : 0 < sumR g n) : ∃ u, u < n ∧ 0 < g u := by
  induction n with
  | zero => simp [sumR] at h
  | succ n ih =>
    simp only [sumR] at h
    by_cases e : 0 < g n
    · exact ⟨n, by omega, e⟩
    · obtain ⟨u, hu, hp⟩ := ih (by omega)
      exact ⟨u, by omega, hp⟩
def plS (A : St) (D s : Nat) : Nat := sumR (fun w => sumR (fun k => if (own A D w).getD k 0 = s then A 5 0 w else 0) (own A D w).length) (A 2 0 0)
theorem plS_le {A : St} (hW : WF A) (h6 : A 2 0 0 ≤ 6) (D s : Nat) : plS A D s ≤ 95904 := by
  have h : plS A D s ≤ A 2 0 0 * 15984 := sumR_le (fun w hw => by
    have h1 := wt_lt hW hw
    have h2 := (own_len hW D hw).2
    have h3 : sumR (fun k => if (own A D w).getD k 0 = s then A 5 0 w else 0) (own A D w).length ≤ (own A D w).length * 999 := sumR_le (fun u hu => by split <;> omega)
    omega)
  omega
theorem plS_of {A : St} (hW : WF A) {D s : Nat} (hD : D < A 11 0 0) (h : 0 < plS A D s) : isOfS A D s = true := by
  obtain ⟨w, hw, h1⟩ := sumR_pos h
  obtain ⟨k, hk, h2⟩ := sumR_pos h1
  by_cases e : (own A D w).getD k 0 = s
  · rw [← e]; exact own_of hW hD hw hk
  · rw [if_neg e] at h2; omega
def erT (A : St) (D far s : Nat) : Nat := if (isOfS A D s && anyR (takS A D far s) 50) = true then plS A D s else 0
theorem L_err_L31 {A : St} {σ : Sg} {d : Dt} {D x : Nat} (hS : Lay σ) (hW : WF A) (hQ : RepQ A d) (hD : D < A 11 0 0) (hx : x = 275 ∨ x = 276) (hsp : Spx A D (A 13 0 D) x d) {a s : Nat} {x5 x6 : Int32} (hs : s < 50) {w c : Nat} (hw : w < A 2 0 0) {k : Int32 → Dt → Option (Int32 × Dt)} : ∀ (m i f : Nat), i + m = (own A D w).length → m < f → f_L_errors_L31 σ f k a 272 x 266 274 x5 x6 (nI s) (nI w) (nI (c + sumR (fun k => if (own A D w).getD k 0 = s then A 5 0 w else 0) i)) (nI i) d = k (nI (c + sumR (fun k => if (own A D w).getD k 0 = s then A 5 0 w else 0) (own A D w).length)) d := by
  have hw6 := hQ.w6
  have hb := (hW.G hD).2.1
  have qn := rq_words hQ
  have hwr := own_wrd hW hD hw
  have h16 := hwr.1
  have qm := L_many hS hx (show w < 6 by omega) (hsp w hw) hwr
  have em : (sp A D (A 13 0 D) w).length = (own A D w).length := rfl
  rw [em] at qm
  intro m
  induction m with
  | zero =>
    intro i f hi hf
    cases f with
    | zero => omega
    | succ f =>
      have hiN : i = (own A D w).length := by omega
      show f_L_errors_B31 σ (f_L_errors_L31 σ f k a 272 x 266 274 x5 x6 (nI s) (nI w)) k a 272 x 266 274 x5 x6 (nI s) (nI w) (nI (c + sumR (fun k => if (own A D w).getD k 0 = s then A 5 0 w else 0) i)) (nI i) d = _
      simp (disch := first | assumption | omega) only [f_L_errors_B31, qm, lo_0 hS, lo_1 hS, lo_33 hS, lo_34 hS, lo_89 hS, lo_100 hS, lo_123 hS, lo_146 hS, lo_148 hS, lo_176 hS, lo_182 hS, lo_D hS, lo_G hS, lr_37 hS, lr_93 hS, lr_101 hS, lr_124 hS, lr_152 hS, lr_169 hS, lr_0_0 hS, lr_0_1 hS, lr_0_2 hS, lr_0_3 hS, lr_0_5 hS, lr_0_6 hS, lr_0_7 hS, lr_0_8 hS, lr_0_9 hS, lr_0_10 hS, lr_0_11 hS, lr_0_12 hS, lr_1_0 hS, lr_1_2 hS, lr_33_0 hS, lr_33_1 hS, lr_33_2 hS, lr_33_3 hS, lr_34_0 hS, lr_89_0 hS, lr_89_1 hS, lr_89_2 hS, lr_89_3 hS, lr_89_4 hS, lr_89_5 hS, lr_100_0 hS, lr_100_1 hS, lr_123_0 hS, lr_123_1 hS, lr_146_0 hS, lr_148_0 hS, lr_148_1 hS, lr_148_2 hS, lr_148_3 hS, lr_148_4 hS, lr_148_5 hS, lr_176_0 hS, lr_176_1 hS, lr_176_4 hS, lr_176_6 hS, lr_176_7 hS, lr_182_0 hS, lr_D_0 hS, lr_D_1 hS, lr_D_2 hS, lr_D_3 hS, lr_D_5 hS, lr_D_6 hS, lr_D_r hS, lr_31 hS, lr_32 hS, lr_G_2 hS, lr_G_3 hS, lr_G_4 hS, li_2 hS, li_3 hS, li_31 hS, li_32 hS, li_35 hS, li_36 hS, li_37 hS, li_88 hS, li_90 hS, li_91 hS, li_92 hS, li_93 hS, li_98 hS, li_99 hS, li_101 hS, li_122 hS, li_124 hS, li_145 hS, li_147 hS, li_149 hS, li_150 hS, li_151 hS, li_152 hS, li_169 hS, li_175 hS, li_177 hS, li_178 hS, li_179 hS, li_180 hS, li_181 hS, li_183 hS, li_265 hS, li_266 hS, li_267 hS, li_268 hS, li_269 hS, li_270 hS, li_271 hS, li_272 hS, li_273 hS, li_274 hS, li_275 hS, li_276 hS, li_38 hS, li_94 hS, li_102 hS, li_125 hS, li_153 hS, li_170 hS, li_D_1 hS, li_D_2 hS, li_D_3 hS, li_D_4 hS, li_D_5 hS, li_D_26 hS, li_D_r hS, li_G_1 hS, li_G_2 hS, li_G_3 hS, li_rA hS, li_rK hS, li_rX hS, il_0, il_1, il_2, il_3, il_4, il_5, il_6, il_7, il_8, il_9, il_10, il_11, il_12, il_13, il_15, il_16, il_17, il_18, il_19, il_20, il_21, il_22, il_23, il_24, il_26, il_27, il_28, il_30, il_32, il_34, il_36, il_38, il_40, il_43, il_44, il_46, il_47, il_48, il_49, il_50, il_51, il_60, il_64, il_100, il_108, il_111, il_127, il_971, il_972, il_999, il_1000, il_1024, il_1087, il_2500, il_5000, il_9999, il_60000, il_2147483647, nI_add, nI_mulI, nI_subI, nI_divI, nI_cl, nI_leJ, nI_ltJ, nI_eqJ, nI_neM, nI_neM', il_31, aw_sI_e, aw_sI_n, aw_sI_2, aw_sL_e, aw_sL_n, aw_sL_1, Option.bind_some, aw_chkT, ck_and0, ck_and1, bI_t, bI_f, nar_0, nar_1]
      rw [if_pos (by omega)]
      rw [hiN]
  | succ m ih =>
    intro i f hi hf
    cases f with
    | zero => omega
    | succ f =>
      have hlt : i < (own A D w).length := by omega
      have qs := L_sign (k := i) hS hx (show w < 6 by omega) (hsp w hw) hwr (by omega)
      have es : sp A D (A 13 0 D) w = own A D w := rfl
      rw [es, atI_t (by omega)] at qs
      have g0 := hwr.g i
      have qw := rq_wt hQ hw
      have hw14 : 8 + w < 64 := by omega
      have e : sumR (fun k => if (own A D w).getD k 0 = s then A 5 0 w else 0) (i + 1) = sumR (fun k => if (own A D w).getD k 0 = s then A 5 0 w else 0) i + (if (own A D w).getD i 0 = s then A 5 0 w else 0) := rfl
      rw [← ih (i + 1) f (by omega) (by omega), e]
      show f_L_errors_B31 σ (f_L_errors_L31 σ f k a 272 x 266 274 x5 x6 (nI s) (nI w)) k a 272 x 266 274 x5 x6 (nI s) (nI w) (nI (c + sumR (fun k => if (own A D w).getD k 0 = s then A 5 0 w else 0) i)) (nI i) d = _
      simp (disch := first | assumption | omega) only [f_L_errors_B31, qm, qs, qw, lo_0 hS, lo_1 hS, lo_33 hS, lo_34 hS, lo_89 hS, lo_100 hS, lo_123 hS, lo_146 hS, lo_148 hS, lo_176 hS, lo_182 hS, lo_D hS, lo_G hS, lr_37 hS, lr_93 hS, lr_101 hS, lr_124 hS, lr_152 hS, lr_169 hS, lr_0_0 hS, lr_0_1 hS, lr_0_2 hS, lr_0_3 hS, lr_0_5 hS, lr_0_6 hS, lr_0_7 hS, lr_0_8 hS, lr_0_9 hS, lr_0_10 hS, lr_0_11 hS, lr_0_12 hS, lr_1_0 hS, lr_1_2 hS, lr_33_0 hS, lr_33_1 hS, lr_33_2 hS, lr_33_3 hS, lr_34_0 hS, lr_89_0 hS, lr_89_1 hS, lr_89_2 hS, lr_89_3 hS, lr_89_4 hS, lr_89_5 hS, lr_100_0 hS, lr_100_1 hS, lr_123_0 hS, lr_123_1 hS, lr_146_0 hS, lr_148_0 hS, lr_148_1 hS, lr_148_2 hS, lr_148_3 hS, lr_148_4 hS, lr_148_5 hS, lr_176_0 hS, lr_176_1 hS, lr_176_4 hS, lr_176_6 hS, lr_176_7 hS, lr_182_0 hS, lr_D_0 hS, lr_D_1 hS, lr_D_2 hS, lr_D_3 hS, lr_D_5 hS, lr_D_6 hS, lr_D_r hS, lr_31 hS, lr_32 hS, lr_G_2 hS, lr_G_3 hS, lr_G_4 hS, li_2 hS, li_3 hS, li_31 hS, li_32 hS, li_35 hS, li_36 hS, li_37 hS, li_88 hS, li_90 hS, li_91 hS, li_92 hS, li_93 hS, li_98 hS, li_99 hS, li_101 hS, li_122 hS, li_124 hS, li_145 hS, li_147 hS, li_149 hS, li_150 hS, li_151 hS, li_152 hS, li_169 hS, li_175 hS, li_177 hS, li_178 hS, li_179 hS, li_180 hS, li_181 hS, li_183 hS, li_265 hS, li_266 hS, li_267 hS, li_268 hS, li_269 hS, li_270 hS, li_271 hS, li_272 hS, li_273 hS, li_274 hS, li_275 hS, li_276 hS, li_38 hS, li_94 hS, li_102 hS, li_125 hS, li_153 hS, li_170 hS, li_D_1 hS, li_D_2 hS, li_D_3 hS, li_D_4 hS, li_D_5 hS, li_D_26 hS, li_D_r hS, li_G_1 hS, li_G_2 hS, li_G_3 hS, li_rA hS, li_rK hS, li_rX hS, il_0, il_1, il_2, il_3, il_4, il_5, il_6, il_7, il_8, il_9, il_10, il_11, il_12, il_13, il_15, il_16, il_17, il_18, il_19, il_20, il_21, il_22, il_23, il_24, il_26, il_27, il_28, il_30, il_32, il_34, il_36, il_38, il_40, il_43, il_44, il_46, il_47, il_48, il_49, il_50, il_51, il_60, il_64, il_100, il_108, il_111, il_127, il_971, il_972, il_999, il_1000, il_1024, il_1087, il_2500, il_5000, il_9999, il_60000, il_2147483647, nI_add, nI_mulI, nI_subI, nI_divI, nI_cl, nI_leJ, nI_ltJ, nI_eqJ, nI_neM, nI_neM', il_31, aw_sI_e, aw_sI_n, aw_sI_2, aw_sL_e, aw_sL_n, aw_sL_1, Option.bind_some, aw_chkT, ck_and0, ck_and1, bI_t, bI_f, nar_0, nar_1]
      rw [if_neg (by omega)]
      by_cases e2 : (own A D w).getD i 0 = s
      · rw [if_pos e2, if_pos e2]
        simp only [f_L_errors_J68, il_1, nI_add, Nat.add_assoc]
      · rw [if_neg e2, if_neg e2]
        simp only [f_L_errors_J68, il_0, il_1, nI_add, Nat.add_zero]

theorem L_err_L19 {A : St} {σ : Sg} {d : Dt} {D x : Nat} (hS : Lay σ) (hW : WF A) (hQ : RepQ A d) (hD : D < A 11 0 0) (hx : x = 275 ∨ x = 276) (hsp : Spx A D (A 13 0 D) x d) {a s : Nat} {x5 x6 : Int32} (hs : s < 50) {k : Int32 → Dt → Option (Int32 × Dt)} : ∀ (m i f : Nat), i + m = A 2 0 0 → m < f → f_L_errors_L19 σ f k a 272 x 266 274 x5 x6 (nI s) (nI (sumR (fun w => sumR (fun k => if (own A D w).getD k 0 = s then A 5 0 w else 0) (own A D w).length) i)) (nI i) d = k (nI (plS A D s)) d := by
  have hw6 := hQ.w6
  have hb := (hW.G hD).2.1
  have qn := rq_words hQ
  intro m
  induction m with
  | zero =>
    intro i f hi hf
    cases f with
    | zero => omega
    | succ f =>
      have hiN : i = A 2 0 0 := by omega
      show f_L_errors_B19 σ (f_L_errors_L19 σ f k a 272 x 266 274 x5 x6 (nI s)) k a 272 x 266 274 x5 x6 (nI s) (nI (sumR (fun w => sumR (fun k => if (own A D w).getD k 0 = s then A 5 0 w else 0) (own A D w).length) i)) (nI i) d = _
      simp (disch := first | assumption | omega) only [f_L_errors_B19, qn, lo_0 hS, lo_1 hS, lo_33 hS, lo_34 hS, lo_89 hS, lo_100 hS, lo_123 hS, lo_146 hS, lo_148 hS, lo_176 hS, lo_182 hS, lo_D hS, lo_G hS, lr_37 hS, lr_93 hS, lr_101 hS, lr_124 hS, lr_152 hS, lr_169 hS, lr_0_0 hS, lr_0_1 hS, lr_0_2 hS, lr_0_3 hS, lr_0_5 hS, lr_0_6 hS, lr_0_7 hS, lr_0_8 hS, lr_0_9 hS, lr_0_10 hS, lr_0_11 hS, lr_0_12 hS, lr_1_0 hS, lr_1_2 hS, lr_33_0 hS, lr_33_1 hS, lr_33_2 hS, lr_33_3 hS, lr_34_0 hS, lr_89_0 hS, lr_89_1 hS, lr_89_2 hS, lr_89_3 hS, lr_89_4 hS, lr_89_5 hS, lr_100_0 hS, lr_100_1 hS, lr_123_0 hS, lr_123_1 hS, lr_146_0 hS, lr_148_0 hS, lr_148_1 hS, lr_148_2 hS, lr_148_3 hS, lr_148_4 hS, lr_148_5 hS, lr_176_0 hS, lr_176_1 hS, lr_176_4 hS, lr_176_6 hS, lr_176_7 hS, lr_182_0 hS, lr_D_0 hS, lr_D_1 hS, lr_D_2 hS, lr_D_3 hS, lr_D_5 hS, lr_D_6 hS, lr_D_r hS, lr_31 hS, lr_32 hS, lr_G_2 hS, lr_G_3 hS, lr_G_4 hS, li_2 hS, li_3 hS, li_31 hS, li_32 hS, li_35 hS, li_36 hS, li_37 hS, li_88 hS, li_90 hS, li_91 hS, li_92 hS, li_93 hS, li_98 hS, li_99 hS, li_101 hS, li_122 hS, li_124 hS, li_145 hS, li_147 hS, li_149 hS, li_150 hS, li_151 hS, li_152 hS, li_169 hS, li_175 hS, li_177 hS, li_178 hS, li_179 hS, li_180 hS, li_181 hS, li_183 hS, li_265 hS, li_266 hS, li_267 hS, li_268 hS, li_269 hS, li_270 hS, li_271 hS, li_272 hS, li_273 hS, li_274 hS, li_275 hS, li_276 hS, li_38 hS, li_94 hS, li_102 hS, li_125 hS, li_153 hS, li_170 hS, li_D_1 hS, li_D_2 hS, li_D_3 hS, li_D_4 hS, li_D_5 hS, li_D_26 hS, li_D_r hS, li_G_1 hS, li_G_2 hS, li_G_3 hS, li_rA hS, li_rK hS, li_rX hS, il_0, il_1, il_2, il_3, il_4, il_5, il_6, il_7, il_8, il_9, il_10, il_11, il_12, il_13, il_15, il_16, il_17, il_18, il_19, il_20, il_21, il_22, il_23, il_24, il_26, il_27, il_28, il_30, il_32, il_34, il_36, il_38, il_40, il_43, il_44, il_46, il_47, il_48, il_49, il_50, il_51, il_60, il_64, il_100, il_108, il_111, il_127, il_971, il_972, il_999, il_1000, il_1024, il_1087, il_2500, il_5000, il_9999, il_60000, il_2147483647, nI_add, nI_mulI, nI_subI, nI_divI, nI_cl, nI_leJ, nI_ltJ, nI_eqJ, nI_neM, nI_neM', il_31, aw_sI_e, aw_sI_n, aw_sI_2, aw_sL_e, aw_sL_n, aw_sL_1, Option.bind_some, aw_chkT, ck_and0, ck_and1, bI_t, bI_f, nar_0, nar_1]
      rw [if_pos (by omega)]
      rw [hiN]
      rfl
  | succ m ih =>
    intro i f hi hf
    cases f with
    | zero => omega
    | succ f =>
      have hlt : i < A 2 0 0 := by omega
      show f_L_errors_B19 σ (f_L_errors_L19 σ f k a 272 x 266 274 x5 x6 (nI s)) k a 272 x 266 274 x5 x6 (nI s) (nI (sumR (fun w => sumR (fun k => if (own A D w).getD k 0 = s then A 5 0 w else 0) (own A D w).length) i)) (nI i) d = _
      simp (disch := first | assumption | omega) only [f_L_errors_B19, qn, lo_0 hS, lo_1 hS, lo_33 hS, lo_34 hS, lo_89 hS, lo_100 hS, lo_123 hS, lo_146 hS, lo_148 hS, lo_176 hS, lo_182 hS, lo_D hS, lo_G hS, lr_37 hS, lr_93 hS, lr_101 hS, lr_124 hS, lr_152 hS, lr_169 hS, lr_0_0 hS, lr_0_1 hS, lr_0_2 hS, lr_0_3 hS, lr_0_5 hS, lr_0_6 hS, lr_0_7 hS, lr_0_8 hS, lr_0_9 hS, lr_0_10 hS, lr_0_11 hS, lr_0_12 hS, lr_1_0 hS, lr_1_2 hS, lr_33_0 hS, lr_33_1 hS, lr_33_2 hS, lr_33_3 hS, lr_34_0 hS, lr_89_0 hS, lr_89_1 hS, lr_89_2 hS, lr_89_3 hS, lr_89_4 hS, lr_89_5 hS, lr_100_0 hS, lr_100_1 hS, lr_123_0 hS, lr_123_1 hS, lr_146_0 hS, lr_148_0 hS, lr_148_1 hS, lr_148_2 hS, lr_148_3 hS, lr_148_4 hS, lr_148_5 hS, lr_176_0 hS, lr_176_1 hS, lr_176_4 hS, lr_176_6 hS, lr_176_7 hS, lr_182_0 hS, lr_D_0 hS, lr_D_1 hS, lr_D_2 hS, lr_D_3 hS, lr_D_5 hS, lr_D_6 hS, lr_D_r hS, lr_31 hS, lr_32 hS, lr_G_2 hS, lr_G_3 hS, lr_G_4 hS, li_2 hS, li_3 hS, li_31 hS, li_32 hS, li_35 hS, li_36 hS, li_37 hS, li_88 hS, li_90 hS, li_91 hS, li_92 hS, li_93 hS, li_98 hS, li_99 hS, li_101 hS, li_122 hS, li_124 hS, li_145 hS, li_147 hS, li_149 hS, li_150 hS, li_151 hS, li_152 hS, li_169 hS, li_175 hS, li_177 hS, li_178 hS, li_179 hS, li_180 hS, li_181 hS, li_183 hS, li_265 hS, li_266 hS, li_267 hS, li_268 hS, li_269 hS, li_270 hS, li_271 hS, li_272 hS, li_273 hS, li_274 hS, li_275 hS, li_276 hS, li_38 hS, li_94 hS, li_102 hS, li_125 hS, li_153 hS, li_170 hS, li_D_1 hS, li_D_2 hS, li_D_3 hS, li_D_4 hS, li_D_5 hS, li_D_26 hS, li_D_r hS, li_G_1 hS, li_G_2 hS, li_G_3 hS, li_rA hS, li_rK hS, li_rX hS, il_0, il_1, il_2, il_3, il_4, il_5, il_6, il_7, il_8, il_9, il_10, il_11, il_12, il_13, il_15, il_16, il_17, il_18, il_19, il_20, il_21, il_22, il_23, il_24, il_26, il_27, il_28, il_30, il_32, il_34, il_36, il_38, il_40, il_43, il_44, il_46, il_47, il_48, il_49, il_50, il_51, il_60, il_64, il_100, il_108, il_111, il_127, il_971, il_972, il_999, il_1000, il_1024, il_1087, il_2500, il_5000, il_9999, il_60000, il_2147483647, nI_add, nI_mulI, nI_subI, nI_divI, nI_cl, nI_leJ, nI_ltJ, nI_eqJ, nI_neM, nI_neM', il_31, aw_sI_e, aw_sI_n, aw_sI_2, aw_sL_e, aw_sL_n, aw_sL_1, Option.bind_some, aw_chkT, ck_and0, ck_and1, bI_t, bI_f, nar_0, nar_1]
      rw [if_neg (by omega)]
      have h16 := (own_wrd hW hD hlt).1
      have h := fun (kk : Int32 → Dt → Option (Int32 × Dt)) => L_err_L31 (a := a) (x5 := x5) (x6 := x6) (k := kk) (c := sumR (fun w => sumR (fun k => if (own A D w).getD k 0 = s then A 5 0 w else 0) (own A D w).length) i) hS hW hQ hD hx hsp hs hlt (own A D i).length 0 aw_FU (by omega) (by show _ < 5000; omega)
      have e0 : ∀ g : Nat → Nat, sumR g 0 = 0 := fun _ => rfl
      simp only [e0, Nat.add_zero] at h
      rw [h]
      exact ih (i + 1) f (by omega) (by omega)

theorem L_err_L6 {A : St} {σ : Sg} {d0 : Dt} {D a x far : Nat} {Q : Int32 × Dt → Prop} {k : Int32 → Dt → Option (Int32 × Dt)} (hS : Lay σ) (hW : WF A) (hQ0 : RepQ A d0) (hD : D < A 11 0 0) (hx : x = 275 ∨ x = 276) (hsp0 : Spx A D (A 13 0 D) x d0) (ha : a = 268 ∨ a = 269) (hA : RepA A D a d0) (hz : ∀ s, s < 50 → d0.1 272 s = nI (A 17 0 s)) (hfar : far < 5) (hk : ∀ d, FZ d0 d → ok (k (nI (sumR (erT A D far) 50)) d) Q) : ∀ (m i f : Nat) (d : Dt), i + m = 50 → m < f → FZ d0 d → ok (f_L_errors_L6 σ f k a 272 x 266 274 (nI far) (nI (sumR (erT A D far) i)) (nI i) d) Q := by
  intro m
  induction m with
  | zero =>
    intro i f d hi hf F
    cases f with
    | zero => omega
    | succ f =>
      show ok (f_L_errors_B6 σ (f_L_errors_L6 σ f k a 272 x 266 274 (nI far)) k a 272 x 266 274 (nI far) (nI (sumR (erT A D far) i)) (nI i) d) Q
      simp (disch := first | assumption | omega) only [f_L_errors_B6, il_0, il_1, il_2, il_3, il_4, il_5, il_6, il_7, il_8, il_9, il_10, il_11, il_12, il_13, il_15, il_16, il_17, il_18, il_19, il_20, il_21, il_22, il_23, il_24, il_26, il_27, il_28, il_30, il_32, il_34, il_36, il_38, il_40, il_43, il_44, il_46, il_47, il_48, il_49, il_50, il_51, il_60, il_64, il_100, il_108, il_111, il_127, il_971, il_972, il_999, il_1000, il_1024, il_1087, il_2500, il_5000, il_9999, il_60000, il_2147483647, nI_add, nI_mulI, nI_subI, nI_divI, nI_cl, nI_leJ, nI_ltJ, nI_eqJ, nI_neM, nI_neM', il_31]
      rw [if_pos (by omega)]
      obtain rfl : i = 50 := by omega
      exact hk d F
  | succ m ih =>
    intro i f d hi hf F
    cases f with
    | zero => omega
    | succ f =>
      have hlt : i < 50 := by omega
      have hQ : RepQ A d := hQ0.lf (N := 277) hW (Nat.le_refl _) F.lf
      have hsp : Spx A D (A 13 0 D) x d := hsp0.e (by rw [F.2.2])
      have hw6 := hQ.w6
      have hpl := plS_le hW hw6 D i
      have e1 : sumR (erT A D far) (i + 1) = sumR (erT A D far) i + erT A D far i := rfl
      have IH := fun d' F' => ih (i + 1) f d' (by omega) (by omega) F'
      rw [e1] at IH
      show ok (f_L_errors_B6 σ (f_L_errors_L6 σ f k a 272 x 266 274 (nI far)) k a 272 x 266 274 (nI far) (nI (sumR (erT A D far) i)) (nI i) d) Q
      unfold f_L_errors_B6
      rw [if_neg (by rw [il_50, nI_leJ (by omega) (by omega)]; omega)]
      have h := fun (kk : Int32 → Dt → Option (Int32 × Dt)) => L_err_L19 (a := a) (x5 := nI far) (x6 := nI (sumR (erT A D far) i)) (k := kk) hS hW hQ hD hx hsp hlt (A 2 0 0) 0 aw_FU (by omega) (by show _ < 5000; omega)
      have e0 : ∀ g : Nat → Nat, sumR g 0 = 0 := fun _ => rfl
      simp only [e0] at h
      have h' := fun kk => (show f_L_errors_L19 σ aw_FU kk a 272 x 266 274 (nI far) (nI (sumR (erT A D far) i)) (nI i) (0 : Int32) (0 : Int32) d = kk (nI (plS A D i)) d from h kk)
      rw [h']
      by_cases hP : plS A D i = 0
      · have et : erT A D far i = 0 := by unfold erT; split <;> first | exact hP | rfl
        rw [et, Nat.add_zero] at IH
        rw [hP, FU1]
        show ok (f_L_errors_B89 σ (f_L_errors_L89 σ 4999 (fun x9_17 d_18 => f_L_errors_J152 σ (f_L_errors_L6 σ f k a 272 x 266 274 (nI far)) a 272 x 266 274 (nI far) (nI (sumR (erT A D far) i)) (nI i) (nI 0) x9_17 d_18) a 272 x 266 274 (nI far) (nI (sumR (erT A D far) i)) (nI i) (nI 0)) (fun x9_17 d_18 => f_L_errors_J152 σ (f_L_errors_L6 σ f k a 272 x 266 274 (nI far)) a 272 x 266 274 (nI far) (nI (sumR (erT A D far) i)) (nI i) (nI 0) x9_17 d_18) a 272 x 266 274 (nI far) (nI (sumR (erT A D far) i)) (nI i) (nI 0) (nI 0) (nI 0) d) Q
        unfold f_L_errors_B89
        rw [if_neg (by decide), if_pos (by decide)]
        simp only [f_L_errors_J152, f_L_errors_J165, il_0, il_1, if_true, nI_add, Nat.add_zero]
        exact IH d F
      · have hof := plS_of hW hD (show 0 < plS A D i by omega)
        refine L_err_L89 (d0 := d) (k := fun x9_17 d_18 => f_L_errors_J152 σ (f_L_errors_L6 σ f k a 272 x 266 274 (nI far)) a 272 x 266 274 (nI far) (nI (sumR (erT A D far) i)) (nI i) (nI (plS A D i)) x9_17 d_18) hS hW hD ha (hA.lf (F.1 a (by omega))) (fun s hs => by rw [F.1 272 (by omega)]; exact hz s hs) hlt hfar (by omega) (by omega) (fun b d' hb' F' => ?_) 50 0 aw_FU d (by omega) (by show _ < 5000; omega) rfl FZ.rf
        have et : erT A D far i = if b = true then plS A D i else 0 := by unfold erT; rw [hof, Bool.true_and, ← hb']
        rw [et] at IH
        unfold f_L_errors_J152
        rw [il_0, if_bI]
        cases b
        · rw [if_neg (by decide)]
          rw [if_neg (by decide)] at IH
          simp only [f_L_errors_J165, il_1, nI_add]
          exact IH d' (F.tr F')
        · rw [if_pos rfl]
          rw [if_pos rfl] at IH
          simp only [f_L_errors_J165, il_1, nI_add]
          exact IH d' (F.tr F')
theorem L_errors {A : St} {σ : Sg} {d : Dt} {D a x far : Nat} (hS : Lay σ) (hW : WF A) (hQ : RepQ A d) (hD : D < A 11 0 0) (hx : x = 275 ∨ x = 276) (hsp : Spx A D (A 13 0 D) x d) (ha : a = 268 ∨ a = 269) (hA : RepA A D a d) (hz : ∀ s, s < 50 → d.1 272 s = nI (A 17 0 s)) (hfar : far < 5) : ok (f_L_errors σ a 272 x 266 274 (nI far) d) (fun z => z.1 = nI (errS A D far) ∧ FZ d z.2) := by
  simp only [f_L_errors, il_0]
  exact L_err_L6 (d0 := d) (k := fun x6_19 d_20 => some (x6_19, d_20)) hS hW hQ hD hx hsp ha hA hz hfar (fun d' F => ok_some ⟨rfl, F⟩) 50 0 aw_FU d (by omega) (by show _ < 5000; omega) FZ.rf
/-! ways between two words of rows -/
def Rw (d : Dt) (lo hi : Nat → Nat) (k n : Nat) : Prop := ∀ j, j ≤ n → d.1 266 (46 + j) = nI (if j < k then lo j else hi j)
theorem Rw.lo {d : Dt} {lo hi : Nat → Nat} {k n j : Nat} (h : Rw d lo hi k n) (hj : j < k) (hm : j ≤ n) : d.1 266 (46 + j) = nI (lo j) := by rw [h j hm, if_pos hj]
theorem Rw.hi {d : Dt} {lo hi : Nat → Nat} {k n j : Nat} (h : Rw d lo hi k n) (hj : k ≤ j) (hm : j ≤ n) : d.1 266 (46 + j) = nI (hi j) := by rw [h j hm, if_neg (by omega)]
theorem Rw.st {d : Dt} {lo hi : Nat → Nat} {k n v : Nat} (h : Rw d lo hi k n) (hv : v = lo k) : Rw (aw_sI d 266 (46 + k) (nI v)) lo hi (k + 1) n := by
  intro j hj
  by_cases e : j = k
  · subst e; rw [aw_sI_e rfl rfl, if_pos (by omega), hv]
  · rw [aw_sI_n (by omega), h j hj]
    by_cases e2 : j < k
    · rw [if_pos e2, if_pos (by omega)]
    · rw [if_neg e2, if_neg (by omega)]
theorem L_way_L11 {σ : Sg} {d0 : Dt} {x w y v n : Nat} {Q : Int32 × Dt → Prop} {k : Dt → Option (Int32 × Dt)} (hS : Lay σ) (hn : n ≤ 16) (hk : ∀ d, (∀ j, j ≤ n → d.1 266 (46 + j) = nI j) → FZ d0 d → ok (k d) Q) : ∀ (m i f : Nat) (d : Dt), i + m = n + 1 → m < f → (∀ j, j < i → d.1 266 (46 + j) = nI j) → FZ d0 d → ok (f_L_way_L11 σ f k 266 x (nI w) y (nI v) (nI n) (nI i) d) Q := by
  intro m
  induction m with
  | zero =>
    intro i f d hi hf g1 F
    cases f with
    | zero => omega
    | succ f =>
      show ok (f_L_way_B11 σ (f_L_way_L11 σ f k 266 x (nI w) y (nI v) (nI n)) k 266 x (nI w) y (nI v) (nI n) (nI i) d) Q
      simp (disch := first | assumption | omega) only [f_L_way_B11, il_0, il_1, il_2, il_3, il_4, il_5, il_6, il_7, il_8, il_9, il_10, il_11, il_12, il_13, il_15, il_16, il_17, il_18, il_19, il_20, il_21, il_22, il_23, il_24, il_26, il_27, il_28, il_30, il_32, il_34, il_36, il_38, il_40, il_43, il_44, il_46, il_47, il_48, il_49, il_50, il_51, il_60, il_64, il_100, il_108, il_111, il_127, il_971, il_972, il_999, il_1000, il_1024, il_1087, il_2500, il_5000, il_9999, il_60000, il_2147483647, nI_add, nI_mulI, nI_subI, nI_divI, nI_cl, nI_leJ, nI_ltJ, nI_eqJ, nI_neM, nI_neM', il_31]
      rw [if_pos (by omega)]
      exact hk d (fun j hj => g1 j (by omega)) F
  | succ m ih =>
    intro i f d hi hf g1 F
    cases f with
    | zero => omega
    | succ f =>
      have h64 : 46 + i < 64 := by omega
      show ok (f_L_way_B11 σ (f_L_way_L11 σ f k 266 x (nI w) y (nI v) (nI n)) k 266 x (nI w) y (nI v) (nI n) (nI i) d) Q
      simp (disch := first | assumption | omega) only [f_L_way_B11, lo_0 hS, lo_1 hS, lo_33 hS, lo_34 hS, lo_89 hS, lo_100 hS, lo_123 hS, lo_146 hS, lo_148 hS, lo_176 hS, lo_182 hS, lo_D hS, lo_G hS, lr_37 hS, lr_93 hS, lr_101 hS, lr_124 hS, lr_152 hS, lr_169 hS, lr_0_0 hS, lr_0_1 hS, lr_0_2 hS, lr_0_3 hS, lr_0_5 hS, lr_0_6 hS, lr_0_7 hS, lr_0_8 hS, lr_0_9 hS, lr_0_10 hS, lr_0_11 hS, lr_0_12 hS, lr_1_0 hS, lr_1_2 hS, lr_33_0 hS, lr_33_1 hS, lr_33_2 hS, lr_33_3 hS, lr_34_0 hS, lr_89_0 hS, lr_89_1 hS, lr_89_2 hS, lr_89_3 hS, lr_89_4 hS, lr_89_5 hS, lr_100_0 hS, lr_100_1 hS, lr_123_0 hS, lr_123_1 hS, lr_146_0 hS, lr_148_0 hS, lr_148_1 hS, lr_148_2 hS, lr_148_3 hS, lr_148_4 hS, lr_148_5 hS, lr_176_0 hS, lr_176_1 hS, lr_176_4 hS, lr_176_6 hS, lr_176_7 hS, lr_182_0 hS, lr_D_0 hS, lr_D_1 hS, lr_D_2 hS, lr_D_3 hS, lr_D_5 hS, lr_D_6 hS, lr_D_r hS, lr_31 hS, lr_32 hS, lr_G_2 hS, lr_G_3 hS, lr_G_4 hS, li_2 hS, li_3 hS, li_31 hS, li_32 hS, li_35 hS, li_36 hS, li_37 hS, li_88 hS, li_90 hS, li_91 hS, li_92 hS, li_93 hS, li_98 hS, li_99 hS, li_101 hS, li_122 hS, li_124 hS, li_145 hS, li_147 hS, li_149 hS, li_150 hS, li_151 hS, li_152 hS, li_169 hS, li_175 hS, li_177 hS, li_178 hS, li_179 hS, li_180 hS, li_181 hS, li_183 hS, li_265 hS, li_266 hS, li_267 hS, li_268 hS, li_269 hS, li_270 hS, li_271 hS, li_272 hS, li_273 hS, li_274 hS, li_275 hS, li_276 hS, li_38 hS, li_94 hS, li_102 hS, li_125 hS, li_153 hS, li_170 hS, li_D_1 hS, li_D_2 hS, li_D_3 hS, li_D_4 hS, li_D_5 hS, li_D_26 hS, li_D_r hS, li_G_1 hS, li_G_2 hS, li_G_3 hS, li_rA hS, li_rK hS, li_rX hS, il_0, il_1, il_2, il_3, il_4, il_5, il_6, il_7, il_8, il_9, il_10, il_11, il_12, il_13, il_15, il_16, il_17, il_18, il_19, il_20, il_21, il_22, il_23, il_24, il_26, il_27, il_28, il_30, il_32, il_34, il_36, il_38, il_40, il_43, il_44, il_46, il_47, il_48, il_49, il_50, il_51, il_60, il_64, il_100, il_108, il_111, il_127, il_971, il_972, il_999, il_1000, il_1024, il_1087, il_2500, il_5000, il_9999, il_60000, il_2147483647, nI_add, nI_mulI, nI_subI, nI_divI, nI_cl, nI_leJ, nI_ltJ, nI_eqJ, nI_neM, nI_neM', il_31, aw_sI_e, aw_sI_n, aw_sI_2, aw_sL_e, aw_sL_n, aw_sL_1, Option.bind_some, aw_chkT, ck_and0, ck_and1, bI_t, bI_f, nar_0, nar_1]
      rw [if_neg (by omega)]
      refine ih (i + 1) f _ (by omega) (by omega) (fun j hj => ?_) (F.w (by omega))
      by_cases e : j = i
      · subst e; exact aw_sI_e rfl rfl
      · rw [aw_sI_n (by omega)]; exact g1 j (by omega)
theorem L_way_L62 {σ : Sg} {d0 : Dt} {x w y v mm : Nat} {lx ly : List Nat} {Q : Int32 × Dt → Prop} {k : Dt → Option (Int32 × Dt)} (hS : Lay σ) (hx : x = 275 ∨ x = 276) (hy : y = 275 ∨ y = 276) (hw : w < 6) (hv : v < 6) (h0 : Lx d0 x w lx) (g0 : Lx d0 y v ly) (hlx : wrd lx) (hly : wrd ly) (hmm : mm < lx.length) (hk : ∀ d, (∀ j, j ≤ ly.length → d.1 266 (46 + j) = nI (ed (fun i => lx.getD i 0) (fun j => ly.getD j 0) (mm + 1) j)) → FZ d0 d → ok (k d) Q) : ∀ (m i f : Nat) (d : Dt), i + m = ly.length → m < f → Rw d (ed (fun i => lx.getD i 0) (fun j => ly.getD j 0) (mm + 1)) (ed (fun i => lx.getD i 0) (fun j => ly.getD j 0) mm) (i + 1) ly.length → FZ d0 d → ok (f_L_way_L62 σ f k 266 x (nI w) y (nI v) (nI ly.length) (nI (mm + 1)) (nI (ed (fun i => lx.getD i 0) (fun j => ly.getD j 0) mm i)) (nI (47 + i)) d) Q := by
  have x16 := hlx.1
  have y16 := hly.1
  have bnd : ∀ i j, i ≤ 16 → j ≤ 16 → ed (fun i => lx.getD i 0) (fun j => ly.getD j 0) i j ≤ 32 := fun i j h1 h2 => by have := ed_le (fun i => lx.getD i 0) (fun j => ly.getD j 0) i j; omega
  intro m
  induction m with
  | zero =>
    intro i f d hi hf g1 F
    cases f with
    | zero => omega
    | succ f =>
      show ok (f_L_way_B62 σ (f_L_way_L62 σ f k 266 x (nI w) y (nI v) (nI ly.length) (nI (mm + 1))) k 266 x (nI w) y (nI v) (nI ly.length) (nI (mm + 1)) (nI (ed (fun i => lx.getD i 0) (fun j => ly.getD j 0) mm i)) (nI (47 + i)) d) Q
      simp (disch := first | assumption | omega) only [f_L_way_B62, il_0, il_1, il_2, il_3, il_4, il_5, il_6, il_7, il_8, il_9, il_10, il_11, il_12, il_13, il_15, il_16, il_17, il_18, il_19, il_20, il_21, il_22, il_23, il_24, il_26, il_27, il_28, il_30, il_32, il_34, il_36, il_38, il_40, il_43, il_44, il_46, il_47, il_48, il_49, il_50, il_51, il_60, il_64, il_100, il_108, il_111, il_127, il_971, il_972, il_999, il_1000, il_1024, il_1087, il_2500, il_5000, il_9999, il_60000, il_2147483647, nI_add, nI_mulI, nI_subI, nI_divI, nI_cl, nI_leJ, nI_ltJ, nI_eqJ, nI_neM, nI_neM', il_31]
      rw [if_pos (by omega)]
      exact hk d (fun j hj => g1.lo (by omega) hj) F
  | succ m ih =>
    intro i f d hi hf g1 F
    cases f with
    | zero => omega
    | succ f =>
      have q1 := L_sign (k := mm) hS hx hw (h0.e (by rw [F.2.2])) hlx (show mm < 2147483648 by omega)
      have q2 := L_sign (k := i) hS hy hv (g0.e (by rw [F.2.2])) hly (show i < 2147483648 by omega)
      rw [atI_t (by omega)] at q1 q2
      have t1 := hlx.g mm
      have t2 := hly.g i
      have r1 := g1.hi (j := i + 1) (by omega) (by omega)
      have r2 := g1.lo (j := i) (by omega) (by omega)
      have e1 : 46 + (i + 1) = 47 + i := by omega
      rw [e1] at r1
      have e2 : 47 + i - 47 = i := by omega
      have e3 : 47 + i - 1 = 46 + i := by omega
      have e4 : mm + 1 - 1 = mm := by omega
      have h64 : 47 + i < 64 := by omega
      have b1 := bnd mm i (by omega) (by omega)
      have b2 := bnd mm (i + 1) (by omega) (by omega)
      have b3 := bnd (mm + 1) i (by omega) (by omega)
      have es := ed_ss (fun i => lx.getD i 0) (fun j => ly.getD j 0) mm i
      have IH : ∀ z, z = ed (fun i => lx.getD i 0) (fun j => ly.getD j 0) (mm + 1) (i + 1) → ok (f_L_way_L62 σ f k 266 x (nI w) y (nI v) (nI ly.length) (nI (mm + 1)) (nI (ed (fun i => lx.getD i 0) (fun j => ly.getD j 0) mm (i + 1))) (nI (47 + i + 1)) (aw_sI d 266 (47 + i) (nI z))) Q := fun z hz => by
        have h9 := ih (i + 1) f (aw_sI d 266 (46 + (i + 1)) (nI z)) (by omega) (by omega) (g1.st hz) (F.w (by omega))
        rw [e1] at h9
        exact h9
      have hJ : ∀ s, s ≤ 40 → s = ed (fun i => lx.getD i 0) (fun j => ly.getD j 0) mm i + (if lx.getD mm 0 = ly.getD i 0 then 0 else 1) → ok (f_L_way_J104 σ (f_L_way_L62 σ f k 266 x (nI w) y (nI v) (nI ly.length) (nI (mm + 1))) (nI s) 266 x (nI w) y (nI v) (nI ly.length) (nI (mm + 1)) (nI (47 + i)) d) Q := by
        intro s hs hs2
        rw [← hs2] at es
        simp (disch := first | assumption | omega) only [f_L_way_J104, f_L_way_J134, f_L_way_J165, r1, r2, e3, lo_0 hS, lo_1 hS, lo_33 hS, lo_34 hS, lo_89 hS, lo_100 hS, lo_123 hS, lo_146 hS, lo_148 hS, lo_176 hS, lo_182 hS, lo_D hS, lo_G hS, lr_37 hS, lr_93 hS, lr_101 hS, lr_124 hS, lr_152 hS, lr_169 hS, lr_0_0 hS, lr_0_1 hS, lr_0_2 hS, lr_0_3 hS, lr_0_5 hS, lr_0_6 hS, lr_0_7 hS, lr_0_8 hS, lr_0_9 hS, lr_0_10 hS, lr_0_11 hS, lr_0_12 hS, lr_1_0 hS, lr_1_2 hS, lr_33_0 hS, lr_33_1 hS, lr_33_2 hS, lr_33_3 hS, lr_34_0 hS, lr_89_0 hS, lr_89_1 hS, lr_89_2 hS, lr_89_3 hS, lr_89_4 hS, lr_89_5 hS, lr_100_0 hS, lr_100_1 hS, lr_123_0 hS, lr_123_1 hS, lr_146_0 hS, lr_148_0 hS, lr_148_1 hS, lr_148_2 hS, lr_148_3 hS, lr_148_4 hS, lr_148_5 hS, lr_176_0 hS, lr_176_1 hS, lr_176_4 hS, lr_176_6 hS, lr_176_7 hS, lr_182_0 hS, lr_D_0 hS, lr_D_1 hS, lr_D_2 hS, lr_D_3 hS, lr_D_5 hS, lr_D_6 hS, lr_D_r hS, lr_31 hS, lr_32 hS, lr_G_2 hS, lr_G_3 hS, lr_G_4 hS, li_2 hS, li_3 hS, li_31 hS, li_32 hS, li_35 hS, li_36 hS, li_37 hS, li_88 hS, li_90 hS, li_91 hS, li_92 hS, li_93 hS, li_98 hS, li_99 hS, li_101 hS, li_122 hS, li_124 hS, li_145 hS, li_147 hS, li_149 hS, li_150 hS, li_151 hS, li_152 hS, li_169 hS, li_175 hS, li_177 hS, li_178 hS, li_179 hS, li_180 hS, li_181 hS, li_183 hS, li_265 hS, li_266 hS, li_267 hS, li_268 hS, li_269 hS, li_270 hS, li_271 hS, li_272 hS, li_273 hS, li_274 hS, li_275 hS, li_276 hS, li_38 hS, li_94 hS, li_102 hS, li_125 hS, li_153 hS, li_170 hS, li_D_1 hS, li_D_2 hS, li_D_3 hS, li_D_4 hS, li_D_5 hS, li_D_26 hS, li_D_r hS, li_G_1 hS, li_G_2 hS, li_G_3 hS, li_rA hS, li_rK hS, li_rX hS, il_0, il_1, il_2, il_3, il_4, il_5, il_6, il_7, il_8, il_9, il_10, il_11, il_12, il_13, il_15, il_16, il_17, il_18, il_19, il_20, il_21, il_22, il_23, il_24, il_26, il_27, il_28, il_30, il_32, il_34, il_36, il_38, il_40, il_43, il_44, il_46, il_47, il_48, il_49, il_50, il_51, il_60, il_64, il_100, il_108, il_111, il_127, il_971, il_972, il_999, il_1000, il_1024, il_1087, il_2500, il_5000, il_9999, il_60000, il_2147483647, nI_add, nI_mulI, nI_subI, nI_divI, nI_cl, nI_leJ, nI_ltJ, nI_eqJ, nI_neM, nI_neM', il_31, aw_sI_e, aw_sI_n, aw_sI_2, aw_sL_e, aw_sL_n, aw_sL_1, Option.bind_some, aw_chkT, ck_and0, ck_and1, bI_t, bI_f, nar_0, nar_1]
        by_cases c1 : s ≤ ed (fun i => lx.getD i 0) (fun j => ly.getD j 0) mm (i + 1) + 1
        · rw [if_pos c1]
          by_cases c2 : s ≤ ed (fun i => lx.getD i 0) (fun j => ly.getD j 0) (mm + 1) i + 1
          · rw [if_pos c2]; exact IH _ (by omega)
          · rw [if_neg c2]; exact IH _ (by omega)
        · rw [if_neg c1]
          by_cases c2 : ed (fun i => lx.getD i 0) (fun j => ly.getD j 0) mm (i + 1) + 1 ≤ ed (fun i => lx.getD i 0) (fun j => ly.getD j 0) (mm + 1) i + 1
          · rw [if_pos c2]; exact IH _ (by omega)
          · rw [if_neg c2]; exact IH _ (by omega)
      show ok (f_L_way_B62 σ (f_L_way_L62 σ f k 266 x (nI w) y (nI v) (nI ly.length) (nI (mm + 1))) k 266 x (nI w) y (nI v) (nI ly.length) (nI (mm + 1)) (nI (ed (fun i => lx.getD i 0) (fun j => ly.getD j 0) mm i)) (nI (47 + i)) d) Q
      simp (disch := first | assumption | omega) only [f_L_way_B62, q1, q2, e2, e4, lo_0 hS, lo_1 hS, lo_33 hS, lo_34 hS, lo_89 hS, lo_100 hS, lo_123 hS, lo_146 hS, lo_148 hS, lo_176 hS, lo_182 hS, lo_D hS, lo_G hS, lr_37 hS, lr_93 hS, lr_101 hS, lr_124 hS, lr_152 hS, lr_169 hS, lr_0_0 hS, lr_0_1 hS, lr_0_2 hS, lr_0_3 hS, lr_0_5 hS, lr_0_6 hS, lr_0_7 hS, lr_0_8 hS, lr_0_9 hS, lr_0_10 hS, lr_0_11 hS, lr_0_12 hS, lr_1_0 hS, lr_1_2 hS, lr_33_0 hS, lr_33_1 hS, lr_33_2 hS, lr_33_3 hS, lr_34_0 hS, lr_89_0 hS, lr_89_1 hS, lr_89_2 hS, lr_89_3 hS, lr_89_4 hS, lr_89_5 hS, lr_100_0 hS, lr_100_1 hS, lr_123_0 hS, lr_123_1 hS, lr_146_0 hS, lr_148_0 hS, lr_148_1 hS, lr_148_2 hS, lr_148_3 hS, lr_148_4 hS, lr_148_5 hS, lr_176_0 hS, lr_176_1 hS, lr_176_4 hS, lr_176_6 hS, lr_176_7 hS, lr_182_0 hS, lr_D_0 hS, lr_D_1 hS, lr_D_2 hS, lr_D_3 hS, lr_D_5 hS, lr_D_6 hS, lr_D_r hS, lr_31 hS, lr_32 hS, lr_G_2 hS, lr_G_3 hS, lr_G_4 hS, li_2 hS, li_3 hS, li_31 hS, li_32 hS, li_35 hS, li_36 hS, li_37 hS, li_88 hS, li_90 hS, li_91 hS, li_92 hS, li_93 hS, li_98 hS, li_99 hS, li_101 hS, li_122 hS, li_124 hS, li_145 hS, li_147 hS, li_149 hS, li_150 hS, li_151 hS, li_152 hS, li_169 hS, li_175 hS, li_177 hS, li_178 hS, li_179 hS, li_180 hS, li_181 hS, li_183 hS, li_265 hS, li_266 hS, li_267 hS, li_268 hS, li_269 hS, li_270 hS, li_271 hS, li_272 hS, li_273 hS, li_274 hS, li_275 hS, li_276 hS, li_38 hS, li_94 hS, li_102 hS, li_125 hS, li_153 hS, li_170 hS, li_D_1 hS, li_D_2 hS, li_D_3 hS, li_D_4 hS, li_D_5 hS, li_D_26 hS, li_D_r hS, li_G_1 hS, li_G_2 hS, li_G_3 hS, li_rA hS, li_rK hS, li_rX hS, il_0, il_1, il_2, il_3, il_4, il_5, il_6, il_7, il_8, il_9, il_10, il_11, il_12, il_13, il_15, il_16, il_17, il_18, il_19, il_20, il_21, il_22, il_23, il_24, il_26, il_27, il_28, il_30, il_32, il_34, il_36, il_38, il_40, il_43, il_44, il_46, il_47, il_48, il_49, il_50, il_51, il_60, il_64, il_100, il_108, il_111, il_127, il_971, il_972, il_999, il_1000, il_1024, il_1087, il_2500, il_5000, il_9999, il_60000, il_2147483647, nI_add, nI_mulI, nI_subI, nI_divI, nI_cl, nI_leJ, nI_ltJ, nI_eqJ, nI_neM, nI_neM', il_31, aw_sI_e, aw_sI_n, aw_sI_2, aw_sL_e, aw_sL_n, aw_sL_1, Option.bind_some, aw_chkT, ck_and0, ck_and1, bI_t, bI_f, nar_0, nar_1]
      rw [if_neg (by omega)]
      by_cases c0 : lx.getD mm 0 = ly.getD i 0
      · rw [if_pos c0]; exact hJ _ (by omega) (by rw [if_pos c0]; rfl)
      · rw [if_neg c0]; exact hJ _ (by omega) (by rw [if_neg c0])
theorem L_way_L36 {σ : Sg} {d0 : Dt} {x w y v : Nat} {lx ly : List Nat} {Q : Int32 × Dt → Prop} {k : Dt → Option (Int32 × Dt)} (hS : Lay σ) (hx : x = 275 ∨ x = 276) (hy : y = 275 ∨ y = 276) (hw : w < 6) (hv : v < 6) (h0 : Lx d0 x w lx) (g0 : Lx d0 y v ly) (hlx : wrd lx) (hly : wrd ly) (hk : ∀ d, d.1 266 (46 + ly.length) = nI (edL lx ly) → FZ d0 d → ok (k d) Q) : ∀ (m i f : Nat) (d : Dt), i + m = lx.length → m < f → (∀ j, j ≤ ly.length → d.1 266 (46 + j) = nI (ed (fun i => lx.getD i 0) (fun j => ly.getD j 0) i j)) → FZ d0 d → ok (f_L_way_L36 σ f k 266 x (nI w) y (nI v) (nI ly.length) (nI (i + 1)) d) Q := by
  have x16 := hlx.1
  have y16 := hly.1
  intro m
  induction m with
  | zero =>
    intro i f d hi hf g1 F
    cases f with
    | zero => omega
    | succ f =>
      have qm := L_many hS hx hw (h0.e (by rw [F.2.2])) hlx
      show ok (f_L_way_B36 σ (f_L_way_L36 σ f k 266 x (nI w) y (nI v) (nI ly.length)) k 266 x (nI w) y (nI v) (nI ly.length) (nI (i + 1)) d) Q
      simp (disch := first | assumption | omega) only [f_L_way_B36, qm, il_0, il_1, il_2, il_3, il_4, il_5, il_6, il_7, il_8, il_9, il_10, il_11, il_12, il_13, il_15, il_16, il_17, il_18, il_19, il_20, il_21, il_22, il_23, il_24, il_26, il_27, il_28, il_30, il_32, il_34, il_36, il_38, il_40, il_43, il_44, il_46, il_47, il_48, il_49, il_50, il_51, il_60, il_64, il_100, il_108, il_111, il_127, il_971, il_972, il_999, il_1000, il_1024, il_1087, il_2500, il_5000, il_9999, il_60000, il_2147483647, nI_add, nI_mulI, nI_subI, nI_divI, nI_cl, nI_leJ, nI_ltJ, nI_eqJ, nI_neM, nI_neM', il_31, aw_sI_e, aw_sI_n, aw_sI_2, aw_sL_e, aw_sL_n, aw_sL_1, Option.bind_some, aw_chkT, ck_and0, ck_and1, bI_t, bI_f, nar_0, nar_1]
      rw [if_pos (by omega)]
      obtain rfl : i = lx.length := by omega
      exact hk d (g1 _ (Nat.le_refl _)) F
  | succ m ih =>
    intro i f d hi hf g1 F
    cases f with
    | zero => omega
    | succ f =>
      have qm := L_many hS hx hw (h0.e (by rw [F.2.2])) hlx
      have q0 := g1 0 (by omega)
      rw [Nat.add_zero] at q0
      have e1 : ∀ r, aw_sI d 266 46 r = aw_sI d 266 (46 + 0) r := fun _ => rfl
      show ok (f_L_way_B36 σ (f_L_way_L36 σ f k 266 x (nI w) y (nI v) (nI ly.length)) k 266 x (nI w) y (nI v) (nI ly.length) (nI (i + 1)) d) Q
      simp (disch := first | assumption | omega) only [f_L_way_B36, qm, q0, lo_0 hS, lo_1 hS, lo_33 hS, lo_34 hS, lo_89 hS, lo_100 hS, lo_123 hS, lo_146 hS, lo_148 hS, lo_176 hS, lo_182 hS, lo_D hS, lo_G hS, lr_37 hS, lr_93 hS, lr_101 hS, lr_124 hS, lr_152 hS, lr_169 hS, lr_0_0 hS, lr_0_1 hS, lr_0_2 hS, lr_0_3 hS, lr_0_5 hS, lr_0_6 hS, lr_0_7 hS, lr_0_8 hS, lr_0_9 hS, lr_0_10 hS, lr_0_11 hS, lr_0_12 hS, lr_1_0 hS, lr_1_2 hS, lr_33_0 hS, lr_33_1 hS, lr_33_2 hS, lr_33_3 hS, lr_34_0 hS, lr_89_0 hS, lr_89_1 hS, lr_89_2 hS, lr_89_3 hS, lr_89_4 hS, lr_89_5 hS, lr_100_0 hS, lr_100_1 hS, lr_123_0 hS, lr_123_1 hS, lr_146_0 hS, lr_148_0 hS, lr_148_1 hS, lr_148_2 hS, lr_148_3 hS, lr_148_4 hS, lr_148_5 hS, lr_176_0 hS, lr_176_1 hS, lr_176_4 hS, lr_176_6 hS, lr_176_7 hS, lr_182_0 hS, lr_D_0 hS, lr_D_1 hS, lr_D_2 hS, lr_D_3 hS, lr_D_5 hS, lr_D_6 hS, lr_D_r hS, lr_31 hS, lr_32 hS, lr_G_2 hS, lr_G_3 hS, lr_G_4 hS, li_2 hS, li_3 hS, li_31 hS, li_32 hS, li_35 hS, li_36 hS, li_37 hS, li_88 hS, li_90 hS, li_91 hS, li_92 hS, li_93 hS, li_98 hS, li_99 hS, li_101 hS, li_122 hS, li_124 hS, li_145 hS, li_147 hS, li_149 hS, li_150 hS, li_151 hS, li_152 hS, li_169 hS, li_175 hS, li_177 hS, li_178 hS, li_179 hS, li_180 hS, li_181 hS, li_183 hS, li_265 hS, li_266 hS, li_267 hS, li_268 hS, li_269 hS, li_270 hS, li_271 hS, li_272 hS, li_273 hS, li_274 hS, li_275 hS, li_276 hS, li_38 hS, li_94 hS, li_102 hS, li_125 hS, li_153 hS, li_170 hS, li_D_1 hS, li_D_2 hS, li_D_3 hS, li_D_4 hS, li_D_5 hS, li_D_26 hS, li_D_r hS, li_G_1 hS, li_G_2 hS, li_G_3 hS, li_rA hS, li_rK hS, li_rX hS, il_0, il_1, il_2, il_3, il_4, il_5, il_6, il_7, il_8, il_9, il_10, il_11, il_12, il_13, il_15, il_16, il_17, il_18, il_19, il_20, il_21, il_22, il_23, il_24, il_26, il_27, il_28, il_30, il_32, il_34, il_36, il_38, il_40, il_43, il_44, il_46, il_47, il_48, il_49, il_50, il_51, il_60, il_64, il_100, il_108, il_111, il_127, il_971, il_972, il_999, il_1000, il_1024, il_1087, il_2500, il_5000, il_9999, il_60000, il_2147483647, nI_add, nI_mulI, nI_subI, nI_divI, nI_cl, nI_leJ, nI_ltJ, nI_eqJ, nI_neM, nI_neM', il_31, aw_sI_e, aw_sI_n, aw_sI_2, aw_sL_e, aw_sL_n, aw_sL_1, Option.bind_some, aw_chkT, ck_and0, ck_and1, bI_t, bI_f, nar_0, nar_1]
      rw [if_neg (by omega)]
      refine L_way_L62 (mm := i) (d0 := d0) (k := fun d_15 => f_L_way_L36 σ f k 266 x (nI w) y (nI v) (nI ly.length) (nI (i + 1 + 1)) d_15) hS hx hy hw hv h0 g0 hlx hly (by omega) (fun d' a1 a2 => ih (i + 1) f d' (by omega) (by omega) a1 a2) ly.length 0 aw_FU _ (by omega) (by show _ < 5000; omega) ?_ (F.w (by omega))
      have hR : Rw d (ed (fun i => lx.getD i 0) (fun j => ly.getD j 0) (i + 1)) (ed (fun i => lx.getD i 0) (fun j => ly.getD j 0) i) 0 ly.length := fun j hj => by rw [if_neg (by omega)]; exact g1 j hj
      exact hR.st (v := i + 1) (by rw [ed_i0])
theorem L_way {σ : Sg} {d : Dt} {x w y v : Nat} {lx ly : List Nat} (hS : Lay σ) (hx : x = 275 ∨ x = 276) (hy : y = 275 ∨ y = 276) (hw : w < 6) (hv : v < 6) (h0 : Lx d x w lx) (g0 : Lx d y v ly) (hlx : wrd lx) (hly : wrd ly) : ok (f_L_way σ 266 x (nI w) y (nI v) d) (fun z => z.1 = nI (edL lx ly) ∧ FZ d z.2) := by
  have x16 := hlx.1
  have y16 := hly.1
  unfold f_L_way
  refine ok_bs (L_many hS hy hv g0 hly) ?_
  show ok (f_L_way_L11 σ aw_FU _ 266 x (nI w) y (nI v) (nI ly.length) (nI 0) d) _
  refine L_way_L11 (d0 := d) hS y16 (fun d' g1 F => ?_) (ly.length + 1) 0 aw_FU d (by omega) (by show _ < 5000; omega) (fun j hj => by omega) FZ.rf
  show ok (f_L_way_L36 σ aw_FU _ 266 x (nI w) y (nI v) (nI ly.length) (nI (0 + 1)) d') _
  refine L_way_L36 (d0 := d) hS hx hy hw hv h0 g0 hlx hly (fun d'' g2 F2 => ?_) lx.length 0 aw_FU d' (by omega) (by show _ < 5000; omega) g1 F
  have h64 : 46 + ly.length < 64 := by omega
  simp (disch := first | assumption | omega) only [g2, lo_0 hS, lo_1 hS, lo_33 hS, lo_34 hS, lo_89 hS, lo_100 hS, lo_123 hS, lo_146 hS, lo_148 hS, lo_176 hS, lo_182 hS, lo_D hS, lo_G hS, lr_37 hS, lr_93 hS, lr_101 hS, lr_124 hS, lr_152 hS, lr_169 hS, lr_0_0 hS, lr_0_1 hS, lr_0_2 hS, lr_0_3 hS, lr_0_5 hS, lr_0_6 hS, lr_0_7 hS, lr_0_8 hS, lr_0_9 hS, lr_0_10 hS, lr_0_11 hS, lr_0_12 hS, lr_1_0 hS, lr_1_2 hS, lr_33_0 hS, lr_33_1 hS, lr_33_2 hS, lr_33_3 hS, lr_34_0 hS, lr_89_0 hS, lr_89_1 hS, lr_89_2 hS, lr_89_3 hS, lr_89_4 hS, lr_89_5 hS, lr_100_0 hS, lr_100_1 hS, lr_123_0 hS, lr_123_1 hS, lr_146_0 hS, lr_148_0 hS, lr_148_1 hS, lr_148_2 hS, lr_148_3 hS, lr_148_4 hS, lr_148_5 hS, lr_176_0 hS, lr_176_1 hS, lr_176_4 hS, lr_176_6 hS, lr_176_7 hS, lr_182_0 hS, lr_D_0 hS, lr_D_1 hS, lr_D_2 hS, lr_D_3 hS, lr_D_5 hS, lr_D_6 hS, lr_D_r hS, lr_31 hS, lr_32 hS, lr_G_2 hS, lr_G_3 hS, lr_G_4 hS, li_2 hS, li_3 hS, li_31 hS, li_32 hS, li_35 hS, li_36 hS, li_37 hS, li_88 hS, li_90 hS, li_91 hS, li_92 hS, li_93 hS, li_98 hS, li_99 hS, li_101 hS, li_122 hS, li_124 hS, li_145 hS, li_147 hS, li_149 hS, li_150 hS, li_151 hS, li_152 hS, li_169 hS, li_175 hS, li_177 hS, li_178 hS, li_179 hS, li_180 hS, li_181 hS, li_183 hS, li_265 hS, li_266 hS, li_267 hS, li_268 hS, li_269 hS, li_270 hS, li_271 hS, li_272 hS, li_273 hS, li_274 hS, li_275 hS, li_276 hS, li_38 hS, li_94 hS, li_102 hS, li_125 hS, li_153 hS, li_170 hS, li_D_1 hS, li_D_2 hS, li_D_3 hS, li_D_4 hS, li_D_5 hS, li_D_26 hS, li_D_r hS, li_G_1 hS, li_G_2 hS, li_G_3 hS, li_rA hS, li_rK hS, li_rX hS, il_0, il_1, il_2, il_3, il_4, il_5, il_6, il_7, il_8, il_9, il_10, il_11, il_12, il_13, il_15, il_16, il_17, il_18, il_19, il_20, il_21, il_22, il_23, il_24, il_26, il_27, il_28, il_30, il_32, il_34, il_36, il_38, il_40, il_43, il_44, il_46, il_47, il_48, il_49, il_50, il_51, il_60, il_64, il_100, il_108, il_111, il_127, il_971, il_972, il_999, il_1000, il_1024, il_1087, il_2500, il_5000, il_9999, il_60000, il_2147483647, nI_add, nI_mulI, nI_subI, nI_divI, nI_cl, nI_leJ, nI_ltJ, nI_eqJ, nI_neM, nI_neM', il_31, aw_sI_e, aw_sI_n, aw_sI_2, aw_sL_e, aw_sL_n, aw_sL_1, Option.bind_some, aw_chkT, ck_and0, ck_and1, bI_t, bI_f, nar_0, nar_1]
  exact ok_some ⟨rfl, F2⟩
