/-! the model: travel and exchange -/

theorem M_tr_L4 {A : St} {σ : Sg} {d : Dt} {D : Nat} {k : Int32 → Dt → Option (Int32 × Dt)} {K : Nat → Nat} (hS : Lay σ) (hW : WF A) (hD5 : D < 5) (hD : D < A 11 0 0) (hwt : ∀ w, w < A 2 0 0 → d.1 269 w = nI (A 5 0 w)) (hwd : d.1 265 2 = nI (A 2 0 0)) (hK : ∀ s, s < 50 → d.1 279 (50 * D + s) = nI (K s) ∧ K s < 50) (hs : ∀ w, w < A 2 0 0 → Sp d w (own A D w)) : ∀ (m i f : Nat), i + m = A 2 0 0 → m < f → f_X11_travels_L4 σ f k 265 (nI D) (nI (sumR (fun w => sumR (fun k => A 5 0 w * adf (K ((own A D w).getD (k + 1) 0)) (K ((own A D w).getD k 0))) ((own A D w).length - 1)) i)) (nI i) d = k (nI (travK A D K)) d := by
  intro m
  induction m with
  | zero =>
    intro i f hi hf
    cases f with
    | zero => omega
    | succ f =>
      have hiN : i = A 2 0 0 := by omega
      have w2 := hW.words
      show f_X11_travels_B4 σ (f_X11_travels_L4 σ f k 265 (nI D)) k 265 (nI D) (nI (sumR (fun w => sumR (fun k => A 5 0 w * adf (K ((own A D w).getD (k + 1) 0)) (K ((own A D w).getD k 0))) ((own A D w).length - 1)) i)) (nI i) d = _
      simp (disch := first | assumption | omega) only [f_X11_travels_B4, hwd, lo_0 hS, lo_1 hS, lo_33 hS, lo_34 hS, lo_89 hS, lo_100 hS, lo_123 hS, lo_146 hS, lo_148 hS, lo_176 hS, lo_182 hS, lo_265 hS, lo_D hS, lo_G hS, lr_37 hS, lr_93 hS, lr_101 hS, lr_124 hS, lr_152 hS, lr_169 hS, lr_0_0 hS, lr_0_1 hS, lr_0_2 hS, lr_0_3 hS, lr_0_5 hS, lr_0_6 hS, lr_0_7 hS, lr_0_8 hS, lr_0_9 hS, lr_0_10 hS, lr_0_11 hS, lr_0_12 hS, lr_1_0 hS, lr_1_2 hS, lr_33_0 hS, lr_33_1 hS, lr_33_2 hS, lr_33_3 hS, lr_34_0 hS, lr_89_0 hS, lr_89_1 hS, lr_89_2 hS, lr_89_3 hS, lr_89_4 hS, lr_89_5 hS, lr_100_0 hS, lr_100_1 hS, lr_123_0 hS, lr_123_1 hS, lr_146_0 hS, lr_148_0 hS, lr_148_1 hS, lr_148_2 hS, lr_148_3 hS, lr_148_4 hS, lr_148_5 hS, lr_176_0 hS, lr_176_1 hS, lr_176_4 hS, lr_176_6 hS, lr_176_7 hS, lr_182_0 hS, lr_265_1 hS, lr_265_3 hS, lr_265_4 hS, lr_265_5 hS, lr_265_6 hS, lr_265_7 hS, lr_265_8 hS, lr_265_9 hS, lr_265_10 hS, lr_265_12 hS, lr_265_13 hS, lr_265_14 hS, lr_265_15 hS, lr_265_16 hS, lr_265_17 hS, lr_265_18 hS, lr_265_19 hS, lr_265_20 hS, lr_265_21 hS, lr_265_22 hS, lr_265_23 hS, lr_265_24 hS, lr_265_25 hS, lr_265_26 hS, lr_265_27 hS, lr_265_28 hS, lr_265_29 hS, lr_265_30 hS, lr_D_0 hS, lr_D_1 hS, lr_D_2 hS, lr_D_3 hS, lr_D_5 hS, lr_D_6 hS, lr_D_r hS, lr_31 hS, lr_32 hS, lr_G_2 hS, lr_G_3 hS, lr_G_4 hS, li_2 hS, li_3 hS, li_31 hS, li_32 hS, li_35 hS, li_36 hS, li_37 hS, li_88 hS, li_90 hS, li_91 hS, li_92 hS, li_93 hS, li_98 hS, li_99 hS, li_101 hS, li_122 hS, li_124 hS, li_145 hS, li_147 hS, li_149 hS, li_150 hS, li_151 hS, li_152 hS, li_169 hS, li_175 hS, li_177 hS, li_178 hS, li_179 hS, li_180 hS, li_181 hS, li_183 hS, li_266 hS, li_267 hS, li_268 hS, li_269 hS, li_270 hS, li_271 hS, li_272 hS, li_273 hS, li_274 hS, li_275 hS, li_276 hS, li_277 hS, li_278 hS, li_279 hS, li_280 hS, li_281 hS, li_282 hS, li_283 hS, li_284 hS, li_285 hS, li_286 hS, li_287 hS, li_288 hS, li_289 hS, li_290 hS, li_291 hS, li_292 hS, li_293 hS, li_294 hS, li_38 hS, li_94 hS, li_102 hS, li_125 hS, li_153 hS, li_170 hS, li_D_1 hS, li_D_2 hS, li_D_3 hS, li_D_4 hS, li_D_5 hS, li_D_26 hS, li_D_r hS, li_G_1 hS, li_G_2 hS, li_G_3 hS, il_0, il_1, il_2, il_3, il_4, il_5, il_6, il_7, il_8, il_9, il_10, il_11, il_12, il_15, il_16, il_17, il_18, il_20, il_27, il_31, il_32, il_35, il_36, il_40, il_43, il_44, il_46, il_47, il_49, il_50, il_80, il_99, il_100, il_108, il_111, il_127, il_235, il_250, il_640, il_971, il_972, il_999, il_1000, il_1024, il_2500, il_4444, il_9999, il_2147483647, nI_add, nI_mulI, nI_subI, nI_divI, nI_cl, nI_leJ, nI_ltJ, nI_eqJ, nI_neM, nI_neM', aw_sI_e, aw_sI_n, aw_sI_2, aw_sL_e, aw_sL_n, aw_sL_1, Option.bind_some, aw_chkT, ck_and0, ck_and1, bI_t, bI_f, nar_0, nar_1]
      rw [if_pos (by omega)]
      rw [hiN]
      try rfl
  | succ m ih =>
    intro i f hi hf
    cases f with
    | zero => omega
    | succ f =>
      have hlt : i < A 2 0 0 := by omega
      have w2 := hW.words
      show f_X11_travels_B4 σ (f_X11_travels_L4 σ f k 265 (nI D)) k 265 (nI D) (nI (sumR (fun w => sumR (fun k => A 5 0 w * adf (K ((own A D w).getD (k + 1) 0)) (K ((own A D w).getD k 0))) ((own A D w).length - 1)) i)) (nI i) d = _
      simp (disch := first | assumption | omega) only [f_X11_travels_B4, hwd, lo_0 hS, lo_1 hS, lo_33 hS, lo_34 hS, lo_89 hS, lo_100 hS, lo_123 hS, lo_146 hS, lo_148 hS, lo_176 hS, lo_182 hS, lo_265 hS, lo_D hS, lo_G hS, lr_37 hS, lr_93 hS, lr_101 hS, lr_124 hS, lr_152 hS, lr_169 hS, lr_0_0 hS, lr_0_1 hS, lr_0_2 hS, lr_0_3 hS, lr_0_5 hS, lr_0_6 hS, lr_0_7 hS, lr_0_8 hS, lr_0_9 hS, lr_0_10 hS, lr_0_11 hS, lr_0_12 hS, lr_1_0 hS, lr_1_2 hS, lr_33_0 hS, lr_33_1 hS, lr_33_2 hS, lr_33_3 hS, lr_34_0 hS, lr_89_0 hS, lr_89_1 hS, lr_89_2 hS, lr_89_3 hS, lr_89_4 hS, lr_89_5 hS, lr_100_0 hS, lr_100_1 hS, lr_123_0 hS, lr_123_1 hS, lr_146_0 hS, lr_148_0 hS, lr_148_1 hS, lr_148_2 hS, lr_148_3 hS, lr_148_4 hS, lr_148_5 hS, lr_176_0 hS, lr_176_1 hS, lr_176_4 hS, lr_176_6 hS, lr_176_7 hS, lr_182_0 hS, lr_265_1 hS, lr_265_3 hS, lr_265_4 hS, lr_265_5 hS, lr_265_6 hS, lr_265_7 hS, lr_265_8 hS, lr_265_9 hS, lr_265_10 hS, lr_265_12 hS, lr_265_13 hS, lr_265_14 hS, lr_265_15 hS, lr_265_16 hS, lr_265_17 hS, lr_265_18 hS, lr_265_19 hS, lr_265_20 hS, lr_265_21 hS, lr_265_22 hS, lr_265_23 hS, lr_265_24 hS, lr_265_25 hS, lr_265_26 hS, lr_265_27 hS, lr_265_28 hS, lr_265_29 hS, lr_265_30 hS, lr_D_0 hS, lr_D_1 hS, lr_D_2 hS, lr_D_3 hS, lr_D_5 hS, lr_D_6 hS, lr_D_r hS, lr_31 hS, lr_32 hS, lr_G_2 hS, lr_G_3 hS, lr_G_4 hS, li_2 hS, li_3 hS, li_31 hS, li_32 hS, li_35 hS, li_36 hS, li_37 hS, li_88 hS, li_90 hS, li_91 hS, li_92 hS, li_93 hS, li_98 hS, li_99 hS, li_101 hS, li_122 hS, li_124 hS, li_145 hS, li_147 hS, li_149 hS, li_150 hS, li_151 hS, li_152 hS, li_169 hS, li_175 hS, li_177 hS, li_178 hS, li_179 hS, li_180 hS, li_181 hS, li_183 hS, li_266 hS, li_267 hS, li_268 hS, li_269 hS, li_270 hS, li_271 hS, li_272 hS, li_273 hS, li_274 hS, li_275 hS, li_276 hS, li_277 hS, li_278 hS, li_279 hS, li_280 hS, li_281 hS, li_282 hS, li_283 hS, li_284 hS, li_285 hS, li_286 hS, li_287 hS, li_288 hS, li_289 hS, li_290 hS, li_291 hS, li_292 hS, li_293 hS, li_294 hS, li_38 hS, li_94 hS, li_102 hS, li_125 hS, li_153 hS, li_170 hS, li_D_1 hS, li_D_2 hS, li_D_3 hS, li_D_4 hS, li_D_5 hS, li_D_26 hS, li_D_r hS, li_G_1 hS, li_G_2 hS, li_G_3 hS, il_0, il_1, il_2, il_3, il_4, il_5, il_6, il_7, il_8, il_9, il_10, il_11, il_12, il_15, il_16, il_17, il_18, il_20, il_27, il_31, il_32, il_35, il_36, il_40, il_43, il_44, il_46, il_47, il_49, il_50, il_80, il_99, il_100, il_108, il_111, il_127, il_235, il_250, il_640, il_971, il_972, il_999, il_1000, il_1024, il_2500, il_4444, il_9999, il_2147483647, nI_add, nI_mulI, nI_subI, nI_divI, nI_cl, nI_leJ, nI_ltJ, nI_eqJ, nI_neM, nI_neM', aw_sI_e, aw_sI_n, aw_sI_2, aw_sL_e, aw_sL_n, aw_sL_1, Option.bind_some, aw_chkT, ck_and0, ck_and1, bI_t, bI_f, nar_0, nar_1]
      rw [if_neg (by omega)]
      have hl := (own_len hW D hlt).2
      rw [← ih (i + 1) f (by omega) (by omega)]
      have h := M_tr_L20 (k := fun x2_17 d_18 => f_X11_travels_L4 σ f k 265 (nI D) x2_17 (nI (i + 1)) d_18) hS hW hD5 hD hwt hwd hK hs hlt (c := sumR (fun w => sumR (fun k => A 5 0 w * adf (K ((own A D w).getD (k + 1) 0)) (K ((own A D w).getD k 0))) ((own A D w).length - 1)) i) ((own A D i).length - 1) 0 aw_FU (by omega) (by show _ < 5000; omega)
      simp only [sumR, Nat.add_zero] at h
      simp only [sumR]
      exact h

theorem M_travels {A : St} {σ : Sg} {d : Dt} {D : Nat} {K : Nat → Nat} (hS : Lay σ) (hW : WF A) (hD5 : D < 5) (hD : D < A 11 0 0) (hwt : ∀ w, w < A 2 0 0 → d.1 269 w = nI (A 5 0 w)) (hwd : d.1 265 2 = nI (A 2 0 0)) (hK : ∀ s, s < 50 → d.1 279 (50 * D + s) = nI (K s) ∧ K s < 50) (hs : ∀ w, w < A 2 0 0 → Sp d w (own A D w)) : f_X11_travels σ 265 (nI D) d = some (nI (travK A D K), d) := by
  have h := M_tr_L4 (k := fun x d => some (x, d)) hS hW hD5 hD hwt hwd hK hs (A 2 0 0) 0 aw_FU (by omega) (by show _ < 5000; have := hW.words; omega)
  exact h
theorem travK_le {A : St} (hW : WF A) {D : Nat} {K : Nat → Nat} (hK : ∀ s, s < 50 → K s < 50) (hD : D < A 11 0 0) : travK A D K ≤ 15000000 := by
  have h1 : ∀ w, w < A 2 0 0 → sumR (fun k => A 5 0 w * adf (K ((own A D w).getD (k + 1) 0)) (K ((own A D w).getD k 0))) ((own A D w).length - 1) ≤ 734265 := fun w hw => by
    have h2 := sumR_le (g := fun k => A 5 0 w * adf (K ((own A D w).getD (k + 1) 0)) (K ((own A D w).getD k 0))) (n := (own A D w).length - 1) (c := 999 * 49) (fun u _ => by
      refine Nat.mul_le_mul (wt_lt hW hw) ?_
      have t1 := hK _ (own_lt hW hD hw u)
      have t2 := hK _ (own_lt hW hD hw (u + 1))
      unfold adf
      split <;> omega)
    have hl := (own_len hW D hw).2
    have h3 : ((own A D w).length - 1) * (999 * 49) ≤ 15 * (999 * 49) := Nat.mul_le_mul_right _ (by omega)
    omega
  have h := sumR_le h1
  have h4 : A 2 0 0 * 734265 ≤ 20 * 734265 := Nat.mul_le_mul_right _ hW.words
  unfold travK; omega
def o_travel (A : St) (D : Int32) : Res := if ix D (A 11 0 0) = true then (0, nI (travK A D.toNatClampNeg (A 16 D.toNatClampNeg)), A) else o_bad A 1
theorem M_travel {A : St} {σ : Sg} {d : Dt} (hS : Lay σ) (hW : WF A) (hM : RepM A d) (D : Int32) : ok (f_X11_travel σ 265 D d) (PM d (o_travel A D)) := by
  have h5 := hW.des
  have w2 := hW.words
  rcases ix_or D (A 11 0 0) (by omega) with ⟨D, hD, rfl, hi⟩ | ⟨hi, -⟩
  · have hb2 := (hW.G hD).2.1
    have q1 : d.1 276 D = dI (A 13 0 D) := rm_base hM (show D < 5 by omega)
    obtain ⟨z, hz, z1, z2, z3⟩ := M_spellsAll hS hW (hM.w_x (c := 265) (j := 31) (x := nI 0) (by omega)) hD (show A 13 0 D < 4 by omega) (show 0 ≤ 20 by omega)
    have hMz := (hM.w_x (c := 265) (j := 31) (x := nI 0) (by omega)).frH z3 (by omega)
    simp only [Nat.zero_add] at z1
    have q2 := M_travels (K := A 16 D) hS hW (show D < 5 by omega) hD (fun w hw => rm_wt hMz (by omega)) (rm_words hMz) (fun s hs => ⟨rm_key hMz (by omega) hs, (hW.G hD).2.2.2.2 s hs⟩) z1
    simp (disch := first | assumption | omega) only [o_travel, hi, if_true, nI_cl]
    simp (disch := first | assumption | omega) only [f_X11_travel_J14, f_X11_travel, hi, q1, hz, q2, M_isDesign hS hW hM, M_isWord hS hW hM, M_isDialect, M_isSign, M_isIn, M_fail0 hS, M_failN hS, bI_t, bI_f, ↓reduceIte, Nat.reduceEqDiff, Nat.one_ne_zero, if_true, if_false, lo_0 hS, lo_1 hS, lo_33 hS, lo_34 hS, lo_89 hS, lo_100 hS, lo_123 hS, lo_146 hS, lo_148 hS, lo_176 hS, lo_182 hS, lo_265 hS, lo_D hS, lo_G hS, lr_37 hS, lr_93 hS, lr_101 hS, lr_124 hS, lr_152 hS, lr_169 hS, lr_0_0 hS, lr_0_1 hS, lr_0_2 hS, lr_0_3 hS, lr_0_5 hS, lr_0_6 hS, lr_0_7 hS, lr_0_8 hS, lr_0_9 hS, lr_0_10 hS, lr_0_11 hS, lr_0_12 hS, lr_1_0 hS, lr_1_2 hS, lr_33_0 hS, lr_33_1 hS, lr_33_2 hS, lr_33_3 hS, lr_34_0 hS, lr_89_0 hS, lr_89_1 hS, lr_89_2 hS, lr_89_3 hS, lr_89_4 hS, lr_89_5 hS, lr_100_0 hS, lr_100_1 hS, lr_123_0 hS, lr_123_1 hS, lr_146_0 hS, lr_148_0 hS, lr_148_1 hS, lr_148_2 hS, lr_148_3 hS, lr_148_4 hS, lr_148_5 hS, lr_176_0 hS, lr_176_1 hS, lr_176_4 hS, lr_176_6 hS, lr_176_7 hS, lr_182_0 hS, lr_265_1 hS, lr_265_3 hS, lr_265_4 hS, lr_265_5 hS, lr_265_6 hS, lr_265_7 hS, lr_265_8 hS, lr_265_9 hS, lr_265_10 hS, lr_265_12 hS, lr_265_13 hS, lr_265_14 hS, lr_265_15 hS, lr_265_16 hS, lr_265_17 hS, lr_265_18 hS, lr_265_19 hS, lr_265_20 hS, lr_265_21 hS, lr_265_22 hS, lr_265_23 hS, lr_265_24 hS, lr_265_25 hS, lr_265_26 hS, lr_265_27 hS, lr_265_28 hS, lr_265_29 hS, lr_265_30 hS, lr_D_0 hS, lr_D_1 hS, lr_D_2 hS, lr_D_3 hS, lr_D_5 hS, lr_D_6 hS, lr_D_r hS, lr_31 hS, lr_32 hS, lr_G_2 hS, lr_G_3 hS, lr_G_4 hS, li_2 hS, li_3 hS, li_31 hS, li_32 hS, li_35 hS, li_36 hS, li_37 hS, li_88 hS, li_90 hS, li_91 hS, li_92 hS, li_93 hS, li_98 hS, li_99 hS, li_101 hS, li_122 hS, li_124 hS, li_145 hS, li_147 hS, li_149 hS, li_150 hS, li_151 hS, li_152 hS, li_169 hS, li_175 hS, li_177 hS, li_178 hS, li_179 hS, li_180 hS, li_181 hS, li_183 hS, li_266 hS, li_267 hS, li_268 hS, li_269 hS, li_270 hS, li_271 hS, li_272 hS, li_273 hS, li_274 hS, li_275 hS, li_276 hS, li_277 hS, li_278 hS, li_279 hS, li_280 hS, li_281 hS, li_282 hS, li_283 hS, li_284 hS, li_285 hS, li_286 hS, li_287 hS, li_288 hS, li_289 hS, li_290 hS, li_291 hS, li_292 hS, li_293 hS, li_294 hS, li_38 hS, li_94 hS, li_102 hS, li_125 hS, li_153 hS, li_170 hS, li_D_1 hS, li_D_2 hS, li_D_3 hS, li_D_4 hS, li_D_5 hS, li_D_26 hS, li_D_r hS, li_G_1 hS, li_G_2 hS, li_G_3 hS, il_0, il_1, il_2, il_3, il_4, il_5, il_6, il_7, il_8, il_9, il_10, il_11, il_12, il_15, il_16, il_17, il_18, il_20, il_27, il_31, il_32, il_35, il_36, il_40, il_43, il_44, il_46, il_47, il_49, il_50, il_80, il_99, il_100, il_108, il_111, il_127, il_235, il_250, il_640, il_971, il_972, il_999, il_1000, il_1024, il_2500, il_4444, il_9999, il_2147483647, nI_add, nI_mulI, nI_subI, nI_divI, nI_cl, nI_leJ, nI_ltJ, nI_eqJ, nI_neM, nI_neM', aw_sI_e, aw_sI_n, aw_sI_2, aw_sL_e, aw_sL_n, aw_sL_1, Option.bind_some, aw_chkT, ck_and0, ck_and1, bI_t, bI_f, nar_0, nar_1]
    exact ok_some (PM_ok hM rfl (z3.mono (by omega) (by omega)))
  · simp only [o_travel, hi, Bool.false_eq_true, if_false]
    simp (disch := first | assumption | omega) only [f_X11_travel_J14, f_X11_travel, hi, M_isDesign hS hW hM, M_isWord hS hW hM, M_isDialect, M_isSign, M_isIn, M_fail0 hS, M_failN hS, bI_t, bI_f, ↓reduceIte, Nat.reduceEqDiff, Nat.one_ne_zero, if_true, if_false, lo_0 hS, lo_1 hS, lo_33 hS, lo_34 hS, lo_89 hS, lo_100 hS, lo_123 hS, lo_146 hS, lo_148 hS, lo_176 hS, lo_182 hS, lo_265 hS, lo_D hS, lo_G hS, lr_37 hS, lr_93 hS, lr_101 hS, lr_124 hS, lr_152 hS, lr_169 hS, lr_0_0 hS, lr_0_1 hS, lr_0_2 hS, lr_0_3 hS, lr_0_5 hS, lr_0_6 hS, lr_0_7 hS, lr_0_8 hS, lr_0_9 hS, lr_0_10 hS, lr_0_11 hS, lr_0_12 hS, lr_1_0 hS, lr_1_2 hS, lr_33_0 hS, lr_33_1 hS, lr_33_2 hS, lr_33_3 hS, lr_34_0 hS, lr_89_0 hS, lr_89_1 hS, lr_89_2 hS, lr_89_3 hS, lr_89_4 hS, lr_89_5 hS, lr_100_0 hS, lr_100_1 hS, lr_123_0 hS, lr_123_1 hS, lr_146_0 hS, lr_148_0 hS, lr_148_1 hS, lr_148_2 hS, lr_148_3 hS, lr_148_4 hS, lr_148_5 hS, lr_176_0 hS, lr_176_1 hS, lr_176_4 hS, lr_176_6 hS, lr_176_7 hS, lr_182_0 hS, lr_265_1 hS, lr_265_3 hS, lr_265_4 hS, lr_265_5 hS, lr_265_6 hS, lr_265_7 hS, lr_265_8 hS, lr_265_9 hS, lr_265_10 hS, lr_265_12 hS, lr_265_13 hS, lr_265_14 hS, lr_265_15 hS, lr_265_16 hS, lr_265_17 hS, lr_265_18 hS, lr_265_19 hS, lr_265_20 hS, lr_265_21 hS, lr_265_22 hS, lr_265_23 hS, lr_265_24 hS, lr_265_25 hS, lr_265_26 hS, lr_265_27 hS, lr_265_28 hS, lr_265_29 hS, lr_265_30 hS, lr_D_0 hS, lr_D_1 hS, lr_D_2 hS, lr_D_3 hS, lr_D_5 hS, lr_D_6 hS, lr_D_r hS, lr_31 hS, lr_32 hS, lr_G_2 hS, lr_G_3 hS, lr_G_4 hS, li_2 hS, li_3 hS, li_31 hS, li_32 hS, li_35 hS, li_36 hS, li_37 hS, li_88 hS, li_90 hS, li_91 hS, li_92 hS, li_93 hS, li_98 hS, li_99 hS, li_101 hS, li_122 hS, li_124 hS, li_145 hS, li_147 hS, li_149 hS, li_150 hS, li_151 hS, li_152 hS, li_169 hS, li_175 hS, li_177 hS, li_178 hS, li_179 hS, li_180 hS, li_181 hS, li_183 hS, li_266 hS, li_267 hS, li_268 hS, li_269 hS, li_270 hS, li_271 hS, li_272 hS, li_273 hS, li_274 hS, li_275 hS, li_276 hS, li_277 hS, li_278 hS, li_279 hS, li_280 hS, li_281 hS, li_282 hS, li_283 hS, li_284 hS, li_285 hS, li_286 hS, li_287 hS, li_288 hS, li_289 hS, li_290 hS, li_291 hS, li_292 hS, li_293 hS, li_294 hS, li_38 hS, li_94 hS, li_102 hS, li_125 hS, li_153 hS, li_170 hS, li_D_1 hS, li_D_2 hS, li_D_3 hS, li_D_4 hS, li_D_5 hS, li_D_26 hS, li_D_r hS, li_G_1 hS, li_G_2 hS, li_G_3 hS, il_0, il_1, il_2, il_3, il_4, il_5, il_6, il_7, il_8, il_9, il_10, il_11, il_12, il_15, il_16, il_17, il_18, il_20, il_27, il_31, il_32, il_35, il_36, il_40, il_43, il_44, il_46, il_47, il_49, il_50, il_80, il_99, il_100, il_108, il_111, il_127, il_235, il_250, il_640, il_971, il_972, il_999, il_1000, il_1024, il_2500, il_4444, il_9999, il_2147483647, nI_add, nI_mulI, nI_subI, nI_divI, nI_cl, nI_leJ, nI_ltJ, nI_eqJ, nI_neM, nI_neM', aw_sI_e, aw_sI_n, aw_sI_2, aw_sL_e, aw_sL_n, aw_sL_1, Option.bind_some, aw_chkT, ck_and0, ck_and1, bI_t, bI_f, nar_0, nar_1]
    exact ok_some (PM_bad hM)
def swK (K : Nat → Nat) (a b s : Nat) : Nat := if s = a then K b else if s = b then K a else K s
theorem swK_lt {K : Nat → Nat} (hK : ∀ s, s < 50 → K s < 50) {a b : Nat} (ha : a < 50) (hb : b < 50) : ∀ s, s < 50 → swK K a b s < 50 := by
  intro s hs
  unfold swK
  split
  · exact hK b hb
  · split
    · exact hK a ha
    · exact hK s hs
def exI (A : St) (D : Nat) (acc : Nat × Nat) (a b : Nat) : Nat × Nat := if acc.1 ≤ travK A D (swK (A 16 D) a b) then acc else (travK A D (swK (A 16 D) a b), 100 * a + b + 1)
def exK (A : St) (D k : Nat) (acc : Nat × Nat) (n : Nat) : Nat × Nat := foldR (fun acc i => exI A D acc (usd A D k) (usd A D (k + 1 + i))) acc n
def exS (A : St) (D : Nat) : Nat × Nat := foldR (fun acc k => exK A D k acc ((usL (allS A D)).length - 1 - k)) (travK A D (A 16 D), 0) (usL (allS A D)).length
theorem exI_le {A : St} {D a b : Nat} {acc : Nat × Nat} (h : acc.1 ≤ 15000000 ∧ acc.2 ≤ 5000) (ha : a < 50) (hb : b < 50) : (exI A D acc a b).1 ≤ 15000000 ∧ (exI A D acc a b).2 ≤ 5000 := by
  unfold exI
  split
  · exact h
  · exact ⟨by show travK A D (swK (A 16 D) a b) ≤ _; omega, by show 100 * a + b + 1 ≤ 5000; omega⟩
theorem exK_le {A : St} {D k : Nat} {acc : Nat × Nat} (h : acc.1 ≤ 15000000 ∧ acc.2 ≤ 5000) : ∀ n, (exK A D k acc n).1 ≤ 15000000 ∧ (exK A D k acc n).2 ≤ 5000 := by
  intro n
  induction n with
  | zero => exact h
  | succ n ih => exact exI_le ih (usL_lt _ _) (usL_lt _ _)
theorem exS_le {A : St} (hW : WF A) {D : Nat} (hD : D < A 11 0 0) : ∀ n, (foldR (fun acc k => exK A D k acc ((usL (allS A D)).length - 1 - k)) (travK A D (A 16 D), 0) n).1 ≤ 15000000 ∧ (foldR (fun acc k => exK A D k acc ((usL (allS A D)).length - 1 - k)) (travK A D (A 16 D), 0) n).2 ≤ 5000 := by
  intro n
  induction n with
  | zero => exact ⟨travK_le hW (hW.G hD).2.2.2.2 hD, Nat.zero_le _⟩
  | succ n ih => exact exK_le ih _
theorem sw_back {d : Dt} {i j : Nat} {x y : Int32} (hx : d.1 279 i = x) (hy : d.1 279 j = y) : aw_sI (aw_sI (aw_sI (aw_sI d 279 i y) 279 j x) 279 i x) 279 j y = d := by
  refine Prod.ext ?_ rfl
  funext a b
  by_cases h1 : a = 279 ∧ b = j
  · rw [aw_sI_e h1.1 h1.2, h1.1, h1.2, hy]
  · rw [aw_sI_n h1]
    by_cases h2 : a = 279 ∧ b = i
    · rw [aw_sI_e h2.1 h2.2, h2.1, h2.2, hx]
    · rw [aw_sI_n h2, aw_sI_n h1, aw_sI_n h2]
theorem usF_rise {m : Nat} : ∀ n i j, i < j → j < (usF m n).length → (usF m n).getD i 0 < (usF m n).getD j 0 := by
  intro n
  induction n with
  | zero => intro i j _ h; simp [usF] at h
  | succ n ih =>
    intro i j hij h
    rw [usF_s] at h ⊢
    split at h
    · next hb =>
      rw [if_pos hb]
      rw [List.length_append, List.length_cons, List.length_nil] at h
      simp only [List.getD_eq_getElem?_getD] at ih ⊢
      rw [List.getElem?_append_left (show i < (usF m n).length by omega)]
      by_cases e : j < (usF m n).length
      · rw [List.getElem?_append_left e]; exact ih i j hij e
      · have ej : j = (usF m n).length := by omega
        subst ej
        rw [List.getElem?_append_right (Nat.le_refl _), Nat.sub_self]
        have hm := getD_mem (l := usF m n) (i := i) hij
        rw [List.getD_eq_getElem?_getD] at hm
        exact (usF_mem.mp hm).1
    · next hb => rw [if_neg hb]; exact ih i j hij h

theorem M_ex_step {A : St} {σ : Sg} {d : Dt} {D : Nat} (hS : Lay σ) (hW : WF A) (hM : RepM A d) (hD : D < A 11 0 0) (hU : Us A D d) {a b : Nat} (ha : a < 50) (hb : b < 50) (hab : a ≠ b) : f_X11_travels σ 265 (nI D) (aw_sI (aw_sI d 279 (50 * D + a) (nI (A 16 D b))) 279 (50 * D + b) (nI (A 16 D a))) = some (nI (travK A D (swK (A 16 D) a b)), aw_sI (aw_sI d 279 (50 * D + a) (nI (A 16 D b))) 279 (50 * D + b) (nI (A 16 D a))) := by
  have h5 := hW.des
  have w2 := hW.words
  have hK := (hW.G hD).2.2.2.2
  refine M_travels hS hW (by omega) hD (fun w hw => ?_) ?_ (fun s hs => ⟨?_, swK_lt hK ha hb s hs⟩) (fun w hw => (hU.1 w hw).x ?_ ?_)
  · rw [aw_sI_n (by omega), aw_sI_n (by omega)]; exact rm_wt hM (by omega)
  · rw [aw_sI_n (by omega), aw_sI_n (by omega)]; exact rm_words hM
  · unfold swK
    by_cases e1 : s = a
    · rw [if_pos e1, aw_sI_n (by omega), aw_sI_e rfl (by omega)]
    · rw [if_neg e1]
      by_cases e2 : s = b
      · rw [if_pos e2, aw_sI_e rfl (by omega)]
      · rw [if_neg e2, aw_sI_n (by omega), aw_sI_n (by omega)]; exact rm_key hM (by omega) hs
  · funext b; rw [aw_sI_n (by omega), aw_sI_n (by omega)]
  · funext b; rw [aw_sI_n (by omega), aw_sI_n (by omega)]

theorem M_ex_L52 {A : St} {σ : Sg} {d : Dt} {D : Nat} (hS : Lay σ) (hW : WF A) (hM : RepM A d) (hD : D < A 11 0 0) (hU : Us A D d) {k : Int32 → Int32 → Dt → Option (Int32 × Dt)} {r : Nat} (hr : r < (usL (allS A D)).length) {acc : Nat × Nat} (hacc : acc.1 ≤ 15000000 ∧ acc.2 ≤ 5000) : ∀ (m i f : Nat), i + m = (usL (allS A D)).length - 1 - r → m < f → f_X11_exchange_L52 σ f k 265 (nI D) (nI (usL (allS A D)).length) (nI r) (nI (exK A D r acc i).1) (dI (exK A D r acc i).2) (nI (r + 1 + i)) d = k (nI (exK A D r acc ((usL (allS A D)).length - 1 - r)).1) (dI (exK A D r acc ((usL (allS A D)).length - 1 - r)).2) d := by
  intro m
  induction m with
  | zero =>
    intro i f hi hf
    cases f with
    | zero => omega
    | succ f =>
      have hiN : i = (usL (allS A D)).length - 1 - r := by omega
      have h5 := hW.des
      have hl := usL_len (allS A D)
      have hb := exK_le (A := A) (D := D) (k := r) hacc i
      show f_X11_exchange_B52 σ (f_X11_exchange_L52 σ f k 265 (nI D) (nI (usL (allS A D)).length) (nI r)) k 265 (nI D) (nI (usL (allS A D)).length) (nI r) (nI (exK A D r acc i).1) (dI (exK A D r acc i).2) (nI (r + 1 + i)) d = _
      simp (disch := first | assumption | omega) only [f_X11_exchange_B52, lo_0 hS, lo_1 hS, lo_33 hS, lo_34 hS, lo_89 hS, lo_100 hS, lo_123 hS, lo_146 hS, lo_148 hS, lo_176 hS, lo_182 hS, lo_265 hS, lo_D hS, lo_G hS, lr_37 hS, lr_93 hS, lr_101 hS, lr_124 hS, lr_152 hS, lr_169 hS, lr_0_0 hS, lr_0_1 hS, lr_0_2 hS, lr_0_3 hS, lr_0_5 hS, lr_0_6 hS, lr_0_7 hS, lr_0_8 hS, lr_0_9 hS, lr_0_10 hS, lr_0_11 hS, lr_0_12 hS, lr_1_0 hS, lr_1_2 hS, lr_33_0 hS, lr_33_1 hS, lr_33_2 hS, lr_33_3 hS, lr_34_0 hS, lr_89_0 hS, lr_89_1 hS, lr_89_2 hS, lr_89_3 hS, lr_89_4 hS, lr_89_5 hS, lr_100_0 hS, lr_100_1 hS, lr_123_0 hS, lr_123_1 hS, lr_146_0 hS, lr_148_0 hS, lr_148_1 hS, lr_148_2 hS, lr_148_3 hS, lr_148_4 hS, lr_148_5 hS, lr_176_0 hS, lr_176_1 hS, lr_176_4 hS, lr_176_6 hS, lr_176_7 hS, lr_182_0 hS, lr_265_1 hS, lr_265_3 hS, lr_265_4 hS, lr_265_5 hS, lr_265_6 hS, lr_265_7 hS, lr_265_8 hS, lr_265_9 hS, lr_265_10 hS, lr_265_12 hS, lr_265_13 hS, lr_265_14 hS, lr_265_15 hS, lr_265_16 hS, lr_265_17 hS, lr_265_18 hS, lr_265_19 hS, lr_265_20 hS, lr_265_21 hS, lr_265_22 hS, lr_265_23 hS, lr_265_24 hS, lr_265_25 hS, lr_265_26 hS, lr_265_27 hS, lr_265_28 hS, lr_265_29 hS, lr_265_30 hS, lr_D_0 hS, lr_D_1 hS, lr_D_2 hS, lr_D_3 hS, lr_D_5 hS, lr_D_6 hS, lr_D_r hS, lr_31 hS, lr_32 hS, lr_G_2 hS, lr_G_3 hS, lr_G_4 hS, li_2 hS, li_3 hS, li_31 hS, li_32 hS, li_35 hS, li_36 hS, li_37 hS, li_88 hS, li_90 hS, li_91 hS, li_92 hS, li_93 hS, li_98 hS, li_99 hS, li_101 hS, li_122 hS, li_124 hS, li_145 hS, li_147 hS, li_149 hS, li_150 hS, li_151 hS, li_152 hS, li_169 hS, li_175 hS, li_177 hS, li_178 hS, li_179 hS, li_180 hS, li_181 hS, li_183 hS, li_266 hS, li_267 hS, li_268 hS, li_269 hS, li_270 hS, li_271 hS, li_272 hS, li_273 hS, li_274 hS, li_275 hS, li_276 hS, li_277 hS, li_278 hS, li_279 hS, li_280 hS, li_281 hS, li_282 hS, li_283 hS, li_284 hS, li_285 hS, li_286 hS, li_287 hS, li_288 hS, li_289 hS, li_290 hS, li_291 hS, li_292 hS, li_293 hS, li_294 hS, li_38 hS, li_94 hS, li_102 hS, li_125 hS, li_153 hS, li_170 hS, li_D_1 hS, li_D_2 hS, li_D_3 hS, li_D_4 hS, li_D_5 hS, li_D_26 hS, li_D_r hS, li_G_1 hS, li_G_2 hS, li_G_3 hS, il_0, il_1, il_2, il_3, il_4, il_5, il_6, il_7, il_8, il_9, il_10, il_11, il_12, il_15, il_16, il_17, il_18, il_20, il_27, il_31, il_32, il_35, il_36, il_40, il_43, il_44, il_46, il_47, il_49, il_50, il_80, il_99, il_100, il_108, il_111, il_127, il_235, il_250, il_640, il_971, il_972, il_999, il_1000, il_1024, il_2500, il_4444, il_9999, il_2147483647, nI_add, nI_mulI, nI_subI, nI_divI, nI_cl, nI_leJ, nI_ltJ, nI_eqJ, nI_neM, nI_neM', aw_sI_e, aw_sI_n, aw_sI_2, aw_sL_e, aw_sL_n, aw_sL_1, Option.bind_some, aw_chkT, ck_and0, ck_and1, bI_t, bI_f, nar_0, nar_1]
      rw [if_pos (by omega)]
      rw [hiN]
      try rfl
  | succ m ih =>
    intro i f hi hf
    cases f with
    | zero => omega
    | succ f =>
      have hlt : i < (usL (allS A D)).length - 1 - r := by omega
      have h5 := hW.des
      have hl := usL_len (allS A D)
      have hb := exK_le (A := A) (D := D) (k := r) hacc i
      show f_X11_exchange_B52 σ (f_X11_exchange_L52 σ f k 265 (nI D) (nI (usL (allS A D)).length) (nI r)) k 265 (nI D) (nI (usL (allS A D)).length) (nI r) (nI (exK A D r acc i).1) (dI (exK A D r acc i).2) (nI (r + 1 + i)) d = _
      simp (disch := first | assumption | omega) only [f_X11_exchange_B52, lo_0 hS, lo_1 hS, lo_33 hS, lo_34 hS, lo_89 hS, lo_100 hS, lo_123 hS, lo_146 hS, lo_148 hS, lo_176 hS, lo_182 hS, lo_265 hS, lo_D hS, lo_G hS, lr_37 hS, lr_93 hS, lr_101 hS, lr_124 hS, lr_152 hS, lr_169 hS, lr_0_0 hS, lr_0_1 hS, lr_0_2 hS, lr_0_3 hS, lr_0_5 hS, lr_0_6 hS, lr_0_7 hS, lr_0_8 hS, lr_0_9 hS, lr_0_10 hS, lr_0_11 hS, lr_0_12 hS, lr_1_0 hS, lr_1_2 hS, lr_33_0 hS, lr_33_1 hS, lr_33_2 hS, lr_33_3 hS, lr_34_0 hS, lr_89_0 hS, lr_89_1 hS, lr_89_2 hS, lr_89_3 hS, lr_89_4 hS, lr_89_5 hS, lr_100_0 hS, lr_100_1 hS, lr_123_0 hS, lr_123_1 hS, lr_146_0 hS, lr_148_0 hS, lr_148_1 hS, lr_148_2 hS, lr_148_3 hS, lr_148_4 hS, lr_148_5 hS, lr_176_0 hS, lr_176_1 hS, lr_176_4 hS, lr_176_6 hS, lr_176_7 hS, lr_182_0 hS, lr_265_1 hS, lr_265_3 hS, lr_265_4 hS, lr_265_5 hS, lr_265_6 hS, lr_265_7 hS, lr_265_8 hS, lr_265_9 hS, lr_265_10 hS, lr_265_12 hS, lr_265_13 hS, lr_265_14 hS, lr_265_15 hS, lr_265_16 hS, lr_265_17 hS, lr_265_18 hS, lr_265_19 hS, lr_265_20 hS, lr_265_21 hS, lr_265_22 hS, lr_265_23 hS, lr_265_24 hS, lr_265_25 hS, lr_265_26 hS, lr_265_27 hS, lr_265_28 hS, lr_265_29 hS, lr_265_30 hS, lr_D_0 hS, lr_D_1 hS, lr_D_2 hS, lr_D_3 hS, lr_D_5 hS, lr_D_6 hS, lr_D_r hS, lr_31 hS, lr_32 hS, lr_G_2 hS, lr_G_3 hS, lr_G_4 hS, li_2 hS, li_3 hS, li_31 hS, li_32 hS, li_35 hS, li_36 hS, li_37 hS, li_88 hS, li_90 hS, li_91 hS, li_92 hS, li_93 hS, li_98 hS, li_99 hS, li_101 hS, li_122 hS, li_124 hS, li_145 hS, li_147 hS, li_149 hS, li_150 hS, li_151 hS, li_152 hS, li_169 hS, li_175 hS, li_177 hS, li_178 hS, li_179 hS, li_180 hS, li_181 hS, li_183 hS, li_266 hS, li_267 hS, li_268 hS, li_269 hS, li_270 hS, li_271 hS, li_272 hS, li_273 hS, li_274 hS, li_275 hS, li_276 hS, li_277 hS, li_278 hS, li_279 hS, li_280 hS, li_281 hS, li_282 hS, li_283 hS, li_284 hS, li_285 hS, li_286 hS, li_287 hS, li_288 hS, li_289 hS, li_290 hS, li_291 hS, li_292 hS, li_293 hS, li_294 hS, li_38 hS, li_94 hS, li_102 hS, li_125 hS, li_153 hS, li_170 hS, li_D_1 hS, li_D_2 hS, li_D_3 hS, li_D_4 hS, li_D_5 hS, li_D_26 hS, li_D_r hS, li_G_1 hS, li_G_2 hS, li_G_3 hS, il_0, il_1, il_2, il_3, il_4, il_5, il_6, il_7, il_8, il_9, il_10, il_11, il_12, il_15, il_16, il_17, il_18, il_20, il_27, il_31, il_32, il_35, il_36, il_40, il_43, il_44, il_46, il_47, il_49, il_50, il_80, il_99, il_100, il_108, il_111, il_127, il_235, il_250, il_640, il_971, il_972, il_999, il_1000, il_1024, il_2500, il_4444, il_9999, il_2147483647, nI_add, nI_mulI, nI_subI, nI_divI, nI_cl, nI_leJ, nI_ltJ, nI_eqJ, nI_neM, nI_neM', aw_sI_e, aw_sI_n, aw_sI_2, aw_sL_e, aw_sL_n, aw_sL_1, Option.bind_some, aw_chkT, ck_and0, ck_and1, bI_t, bI_f, nar_0, nar_1]
      rw [if_neg (by omega)]
      have q1 : d.1 289 r = nI (usd A D r) := hU.2.2 r hr
      have q2 : d.1 289 (r + 1 + i) = nI (usd A D (r + 1 + i)) := hU.2.2 (r + 1 + i) (by omega)
      have t1 : usd A D r < 50 := usL_lt _ _
      have t2 : usd A D (r + 1 + i) < 50 := usL_lt _ _
      have hne : usd A D r < usd A D (r + 1 + i) := usF_rise 50 r (r + 1 + i) (by omega) (by show r + 1 + i < (usL (allS A D)).length; omega)
      have k1 := rm_key hM (show D < 5 by omega) t1
      have k2 := rm_key hM (show D < 5 by omega) t2
      have hb1 := (hW.G hD).2.2.2.2 _ t1
      have hb2 := (hW.G hD).2.2.2.2 _ t2
      have htr := M_ex_step hS hW hM hD hU t1 t2 (by omega)
      have htl := travK_le hW (K := swK (A 16 D) (usd A D r) (usd A D (r + 1 + i))) (swK_lt (hW.G hD).2.2.2.2 t1 t2) hD
      have hsb := sw_back k1 k2
      rw [← ih (i + 1) f (by omega) (by omega)]
      have ee : exK A D r acc (i + 1) = exI A D (exK A D r acc i) (usd A D r) (usd A D (r + 1 + i)) := rfl
      rw [ee]
      generalize exK A D r acc i = ac at *
      generalize usd A D r = a at *
      generalize usd A D (r + 1 + i) = b at *
      simp (disch := first | assumption | omega) only [f_X11_swaps, q1, q2, k1, k2, htr, lo_0 hS, lo_1 hS, lo_33 hS, lo_34 hS, lo_89 hS, lo_100 hS, lo_123 hS, lo_146 hS, lo_148 hS, lo_176 hS, lo_182 hS, lo_265 hS, lo_D hS, lo_G hS, lr_37 hS, lr_93 hS, lr_101 hS, lr_124 hS, lr_152 hS, lr_169 hS, lr_0_0 hS, lr_0_1 hS, lr_0_2 hS, lr_0_3 hS, lr_0_5 hS, lr_0_6 hS, lr_0_7 hS, lr_0_8 hS, lr_0_9 hS, lr_0_10 hS, lr_0_11 hS, lr_0_12 hS, lr_1_0 hS, lr_1_2 hS, lr_33_0 hS, lr_33_1 hS, lr_33_2 hS, lr_33_3 hS, lr_34_0 hS, lr_89_0 hS, lr_89_1 hS, lr_89_2 hS, lr_89_3 hS, lr_89_4 hS, lr_89_5 hS, lr_100_0 hS, lr_100_1 hS, lr_123_0 hS, lr_123_1 hS, lr_146_0 hS, lr_148_0 hS, lr_148_1 hS, lr_148_2 hS, lr_148_3 hS, lr_148_4 hS, lr_148_5 hS, lr_176_0 hS, lr_176_1 hS, lr_176_4 hS, lr_176_6 hS, lr_176_7 hS, lr_182_0 hS, lr_265_1 hS, lr_265_3 hS, lr_265_4 hS, lr_265_5 hS, lr_265_6 hS, lr_265_7 hS, lr_265_8 hS, lr_265_9 hS, lr_265_10 hS, lr_265_12 hS, lr_265_13 hS, lr_265_14 hS, lr_265_15 hS, lr_265_16 hS, lr_265_17 hS, lr_265_18 hS, lr_265_19 hS, lr_265_20 hS, lr_265_21 hS, lr_265_22 hS, lr_265_23 hS, lr_265_24 hS, lr_265_25 hS, lr_265_26 hS, lr_265_27 hS, lr_265_28 hS, lr_265_29 hS, lr_265_30 hS, lr_D_0 hS, lr_D_1 hS, lr_D_2 hS, lr_D_3 hS, lr_D_5 hS, lr_D_6 hS, lr_D_r hS, lr_31 hS, lr_32 hS, lr_G_2 hS, lr_G_3 hS, lr_G_4 hS, li_2 hS, li_3 hS, li_31 hS, li_32 hS, li_35 hS, li_36 hS, li_37 hS, li_88 hS, li_90 hS, li_91 hS, li_92 hS, li_93 hS, li_98 hS, li_99 hS, li_101 hS, li_122 hS, li_124 hS, li_145 hS, li_147 hS, li_149 hS, li_150 hS, li_151 hS, li_152 hS, li_169 hS, li_175 hS, li_177 hS, li_178 hS, li_179 hS, li_180 hS, li_181 hS, li_183 hS, li_266 hS, li_267 hS, li_268 hS, li_269 hS, li_270 hS, li_271 hS, li_272 hS, li_273 hS, li_274 hS, li_275 hS, li_276 hS, li_277 hS, li_278 hS, li_279 hS, li_280 hS, li_281 hS, li_282 hS, li_283 hS, li_284 hS, li_285 hS, li_286 hS, li_287 hS, li_288 hS, li_289 hS, li_290 hS, li_291 hS, li_292 hS, li_293 hS, li_294 hS, li_38 hS, li_94 hS, li_102 hS, li_125 hS, li_153 hS, li_170 hS, li_D_1 hS, li_D_2 hS, li_D_3 hS, li_D_4 hS, li_D_5 hS, li_D_26 hS, li_D_r hS, li_G_1 hS, li_G_2 hS, li_G_3 hS, il_0, il_1, il_2, il_3, il_4, il_5, il_6, il_7, il_8, il_9, il_10, il_11, il_12, il_15, il_16, il_17, il_18, il_20, il_27, il_31, il_32, il_35, il_36, il_40, il_43, il_44, il_46, il_47, il_49, il_50, il_80, il_99, il_100, il_108, il_111, il_127, il_235, il_250, il_640, il_971, il_972, il_999, il_1000, il_1024, il_2500, il_4444, il_9999, il_2147483647, nI_add, nI_mulI, nI_subI, nI_divI, nI_cl, nI_leJ, nI_ltJ, nI_eqJ, nI_neM, nI_neM', aw_sI_e, aw_sI_n, aw_sI_2, aw_sL_e, aw_sL_n, aw_sL_1, Option.bind_some, aw_chkT, ck_and0, ck_and1, bI_t, bI_f, nar_0, nar_1]
      rw [hsb]
      simp (disch := first | assumption | omega) only [f_X11_exchange_J164, f_X11_exchange_J150, q1, q2, lo_0 hS, lo_1 hS, lo_33 hS, lo_34 hS, lo_89 hS, lo_100 hS, lo_123 hS, lo_146 hS, lo_148 hS, lo_176 hS, lo_182 hS, lo_265 hS, lo_D hS, lo_G hS, lr_37 hS, lr_93 hS, lr_101 hS, lr_124 hS, lr_152 hS, lr_169 hS, lr_0_0 hS, lr_0_1 hS, lr_0_2 hS, lr_0_3 hS, lr_0_5 hS, lr_0_6 hS, lr_0_7 hS, lr_0_8 hS, lr_0_9 hS, lr_0_10 hS, lr_0_11 hS, lr_0_12 hS, lr_1_0 hS, lr_1_2 hS, lr_33_0 hS, lr_33_1 hS, lr_33_2 hS, lr_33_3 hS, lr_34_0 hS, lr_89_0 hS, lr_89_1 hS, lr_89_2 hS, lr_89_3 hS, lr_89_4 hS, lr_89_5 hS, lr_100_0 hS, lr_100_1 hS, lr_123_0 hS, lr_123_1 hS, lr_146_0 hS, lr_148_0 hS, lr_148_1 hS, lr_148_2 hS, lr_148_3 hS, lr_148_4 hS, lr_148_5 hS, lr_176_0 hS, lr_176_1 hS, lr_176_4 hS, lr_176_6 hS, lr_176_7 hS, lr_182_0 hS, lr_265_1 hS, lr_265_3 hS, lr_265_4 hS, lr_265_5 hS, lr_265_6 hS, lr_265_7 hS, lr_265_8 hS, lr_265_9 hS, lr_265_10 hS, lr_265_12 hS, lr_265_13 hS, lr_265_14 hS, lr_265_15 hS, lr_265_16 hS, lr_265_17 hS, lr_265_18 hS, lr_265_19 hS, lr_265_20 hS, lr_265_21 hS, lr_265_22 hS, lr_265_23 hS, lr_265_24 hS, lr_265_25 hS, lr_265_26 hS, lr_265_27 hS, lr_265_28 hS, lr_265_29 hS, lr_265_30 hS, lr_D_0 hS, lr_D_1 hS, lr_D_2 hS, lr_D_3 hS, lr_D_5 hS, lr_D_6 hS, lr_D_r hS, lr_31 hS, lr_32 hS, lr_G_2 hS, lr_G_3 hS, lr_G_4 hS, li_2 hS, li_3 hS, li_31 hS, li_32 hS, li_35 hS, li_36 hS, li_37 hS, li_88 hS, li_90 hS, li_91 hS, li_92 hS, li_93 hS, li_98 hS, li_99 hS, li_101 hS, li_122 hS, li_124 hS, li_145 hS, li_147 hS, li_149 hS, li_150 hS, li_151 hS, li_152 hS, li_169 hS, li_175 hS, li_177 hS, li_178 hS, li_179 hS, li_180 hS, li_181 hS, li_183 hS, li_266 hS, li_267 hS, li_268 hS, li_269 hS, li_270 hS, li_271 hS, li_272 hS, li_273 hS, li_274 hS, li_275 hS, li_276 hS, li_277 hS, li_278 hS, li_279 hS, li_280 hS, li_281 hS, li_282 hS, li_283 hS, li_284 hS, li_285 hS, li_286 hS, li_287 hS, li_288 hS, li_289 hS, li_290 hS, li_291 hS, li_292 hS, li_293 hS, li_294 hS, li_38 hS, li_94 hS, li_102 hS, li_125 hS, li_153 hS, li_170 hS, li_D_1 hS, li_D_2 hS, li_D_3 hS, li_D_4 hS, li_D_5 hS, li_D_26 hS, li_D_r hS, li_G_1 hS, li_G_2 hS, li_G_3 hS, il_0, il_1, il_2, il_3, il_4, il_5, il_6, il_7, il_8, il_9, il_10, il_11, il_12, il_15, il_16, il_17, il_18, il_20, il_27, il_31, il_32, il_35, il_36, il_40, il_43, il_44, il_46, il_47, il_49, il_50, il_80, il_99, il_100, il_108, il_111, il_127, il_235, il_250, il_640, il_971, il_972, il_999, il_1000, il_1024, il_2500, il_4444, il_9999, il_2147483647, nI_add, nI_mulI, nI_subI, nI_divI, nI_cl, nI_leJ, nI_ltJ, nI_eqJ, nI_neM, nI_neM', aw_sI_e, aw_sI_n, aw_sI_2, aw_sL_e, aw_sL_n, aw_sL_1, Option.bind_some, aw_chkT, ck_and0, ck_and1, bI_t, bI_f, nar_0, nar_1]
      unfold exI
      by_cases e : ac.1 ≤ travK A D (swK (A 16 D) a b)
      · rw [if_pos e, if_pos e, if_pos e, Nat.add_assoc (r + 1) i 1]
      · rw [if_neg e, if_neg e, if_neg e, Nat.add_assoc (r + 1) i 1, dI_s _ (by show 0 < 100 * a + b + 1; omega)]
        rfl

theorem M_ex_L40 {A : St} {σ : Sg} {d : Dt} {D : Nat} (hS : Lay σ) (hW : WF A) (hM : RepM A d) (hD : D < A 11 0 0) (hU : Us A D d) {k : Int32 → Dt → Option (Int32 × Dt)} : ∀ (m i f : Nat), i + m = (usL (allS A D)).length → m < f → f_X11_exchange_L40 σ f k 265 (nI D) (nI (usL (allS A D)).length) (nI (foldR (fun acc k => exK A D k acc ((usL (allS A D)).length - 1 - k)) (travK A D (A 16 D), 0) i).1) (dI (foldR (fun acc k => exK A D k acc ((usL (allS A D)).length - 1 - k)) (travK A D (A 16 D), 0) i).2) (nI i) d = k (dI (exS A D).2) d := by
  intro m
  induction m with
  | zero =>
    intro i f hi hf
    cases f with
    | zero => omega
    | succ f =>
      have hiN : i = (usL (allS A D)).length := by omega
      have h5 := hW.des
      have hl := usL_len (allS A D)
      show f_X11_exchange_B40 σ (f_X11_exchange_L40 σ f k 265 (nI D) (nI (usL (allS A D)).length)) k 265 (nI D) (nI (usL (allS A D)).length) (nI (foldR (fun acc k => exK A D k acc ((usL (allS A D)).length - 1 - k)) (travK A D (A 16 D), 0) i).1) (dI (foldR (fun acc k => exK A D k acc ((usL (allS A D)).length - 1 - k)) (travK A D (A 16 D), 0) i).2) (nI i) d = _
      simp (disch := first | assumption | omega) only [f_X11_exchange_B40, lo_0 hS, lo_1 hS, lo_33 hS, lo_34 hS, lo_89 hS, lo_100 hS, lo_123 hS, lo_146 hS, lo_148 hS, lo_176 hS, lo_182 hS, lo_265 hS, lo_D hS, lo_G hS, lr_37 hS, lr_93 hS, lr_101 hS, lr_124 hS, lr_152 hS, lr_169 hS, lr_0_0 hS, lr_0_1 hS, lr_0_2 hS, lr_0_3 hS, lr_0_5 hS, lr_0_6 hS, lr_0_7 hS, lr_0_8 hS, lr_0_9 hS, lr_0_10 hS, lr_0_11 hS, lr_0_12 hS, lr_1_0 hS, lr_1_2 hS, lr_33_0 hS, lr_33_1 hS, lr_33_2 hS, lr_33_3 hS, lr_34_0 hS, lr_89_0 hS, lr_89_1 hS, lr_89_2 hS, lr_89_3 hS, lr_89_4 hS, lr_89_5 hS, lr_100_0 hS, lr_100_1 hS, lr_123_0 hS, lr_123_1 hS, lr_146_0 hS, lr_148_0 hS, lr_148_1 hS, lr_148_2 hS, lr_148_3 hS, lr_148_4 hS, lr_148_5 hS, lr_176_0 hS, lr_176_1 hS, lr_176_4 hS, lr_176_6 hS, lr_176_7 hS, lr_182_0 hS, lr_265_1 hS, lr_265_3 hS, lr_265_4 hS, lr_265_5 hS, lr_265_6 hS, lr_265_7 hS, lr_265_8 hS, lr_265_9 hS, lr_265_10 hS, lr_265_12 hS, lr_265_13 hS, lr_265_14 hS, lr_265_15 hS, lr_265_16 hS, lr_265_17 hS, lr_265_18 hS, lr_265_19 hS, lr_265_20 hS, lr_265_21 hS, lr_265_22 hS, lr_265_23 hS, lr_265_24 hS, lr_265_25 hS, lr_265_26 hS, lr_265_27 hS, lr_265_28 hS, lr_265_29 hS, lr_265_30 hS, lr_D_0 hS, lr_D_1 hS, lr_D_2 hS, lr_D_3 hS, lr_D_5 hS, lr_D_6 hS, lr_D_r hS, lr_31 hS, lr_32 hS, lr_G_2 hS, lr_G_3 hS, lr_G_4 hS, li_2 hS, li_3 hS, li_31 hS, li_32 hS, li_35 hS, li_36 hS, li_37 hS, li_88 hS, li_90 hS, li_91 hS, li_92 hS, li_93 hS, li_98 hS, li_99 hS, li_101 hS, li_122 hS, li_124 hS, li_145 hS, li_147 hS, li_149 hS, li_150 hS, li_151 hS, li_152 hS, li_169 hS, li_175 hS, li_177 hS, li_178 hS, li_179 hS, li_180 hS, li_181 hS, li_183 hS, li_266 hS, li_267 hS, li_268 hS, li_269 hS, li_270 hS, li_271 hS, li_272 hS, li_273 hS, li_274 hS, li_275 hS, li_276 hS, li_277 hS, li_278 hS, li_279 hS, li_280 hS, li_281 hS, li_282 hS, li_283 hS, li_284 hS, li_285 hS, li_286 hS, li_287 hS, li_288 hS, li_289 hS, li_290 hS, li_291 hS, li_292 hS, li_293 hS, li_294 hS, li_38 hS, li_94 hS, li_102 hS, li_125 hS, li_153 hS, li_170 hS, li_D_1 hS, li_D_2 hS, li_D_3 hS, li_D_4 hS, li_D_5 hS, li_D_26 hS, li_D_r hS, li_G_1 hS, li_G_2 hS, li_G_3 hS, il_0, il_1, il_2, il_3, il_4, il_5, il_6, il_7, il_8, il_9, il_10, il_11, il_12, il_15, il_16, il_17, il_18, il_20, il_27, il_31, il_32, il_35, il_36, il_40, il_43, il_44, il_46, il_47, il_49, il_50, il_80, il_99, il_100, il_108, il_111, il_127, il_235, il_250, il_640, il_971, il_972, il_999, il_1000, il_1024, il_2500, il_4444, il_9999, il_2147483647, nI_add, nI_mulI, nI_subI, nI_divI, nI_cl, nI_leJ, nI_ltJ, nI_eqJ, nI_neM, nI_neM', aw_sI_e, aw_sI_n, aw_sI_2, aw_sL_e, aw_sL_n, aw_sL_1, Option.bind_some, aw_chkT, ck_and0, ck_and1, bI_t, bI_f, nar_0, nar_1]
      rw [if_pos (by omega)]
      rw [hiN]
      try rfl
  | succ m ih =>
    intro i f hi hf
    cases f with
    | zero => omega
    | succ f =>
      have hlt : i < (usL (allS A D)).length := by omega
      have h5 := hW.des
      have hl := usL_len (allS A D)
      show f_X11_exchange_B40 σ (f_X11_exchange_L40 σ f k 265 (nI D) (nI (usL (allS A D)).length)) k 265 (nI D) (nI (usL (allS A D)).length) (nI (foldR (fun acc k => exK A D k acc ((usL (allS A D)).length - 1 - k)) (travK A D (A 16 D), 0) i).1) (dI (foldR (fun acc k => exK A D k acc ((usL (allS A D)).length - 1 - k)) (travK A D (A 16 D), 0) i).2) (nI i) d = _
      simp (disch := first | assumption | omega) only [f_X11_exchange_B40, lo_0 hS, lo_1 hS, lo_33 hS, lo_34 hS, lo_89 hS, lo_100 hS, lo_123 hS, lo_146 hS, lo_148 hS, lo_176 hS, lo_182 hS, lo_265 hS, lo_D hS, lo_G hS, lr_37 hS, lr_93 hS, lr_101 hS, lr_124 hS, lr_152 hS, lr_169 hS, lr_0_0 hS, lr_0_1 hS, lr_0_2 hS, lr_0_3 hS, lr_0_5 hS, lr_0_6 hS, lr_0_7 hS, lr_0_8 hS, lr_0_9 hS, lr_0_10 hS, lr_0_11 hS, lr_0_12 hS, lr_1_0 hS, lr_1_2 hS, lr_33_0 hS, lr_33_1 hS, lr_33_2 hS, lr_33_3 hS, lr_34_0 hS, lr_89_0 hS, lr_89_1 hS, lr_89_2 hS, lr_89_3 hS, lr_89_4 hS, lr_89_5 hS, lr_100_0 hS, lr_100_1 hS, lr_123_0 hS, lr_123_1 hS, lr_146_0 hS, lr_148_0 hS, lr_148_1 hS, lr_148_2 hS, lr_148_3 hS, lr_148_4 hS, lr_148_5 hS, lr_176_0 hS, lr_176_1 hS, lr_176_4 hS, lr_176_6 hS, lr_176_7 hS, lr_182_0 hS, lr_265_1 hS, lr_265_3 hS, lr_265_4 hS, lr_265_5 hS, lr_265_6 hS, lr_265_7 hS, lr_265_8 hS, lr_265_9 hS, lr_265_10 hS, lr_265_12 hS, lr_265_13 hS, lr_265_14 hS, lr_265_15 hS, lr_265_16 hS, lr_265_17 hS, lr_265_18 hS, lr_265_19 hS, lr_265_20 hS, lr_265_21 hS, lr_265_22 hS, lr_265_23 hS, lr_265_24 hS, lr_265_25 hS, lr_265_26 hS, lr_265_27 hS, lr_265_28 hS, lr_265_29 hS, lr_265_30 hS, lr_D_0 hS, lr_D_1 hS, lr_D_2 hS, lr_D_3 hS, lr_D_5 hS, lr_D_6 hS, lr_D_r hS, lr_31 hS, lr_32 hS, lr_G_2 hS, lr_G_3 hS, lr_G_4 hS, li_2 hS, li_3 hS, li_31 hS, li_32 hS, li_35 hS, li_36 hS, li_37 hS, li_88 hS, li_90 hS, li_91 hS, li_92 hS, li_93 hS, li_98 hS, li_99 hS, li_101 hS, li_122 hS, li_124 hS, li_145 hS, li_147 hS, li_149 hS, li_150 hS, li_151 hS, li_152 hS, li_169 hS, li_175 hS, li_177 hS, li_178 hS, li_179 hS, li_180 hS, li_181 hS, li_183 hS, li_266 hS, li_267 hS, li_268 hS, li_269 hS, li_270 hS, li_271 hS, li_272 hS, li_273 hS, li_274 hS, li_275 hS, li_276 hS, li_277 hS, li_278 hS, li_279 hS, li_280 hS, li_281 hS, li_282 hS, li_283 hS, li_284 hS, li_285 hS, li_286 hS, li_287 hS, li_288 hS, li_289 hS, li_290 hS, li_291 hS, li_292 hS, li_293 hS, li_294 hS, li_38 hS, li_94 hS, li_102 hS, li_125 hS, li_153 hS, li_170 hS, li_D_1 hS, li_D_2 hS, li_D_3 hS, li_D_4 hS, li_D_5 hS, li_D_26 hS, li_D_r hS, li_G_1 hS, li_G_2 hS, li_G_3 hS, il_0, il_1, il_2, il_3, il_4, il_5, il_6, il_7, il_8, il_9, il_10, il_11, il_12, il_15, il_16, il_17, il_18, il_20, il_27, il_31, il_32, il_35, il_36, il_40, il_43, il_44, il_46, il_47, il_49, il_50, il_80, il_99, il_100, il_108, il_111, il_127, il_235, il_250, il_640, il_971, il_972, il_999, il_1000, il_1024, il_2500, il_4444, il_9999, il_2147483647, nI_add, nI_mulI, nI_subI, nI_divI, nI_cl, nI_leJ, nI_ltJ, nI_eqJ, nI_neM, nI_neM', aw_sI_e, aw_sI_n, aw_sI_2, aw_sL_e, aw_sL_n, aw_sL_1, Option.bind_some, aw_chkT, ck_and0, ck_and1, bI_t, bI_f, nar_0, nar_1]
      rw [if_neg (by omega)]
      rw [← ih (i + 1) f (by omega) (by omega)]
      have h := M_ex_L52 (k := fun x3_23 x4_24 d_25 => f_X11_exchange_L40 σ f k 265 (nI D) (nI (usL (allS A D)).length) x3_23 x4_24 (nI (i + 1)) d_25) hS hW hM hD hU hlt (exS_le hW hD i) ((usL (allS A D)).length - 1 - i) 0 aw_FU (by omega) (by show _ < 5000; omega)
      exact h

def o_exchange (A : St) (D : Int32) : Res := if ix D (A 11 0 0) = true then (0, dI (exS A D.toNatClampNeg).2, A) else o_bad A 1
theorem M_exchange {A : St} {σ : Sg} {d : Dt} (hS : Lay σ) (hW : WF A) (hM : RepM A d) (D : Int32) : ok (f_X11_exchange σ 265 D d) (PM d (o_exchange A D)) := by
  have h5 := hW.des
  have w2 := hW.words
  rcases ix_or D (A 11 0 0) (by omega) with ⟨D, hD, rfl, hi⟩ | ⟨hi, -⟩
  · obtain ⟨z, hz, z1, z2, z3, z4⟩ := M_uses hS hW (hM.w_x (c := 265) (j := 31) (x := nI 0) (by omega)) hD
    have hMz := (hM.w_x (c := 265) (j := 31) (x := nI 0) (by omega)).frH z3 (by omega)
    have q2 := M_travels (K := A 16 D) hS hW (show D < 5 by omega) hD (fun w hw => rm_wt hMz (by omega)) (rm_words hMz) (fun s hs => ⟨rm_key hMz (by omega) hs, (hW.G hD).2.2.2.2 s hs⟩) z2.1
    have h := M_ex_L40 (k := fun x4_26 d_27 => some (x4_26, d_27)) hS hW hMz hD z2 (usL (allS A D)).length 0 aw_FU (by omega) (by show _ < 5000; have := usL_len (allS A D); omega)
    simp only [foldR, dI_0] at h
    simp (disch := first | assumption | omega) only [o_exchange, hi, if_true, nI_cl]
    simp (disch := first | assumption | omega) only [f_X11_exchange, f_X11_exchange_J14, hi, hz, z1, q2, nno, M_isDesign hS hW hM, M_isWord hS hW hM, M_isDialect, M_isSign, M_isIn, M_fail0 hS, M_failN hS, bI_t, bI_f, ↓reduceIte, Nat.reduceEqDiff, Nat.one_ne_zero, if_true, if_false, lo_0 hS, lo_1 hS, lo_33 hS, lo_34 hS, lo_89 hS, lo_100 hS, lo_123 hS, lo_146 hS, lo_148 hS, lo_176 hS, lo_182 hS, lo_265 hS, lo_D hS, lo_G hS, lr_37 hS, lr_93 hS, lr_101 hS, lr_124 hS, lr_152 hS, lr_169 hS, lr_0_0 hS, lr_0_1 hS, lr_0_2 hS, lr_0_3 hS, lr_0_5 hS, lr_0_6 hS, lr_0_7 hS, lr_0_8 hS, lr_0_9 hS, lr_0_10 hS, lr_0_11 hS, lr_0_12 hS, lr_1_0 hS, lr_1_2 hS, lr_33_0 hS, lr_33_1 hS, lr_33_2 hS, lr_33_3 hS, lr_34_0 hS, lr_89_0 hS, lr_89_1 hS, lr_89_2 hS, lr_89_3 hS, lr_89_4 hS, lr_89_5 hS, lr_100_0 hS, lr_100_1 hS, lr_123_0 hS, lr_123_1 hS, lr_146_0 hS, lr_148_0 hS, lr_148_1 hS, lr_148_2 hS, lr_148_3 hS, lr_148_4 hS, lr_148_5 hS, lr_176_0 hS, lr_176_1 hS, lr_176_4 hS, lr_176_6 hS, lr_176_7 hS, lr_182_0 hS, lr_265_1 hS, lr_265_3 hS, lr_265_4 hS, lr_265_5 hS, lr_265_6 hS, lr_265_7 hS, lr_265_8 hS, lr_265_9 hS, lr_265_10 hS, lr_265_12 hS, lr_265_13 hS, lr_265_14 hS, lr_265_15 hS, lr_265_16 hS, lr_265_17 hS, lr_265_18 hS, lr_265_19 hS, lr_265_20 hS, lr_265_21 hS, lr_265_22 hS, lr_265_23 hS, lr_265_24 hS, lr_265_25 hS, lr_265_26 hS, lr_265_27 hS, lr_265_28 hS, lr_265_29 hS, lr_265_30 hS, lr_D_0 hS, lr_D_1 hS, lr_D_2 hS, lr_D_3 hS, lr_D_5 hS, lr_D_6 hS, lr_D_r hS, lr_31 hS, lr_32 hS, lr_G_2 hS, lr_G_3 hS, lr_G_4 hS, li_2 hS, li_3 hS, li_31 hS, li_32 hS, li_35 hS, li_36 hS, li_37 hS, li_88 hS, li_90 hS, li_91 hS, li_92 hS, li_93 hS, li_98 hS, li_99 hS, li_101 hS, li_122 hS, li_124 hS, li_145 hS, li_147 hS, li_149 hS, li_150 hS, li_151 hS, li_152 hS, li_169 hS, li_175 hS, li_177 hS, li_178 hS, li_179 hS, li_180 hS, li_181 hS, li_183 hS, li_266 hS, li_267 hS, li_268 hS, li_269 hS, li_270 hS, li_271 hS, li_272 hS, li_273 hS, li_274 hS, li_275 hS, li_276 hS, li_277 hS, li_278 hS, li_279 hS, li_280 hS, li_281 hS, li_282 hS, li_283 hS, li_284 hS, li_285 hS, li_286 hS, li_287 hS, li_288 hS, li_289 hS, li_290 hS, li_291 hS, li_292 hS, li_293 hS, li_294 hS, li_38 hS, li_94 hS, li_102 hS, li_125 hS, li_153 hS, li_170 hS, li_D_1 hS, li_D_2 hS, li_D_3 hS, li_D_4 hS, li_D_5 hS, li_D_26 hS, li_D_r hS, li_G_1 hS, li_G_2 hS, li_G_3 hS, il_0, il_1, il_2, il_3, il_4, il_5, il_6, il_7, il_8, il_9, il_10, il_11, il_12, il_15, il_16, il_17, il_18, il_20, il_27, il_31, il_32, il_35, il_36, il_40, il_43, il_44, il_46, il_47, il_49, il_50, il_80, il_99, il_100, il_108, il_111, il_127, il_235, il_250, il_640, il_971, il_972, il_999, il_1000, il_1024, il_2500, il_4444, il_9999, il_2147483647, nI_add, nI_mulI, nI_subI, nI_divI, nI_cl, nI_leJ, nI_ltJ, nI_eqJ, nI_neM, nI_neM', aw_sI_e, aw_sI_n, aw_sI_2, aw_sL_e, aw_sL_n, aw_sL_1, Option.bind_some, aw_chkT, ck_and0, ck_and1, bI_t, bI_f, nar_0, nar_1]
    rw [h]
    exact ok_some (PM_ok hM rfl (z3.mono (by omega) (by omega)))
  · simp only [o_exchange, hi, Bool.false_eq_true, if_false]
    simp (disch := first | assumption | omega) only [f_X11_exchange, f_X11_exchange_J14, hi, M_isDesign hS hW hM, M_isWord hS hW hM, M_isDialect, M_isSign, M_isIn, M_fail0 hS, M_failN hS, bI_t, bI_f, ↓reduceIte, Nat.reduceEqDiff, Nat.one_ne_zero, if_true, if_false, lo_0 hS, lo_1 hS, lo_33 hS, lo_34 hS, lo_89 hS, lo_100 hS, lo_123 hS, lo_146 hS, lo_148 hS, lo_176 hS, lo_182 hS, lo_265 hS, lo_D hS, lo_G hS, lr_37 hS, lr_93 hS, lr_101 hS, lr_124 hS, lr_152 hS, lr_169 hS, lr_0_0 hS, lr_0_1 hS, lr_0_2 hS, lr_0_3 hS, lr_0_5 hS, lr_0_6 hS, lr_0_7 hS, lr_0_8 hS, lr_0_9 hS, lr_0_10 hS, lr_0_11 hS, lr_0_12 hS, lr_1_0 hS, lr_1_2 hS, lr_33_0 hS, lr_33_1 hS, lr_33_2 hS, lr_33_3 hS, lr_34_0 hS, lr_89_0 hS, lr_89_1 hS, lr_89_2 hS, lr_89_3 hS, lr_89_4 hS, lr_89_5 hS, lr_100_0 hS, lr_100_1 hS, lr_123_0 hS, lr_123_1 hS, lr_146_0 hS, lr_148_0 hS, lr_148_1 hS, lr_148_2 hS, lr_148_3 hS, lr_148_4 hS, lr_148_5 hS, lr_176_0 hS, lr_176_1 hS, lr_176_4 hS, lr_176_6 hS, lr_176_7 hS, lr_182_0 hS, lr_265_1 hS, lr_265_3 hS, lr_265_4 hS, lr_265_5 hS, lr_265_6 hS, lr_265_7 hS, lr_265_8 hS, lr_265_9 hS, lr_265_10 hS, lr_265_12 hS, lr_265_13 hS, lr_265_14 hS, lr_265_15 hS, lr_265_16 hS, lr_265_17 hS, lr_265_18 hS, lr_265_19 hS, lr_265_20 hS, lr_265_21 hS, lr_265_22 hS, lr_265_23 hS, lr_265_24 hS, lr_265_25 hS, lr_265_26 hS, lr_265_27 hS, lr_265_28 hS, lr_265_29 hS, lr_265_30 hS, lr_D_0 hS, lr_D_1 hS, lr_D_2 hS, lr_D_3 hS, lr_D_5 hS, lr_D_6 hS, lr_D_r hS, lr_31 hS, lr_32 hS, lr_G_2 hS, lr_G_3 hS, lr_G_4 hS, li_2 hS, li_3 hS, li_31 hS, li_32 hS, li_35 hS, li_36 hS, li_37 hS, li_88 hS, li_90 hS, li_91 hS, li_92 hS, li_93 hS, li_98 hS, li_99 hS, li_101 hS, li_122 hS, li_124 hS, li_145 hS, li_147 hS, li_149 hS, li_150 hS, li_151 hS, li_152 hS, li_169 hS, li_175 hS, li_177 hS, li_178 hS, li_179 hS, li_180 hS, li_181 hS, li_183 hS, li_266 hS, li_267 hS, li_268 hS, li_269 hS, li_270 hS, li_271 hS, li_272 hS, li_273 hS, li_274 hS, li_275 hS, li_276 hS, li_277 hS, li_278 hS, li_279 hS, li_280 hS, li_281 hS, li_282 hS, li_283 hS, li_284 hS, li_285 hS, li_286 hS, li_287 hS, li_288 hS, li_289 hS, li_290 hS, li_291 hS, li_292 hS, li_293 hS, li_294 hS, li_38 hS, li_94 hS, li_102 hS, li_125 hS, li_153 hS, li_170 hS, li_D_1 hS, li_D_2 hS, li_D_3 hS, li_D_4 hS, li_D_5 hS, li_D_26 hS, li_D_r hS, li_G_1 hS, li_G_2 hS, li_G_3 hS, il_0, il_1, il_2, il_3, il_4, il_5, il_6, il_7, il_8, il_9, il_10, il_11, il_12, il_15, il_16, il_17, il_18, il_20, il_27, il_31, il_32, il_35, il_36, il_40, il_43, il_44, il_46, il_47, il_49, il_50, il_80, il_99, il_100, il_108, il_111, il_127, il_235, il_250, il_640, il_971, il_972, il_999, il_1000, il_1024, il_2500, il_4444, il_9999, il_2147483647, nI_add, nI_mulI, nI_subI, nI_divI, nI_cl, nI_leJ, nI_ltJ, nI_eqJ, nI_neM, nI_neM', aw_sI_e, aw_sI_n, aw_sI_2, aw_sL_e, aw_sL_n, aw_sL_1, Option.bind_some, aw_chkT, ck_and0, ck_and1, bI_t, bI_f, nar_0, nar_1]
    exact ok_some (PM_bad hM)

