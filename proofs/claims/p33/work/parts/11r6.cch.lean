/-! the class: word and change -/
theorem wordA_0 {A : St} {wt : Nat} : wordA A wt 0 0 0 = 0 := by unfold wordA; rw [stU_n (by omega), stU_e rfl rfl rfl]
theorem wordA_1 {A : St} {wt k : Nat} : wordA A wt 1 0 k = A 1 0 k := by unfold wordA; rw [stU_n (by omega), stU_n (by omega), stU_n (by omega), stU_n (by omega), stF_n (by omega)]
theorem wordA_5 {A : St} {wt w : Nat} : wordA A wt 5 0 w = if w = A 2 0 0 then wt else A 5 0 w := by
  unfold wordA
  rw [stU_n (by omega), stU_n (by omega)]
  by_cases e : w = A 2 0 0
  · rw [stU_e rfl rfl e, if_pos e]
  · rw [stU_n (by omega), stU_n (by omega), stF_n (by omega), if_neg e]
/-- cells of all dialects -/
def FrA (d d' : Dt) : Prop := (∀ c, ¬ ((4 ≤ c ∧ c ≤ 30) ∨ (184 ≤ c ∧ c ≤ 264)) → d'.1 c = d.1 c) ∧ d'.2 = d.2
theorem FrD.A {x : Nat} {d0 d d' : Dt} (hx : x = 4 ∨ x = 184 ∨ x = 211 ∨ x = 238) (g : FrA d0 d) (h : FrD x d d') : FrA d0 d' := ⟨fun c hc => (h.1 c (by omega)).trans (g.1 c hc), h.2.trans g.2⟩
theorem C_word_L {A : St} {σ : Sg} {wt : Nat} {y : Int32} {d0 : Dt} {Q : (Nat ⊕ Int32) × Dt → Prop} {k : Dt → Option ((Nat ⊕ Int32) × Dt)} (hS : Lay σ) (hW : WF A) (hC : RepC A d0) (h1 : 1 ≤ A 0 0 0) (h20 : A 2 0 0 < 20)
    (hk : ∀ d', (∀ b, b < 4 → RepD (wordA A wt) d' b (dlx b)) → FrA d0 d' → ok (k d') Q) :
    ∀ (m i f : Nat) (d : Dt), i + m = 3 → m < f → (∀ b, b < 4 → if b ≤ i then RepD (wordA A wt) d b (dlx b) else RepD A d b (dlx b)) → FrA d0 d → ok (f_X10_word_L87 σ f k 0 y (nI i) d) Q := by
  intro m
  induction m with
  | zero =>
    intro i f d hi hf g1 g2
    cases f with
    | zero => omega
    | succ f =>
      show ok (f_X10_word_B87 σ _ k 0 y (nI i) d) Q
      unfold f_X10_word_B87
      rw [if_pos (by rw [il_3, nI_leJ (by omega) (by omega)]; omega)]
      exact hk d (fun b hb => by have := g1 b hb; rwa [if_pos (by omega)] at this) g2
  | succ m ih =>
    intro i f d hi hf g1 g2
    cases f with
    | zero => omega
    | succ f =>
      have w1 := hW.1
      have e0 : ¬ 3 ≤ i := by omega
      have ed : dlx (i + 1) = 184 + 27 * i := by unfold dlx; rw [if_neg (by omega)]; omega
      have hx : 184 + 27 * i = 4 ∨ 184 + 27 * i = 184 ∨ 184 + 27 * i = 211 ∨ 184 + 27 * i = 238 := by omega
      have hR := g1 (i + 1) (by omega)
      rw [if_neg (by omega), ed] at hR
      have q1 : d.1 1 1 = nI (A 0 0 0) := by rw [g2.1 1 (by omega)]; exact rc_dr hC
      obtain ⟨z, hz, z1, z2⟩ := C_hear (b := i + 1) hS hW hx (by omega) hR (fun k hk => by rw [g2.1 2 (by omega)]; exact rc_draft hC hk) h1 h20 wt
      show ok (f_X10_word_B87 σ (f_X10_word_L87 σ f k 0 y) k 0 y (nI i) d) Q
      simp (disch := first | assumption | omega) only [f_X10_word_B87, q1, hz, lo_0 hS, lo_1 hS, lo_33 hS, lo_34 hS, lo_89 hS, lo_100 hS, lo_123 hS, lo_146 hS, lo_148 hS, lo_176 hS, lo_182 hS, lo_D hS, lo_G hS, lr_37 hS, lr_93 hS, lr_101 hS, lr_124 hS, lr_152 hS, lr_169 hS, lr_0_0 hS, lr_0_1 hS, lr_0_2 hS, lr_0_3 hS, lr_0_5 hS, lr_0_6 hS, lr_0_7 hS, lr_0_8 hS, lr_0_9 hS, lr_0_10 hS, lr_0_11 hS, lr_0_12 hS, lr_1_0 hS, lr_1_2 hS, lr_33_0 hS, lr_33_1 hS, lr_33_2 hS, lr_33_3 hS, lr_34_0 hS, lr_89_0 hS, lr_89_1 hS, lr_89_2 hS, lr_89_3 hS, lr_89_4 hS, lr_89_5 hS, lr_100_0 hS, lr_100_1 hS, lr_123_0 hS, lr_123_1 hS, lr_146_0 hS, lr_148_0 hS, lr_148_1 hS, lr_148_2 hS, lr_148_3 hS, lr_148_4 hS, lr_148_5 hS, lr_176_0 hS, lr_176_1 hS, lr_176_4 hS, lr_176_6 hS, lr_176_7 hS, lr_182_0 hS, lr_D_0 hS, lr_D_1 hS, lr_D_2 hS, lr_D_3 hS, lr_D_5 hS, lr_D_6 hS, lr_D_r hS, lr_31 hS, lr_32 hS, lr_G_2 hS, lr_G_3 hS, lr_G_4 hS, li_2 hS, li_3 hS, li_31 hS, li_32 hS, li_35 hS, li_36 hS, li_37 hS, li_88 hS, li_90 hS, li_91 hS, li_92 hS, li_93 hS, li_98 hS, li_99 hS, li_101 hS, li_122 hS, li_124 hS, li_145 hS, li_147 hS, li_149 hS, li_150 hS, li_151 hS, li_152 hS, li_169 hS, li_175 hS, li_177 hS, li_178 hS, li_179 hS, li_180 hS, li_181 hS, li_183 hS, li_265 hS, li_266 hS, li_267 hS, li_268 hS, li_269 hS, li_270 hS, li_271 hS, li_272 hS, li_273 hS, li_274 hS, li_275 hS, li_276 hS, li_38 hS, li_94 hS, li_102 hS, li_125 hS, li_153 hS, li_170 hS, li_D_1 hS, li_D_2 hS, li_D_3 hS, li_D_4 hS, li_D_5 hS, li_D_26 hS, li_D_r hS, li_G_1 hS, li_G_2 hS, li_G_3 hS, li_rA hS, li_rK hS, li_rX hS, il_0, il_1, il_2, il_3, il_4, il_5, il_6, il_7, il_8, il_9, il_10, il_11, il_12, il_13, il_15, il_16, il_17, il_18, il_19, il_20, il_21, il_22, il_23, il_24, il_26, il_27, il_28, il_30, il_32, il_34, il_36, il_38, il_40, il_43, il_44, il_46, il_47, il_48, il_49, il_50, il_51, il_60, il_64, il_100, il_108, il_111, il_127, il_971, il_972, il_999, il_1000, il_1024, il_1087, il_2500, il_5000, il_9999, il_60000, il_2147483647, nI_add, nI_mulI, nI_subI, nI_divI, nI_cl, nI_leJ, nI_ltJ, nI_eqJ, nI_neM, nI_neM', aw_sI_e, aw_sI_n, aw_sI_2, aw_sL_e, aw_sL_n, aw_sL_1, Option.bind_some, aw_chkT, ck_and0, ck_and1, bI_t, bI_f, nar_0, nar_1]
      rw [if_neg e0]
      refine ih (i + 1) f _ (by omega) (by omega) (fun b hb => ?_) (z2.A hx g2)
      by_cases e : b = i + 1
      · subst e
        rw [if_pos (by omega), ed]; exact z1
      · have hb2 := g1 b hb
        have hxb := dlx_or hb
        have hne : dlx b ≠ 184 + 27 * i := by
          rw [← ed]; intro h
          exact e ((by decide : ∀ b, b < 4 → ∀ c, c < 4 → dlx b = dlx c → b = c) b hb (i + 1) (by omega) h)
        by_cases e2 : b ≤ i
        · rw [if_pos e2] at hb2
          rw [if_pos (by omega)]
          exact hb2.cg (fun _ _ _ _ => rfl) (by rw [wordA_2]; omega) (fun c hc1 hc2 => z2.1 c (by omega))
        · rw [if_neg e2] at hb2
          rw [if_neg (by omega)]
          exact hb2.cg (fun _ _ _ _ => rfl) (by omega) (fun c hc1 hc2 => z2.1 c (by omega))
theorem C_word {A : St} {σ : Sg} {d : Dt} (hS : Lay σ) (hn : ly_n σ = A 11 0 0) (hW : WF A) (hC : RepC A d) (x : Int32) : ok (f_X10_word σ 0 x d) (PX cc_S d (o_word A x)) := by
  have w1 := hW.1
  have w2 := hW.words
  have q1 := rc_dr hC
  have q2 := rc_words hC
  cases hi : (ix x 1000 && !ix x 1)
  · have e : o_word A x = (1, nI 0, A) := by simp only [o_word, hi, if_true]
    rw [e]
    simp (disch := first | assumption | omega) only [f_X10_word_J12, f_X10_word, ixi_4, Nat.reduceAdd, hi, Bool.false_eq_true, ↓reduceIte, Nat.reduceEqDiff, Nat.one_ne_zero, if_true, if_false, lo_0 hS, lo_1 hS, lo_33 hS, lo_34 hS, lo_89 hS, lo_100 hS, lo_123 hS, lo_146 hS, lo_148 hS, lo_176 hS, lo_182 hS, lo_D hS, lo_G hS, lr_37 hS, lr_93 hS, lr_101 hS, lr_124 hS, lr_152 hS, lr_169 hS, lr_0_0 hS, lr_0_1 hS, lr_0_2 hS, lr_0_3 hS, lr_0_5 hS, lr_0_6 hS, lr_0_7 hS, lr_0_8 hS, lr_0_9 hS, lr_0_10 hS, lr_0_11 hS, lr_0_12 hS, lr_1_0 hS, lr_1_2 hS, lr_33_0 hS, lr_33_1 hS, lr_33_2 hS, lr_33_3 hS, lr_34_0 hS, lr_89_0 hS, lr_89_1 hS, lr_89_2 hS, lr_89_3 hS, lr_89_4 hS, lr_89_5 hS, lr_100_0 hS, lr_100_1 hS, lr_123_0 hS, lr_123_1 hS, lr_146_0 hS, lr_148_0 hS, lr_148_1 hS, lr_148_2 hS, lr_148_3 hS, lr_148_4 hS, lr_148_5 hS, lr_176_0 hS, lr_176_1 hS, lr_176_4 hS, lr_176_6 hS, lr_176_7 hS, lr_182_0 hS, lr_D_0 hS, lr_D_1 hS, lr_D_2 hS, lr_D_3 hS, lr_D_5 hS, lr_D_6 hS, lr_D_r hS, lr_31 hS, lr_32 hS, lr_G_2 hS, lr_G_3 hS, lr_G_4 hS, li_2 hS, li_3 hS, li_31 hS, li_32 hS, li_35 hS, li_36 hS, li_37 hS, li_88 hS, li_90 hS, li_91 hS, li_92 hS, li_93 hS, li_98 hS, li_99 hS, li_101 hS, li_122 hS, li_124 hS, li_145 hS, li_147 hS, li_149 hS, li_150 hS, li_151 hS, li_152 hS, li_169 hS, li_175 hS, li_177 hS, li_178 hS, li_179 hS, li_180 hS, li_181 hS, li_183 hS, li_265 hS, li_266 hS, li_267 hS, li_268 hS, li_269 hS, li_270 hS, li_271 hS, li_272 hS, li_273 hS, li_274 hS, li_275 hS, li_276 hS, li_38 hS, li_94 hS, li_102 hS, li_125 hS, li_153 hS, li_170 hS, li_D_1 hS, li_D_2 hS, li_D_3 hS, li_D_4 hS, li_D_5 hS, li_D_26 hS, li_D_r hS, li_G_1 hS, li_G_2 hS, li_G_3 hS, li_rA hS, li_rK hS, li_rX hS, il_0, il_1, il_2, il_3, il_4, il_5, il_6, il_7, il_8, il_9, il_10, il_11, il_12, il_13, il_15, il_16, il_17, il_18, il_19, il_20, il_21, il_22, il_23, il_24, il_26, il_27, il_28, il_30, il_32, il_34, il_36, il_38, il_40, il_43, il_44, il_46, il_47, il_48, il_49, il_50, il_51, il_60, il_64, il_100, il_108, il_111, il_127, il_971, il_972, il_999, il_1000, il_1024, il_1087, il_2500, il_5000, il_9999, il_60000, il_2147483647, nI_add, nI_mulI, nI_subI, nI_divI, nI_cl, nI_leJ, nI_ltJ, nI_eqJ, nI_neM, nI_neM', aw_sI_e, aw_sI_n, aw_sI_2, aw_sL_e, aw_sL_n, aw_sL_1, Option.bind_some, aw_chkT, ck_and0, ck_and1, bI_t, bI_f, nar_0, nar_1]
    exact ok_some (PX.thr rfl hC)
  · have hx : ∃ j, 1 ≤ j ∧ j < 1000 ∧ x = nI j := by
      rcases ix_or x 1000 (by decide) with ⟨j, hj, rfl, -⟩ | ⟨h, -⟩
      · refine ⟨j, ?_, hj, rfl⟩
        rw [ix1 (by omega) (by omega), ix1 (by omega) (by omega)] at hi
        simp at hi; omega
      · rw [h] at hi; cases hi
    obtain ⟨j, hj1, hj2, rfl⟩ := hx
    have hn1 : ¬ j < 1 := by omega
    have hn2 : j ≤ 999 := by omega
    by_cases e1 : A 0 0 0 = 0
    · have e : o_word A (nI j) = (2, nI 0, A) := by simp [o_word, hi, e1]
      rw [e]
      simp (disch := first | assumption | omega) only [f_X10_word_J12, f_X10_word, hn1, hn2, q1, e1, ↓reduceIte, Nat.reduceEqDiff, Nat.one_ne_zero, if_true, if_false, lo_0 hS, lo_1 hS, lo_33 hS, lo_34 hS, lo_89 hS, lo_100 hS, lo_123 hS, lo_146 hS, lo_148 hS, lo_176 hS, lo_182 hS, lo_D hS, lo_G hS, lr_37 hS, lr_93 hS, lr_101 hS, lr_124 hS, lr_152 hS, lr_169 hS, lr_0_0 hS, lr_0_1 hS, lr_0_2 hS, lr_0_3 hS, lr_0_5 hS, lr_0_6 hS, lr_0_7 hS, lr_0_8 hS, lr_0_9 hS, lr_0_10 hS, lr_0_11 hS, lr_0_12 hS, lr_1_0 hS, lr_1_2 hS, lr_33_0 hS, lr_33_1 hS, lr_33_2 hS, lr_33_3 hS, lr_34_0 hS, lr_89_0 hS, lr_89_1 hS, lr_89_2 hS, lr_89_3 hS, lr_89_4 hS, lr_89_5 hS, lr_100_0 hS, lr_100_1 hS, lr_123_0 hS, lr_123_1 hS, lr_146_0 hS, lr_148_0 hS, lr_148_1 hS, lr_148_2 hS, lr_148_3 hS, lr_148_4 hS, lr_148_5 hS, lr_176_0 hS, lr_176_1 hS, lr_176_4 hS, lr_176_6 hS, lr_176_7 hS, lr_182_0 hS, lr_D_0 hS, lr_D_1 hS, lr_D_2 hS, lr_D_3 hS, lr_D_5 hS, lr_D_6 hS, lr_D_r hS, lr_31 hS, lr_32 hS, lr_G_2 hS, lr_G_3 hS, lr_G_4 hS, li_2 hS, li_3 hS, li_31 hS, li_32 hS, li_35 hS, li_36 hS, li_37 hS, li_88 hS, li_90 hS, li_91 hS, li_92 hS, li_93 hS, li_98 hS, li_99 hS, li_101 hS, li_122 hS, li_124 hS, li_145 hS, li_147 hS, li_149 hS, li_150 hS, li_151 hS, li_152 hS, li_169 hS, li_175 hS, li_177 hS, li_178 hS, li_179 hS, li_180 hS, li_181 hS, li_183 hS, li_265 hS, li_266 hS, li_267 hS, li_268 hS, li_269 hS, li_270 hS, li_271 hS, li_272 hS, li_273 hS, li_274 hS, li_275 hS, li_276 hS, li_38 hS, li_94 hS, li_102 hS, li_125 hS, li_153 hS, li_170 hS, li_D_1 hS, li_D_2 hS, li_D_3 hS, li_D_4 hS, li_D_5 hS, li_D_26 hS, li_D_r hS, li_G_1 hS, li_G_2 hS, li_G_3 hS, li_rA hS, li_rK hS, li_rX hS, il_0, il_1, il_2, il_3, il_4, il_5, il_6, il_7, il_8, il_9, il_10, il_11, il_12, il_13, il_15, il_16, il_17, il_18, il_19, il_20, il_21, il_22, il_23, il_24, il_26, il_27, il_28, il_30, il_32, il_34, il_36, il_38, il_40, il_43, il_44, il_46, il_47, il_48, il_49, il_50, il_51, il_60, il_64, il_100, il_108, il_111, il_127, il_971, il_972, il_999, il_1000, il_1024, il_1087, il_2500, il_5000, il_9999, il_60000, il_2147483647, nI_add, nI_mulI, nI_subI, nI_divI, nI_cl, nI_leJ, nI_ltJ, nI_eqJ, nI_neM, nI_neM', aw_sI_e, aw_sI_n, aw_sI_2, aw_sL_e, aw_sL_n, aw_sL_1, Option.bind_some, aw_chkT, ck_and0, ck_and1, bI_t, bI_f, nar_0, nar_1]
      exact ok_some (PX.thr rfl hC)
    · by_cases e2 : A 2 0 0 = 20
      · have e : o_word A (nI j) = (2, nI 0, A) := by simp [o_word, hi, e2]
        rw [e]
        simp (disch := first | assumption | omega) only [f_X10_word_J12, f_X10_word, hn1, hn2, q1, q2, e1, e2, Nat.lt_irrefl, ↓reduceIte, Nat.reduceEqDiff, Nat.one_ne_zero, if_true, if_false, lo_0 hS, lo_1 hS, lo_33 hS, lo_34 hS, lo_89 hS, lo_100 hS, lo_123 hS, lo_146 hS, lo_148 hS, lo_176 hS, lo_182 hS, lo_D hS, lo_G hS, lr_37 hS, lr_93 hS, lr_101 hS, lr_124 hS, lr_152 hS, lr_169 hS, lr_0_0 hS, lr_0_1 hS, lr_0_2 hS, lr_0_3 hS, lr_0_5 hS, lr_0_6 hS, lr_0_7 hS, lr_0_8 hS, lr_0_9 hS, lr_0_10 hS, lr_0_11 hS, lr_0_12 hS, lr_1_0 hS, lr_1_2 hS, lr_33_0 hS, lr_33_1 hS, lr_33_2 hS, lr_33_3 hS, lr_34_0 hS, lr_89_0 hS, lr_89_1 hS, lr_89_2 hS, lr_89_3 hS, lr_89_4 hS, lr_89_5 hS, lr_100_0 hS, lr_100_1 hS, lr_123_0 hS, lr_123_1 hS, lr_146_0 hS, lr_148_0 hS, lr_148_1 hS, lr_148_2 hS, lr_148_3 hS, lr_148_4 hS, lr_148_5 hS, lr_176_0 hS, lr_176_1 hS, lr_176_4 hS, lr_176_6 hS, lr_176_7 hS, lr_182_0 hS, lr_D_0 hS, lr_D_1 hS, lr_D_2 hS, lr_D_3 hS, lr_D_5 hS, lr_D_6 hS, lr_D_r hS, lr_31 hS, lr_32 hS, lr_G_2 hS, lr_G_3 hS, lr_G_4 hS, li_2 hS, li_3 hS, li_31 hS, li_32 hS, li_35 hS, li_36 hS, li_37 hS, li_88 hS, li_90 hS, li_91 hS, li_92 hS, li_93 hS, li_98 hS, li_99 hS, li_101 hS, li_122 hS, li_124 hS, li_145 hS, li_147 hS, li_149 hS, li_150 hS, li_151 hS, li_152 hS, li_169 hS, li_175 hS, li_177 hS, li_178 hS, li_179 hS, li_180 hS, li_181 hS, li_183 hS, li_265 hS, li_266 hS, li_267 hS, li_268 hS, li_269 hS, li_270 hS, li_271 hS, li_272 hS, li_273 hS, li_274 hS, li_275 hS, li_276 hS, li_38 hS, li_94 hS, li_102 hS, li_125 hS, li_153 hS, li_170 hS, li_D_1 hS, li_D_2 hS, li_D_3 hS, li_D_4 hS, li_D_5 hS, li_D_26 hS, li_D_r hS, li_G_1 hS, li_G_2 hS, li_G_3 hS, li_rA hS, li_rK hS, li_rX hS, il_0, il_1, il_2, il_3, il_4, il_5, il_6, il_7, il_8, il_9, il_10, il_11, il_12, il_13, il_15, il_16, il_17, il_18, il_19, il_20, il_21, il_22, il_23, il_24, il_26, il_27, il_28, il_30, il_32, il_34, il_36, il_38, il_40, il_43, il_44, il_46, il_47, il_48, il_49, il_50, il_51, il_60, il_64, il_100, il_108, il_111, il_127, il_971, il_972, il_999, il_1000, il_1024, il_1087, il_2500, il_5000, il_9999, il_60000, il_2147483647, nI_add, nI_mulI, nI_subI, nI_divI, nI_cl, nI_leJ, nI_ltJ, nI_eqJ, nI_neM, nI_neM', aw_sI_e, aw_sI_n, aw_sI_2, aw_sL_e, aw_sL_n, aw_sL_1, Option.bind_some, aw_chkT, ck_and0, ck_and1, bI_t, bI_f, nar_0, nar_1]
        exact ok_some (PX.thr rfl hC)
      · have eo : o_word A (nI j) = (0, nI (A 2 0 0), wordA A j) := by simp (disch := first | assumption | omega) [o_word, hi, e1, e2, nI_cl, wordA]
        rw [eo]
        have h20 : A 2 0 0 < 20 := by omega
        obtain ⟨z, hz, z1, z2⟩ := C_hear (b := 0) (x := 4) hS hW (Or.inl rfl) (by omega) (hC.D (b := 0) (by omega)) (fun k hk => rc_draft hC hk) (by omega) h20 j
        have hmain : ok (f_X10_word σ 0 (nI j) d) (fun z => z.1 = Sum.inr (nI (A 2 0 0)) ∧ RepC (wordA A j) z.2 ∧ FrC d z.2) := by
          simp (disch := first | assumption | omega) only [f_X10_word_J12, f_X10_word, hn1, hn2, q1, q2, e1, h20, hz, ↓reduceIte, Nat.reduceEqDiff, Nat.one_ne_zero, if_true, if_false, lo_0 hS, lo_1 hS, lo_33 hS, lo_34 hS, lo_89 hS, lo_100 hS, lo_123 hS, lo_146 hS, lo_148 hS, lo_176 hS, lo_182 hS, lo_D hS, lo_G hS, lr_37 hS, lr_93 hS, lr_101 hS, lr_124 hS, lr_152 hS, lr_169 hS, lr_0_0 hS, lr_0_1 hS, lr_0_2 hS, lr_0_3 hS, lr_0_5 hS, lr_0_6 hS, lr_0_7 hS, lr_0_8 hS, lr_0_9 hS, lr_0_10 hS, lr_0_11 hS, lr_0_12 hS, lr_1_0 hS, lr_1_2 hS, lr_33_0 hS, lr_33_1 hS, lr_33_2 hS, lr_33_3 hS, lr_34_0 hS, lr_89_0 hS, lr_89_1 hS, lr_89_2 hS, lr_89_3 hS, lr_89_4 hS, lr_89_5 hS, lr_100_0 hS, lr_100_1 hS, lr_123_0 hS, lr_123_1 hS, lr_146_0 hS, lr_148_0 hS, lr_148_1 hS, lr_148_2 hS, lr_148_3 hS, lr_148_4 hS, lr_148_5 hS, lr_176_0 hS, lr_176_1 hS, lr_176_4 hS, lr_176_6 hS, lr_176_7 hS, lr_182_0 hS, lr_D_0 hS, lr_D_1 hS, lr_D_2 hS, lr_D_3 hS, lr_D_5 hS, lr_D_6 hS, lr_D_r hS, lr_31 hS, lr_32 hS, lr_G_2 hS, lr_G_3 hS, lr_G_4 hS, li_2 hS, li_3 hS, li_31 hS, li_32 hS, li_35 hS, li_36 hS, li_37 hS, li_88 hS, li_90 hS, li_91 hS, li_92 hS, li_93 hS, li_98 hS, li_99 hS, li_101 hS, li_122 hS, li_124 hS, li_145 hS, li_147 hS, li_149 hS, li_150 hS, li_151 hS, li_152 hS, li_169 hS, li_175 hS, li_177 hS, li_178 hS, li_179 hS, li_180 hS, li_181 hS, li_183 hS, li_265 hS, li_266 hS, li_267 hS, li_268 hS, li_269 hS, li_270 hS, li_271 hS, li_272 hS, li_273 hS, li_274 hS, li_275 hS, li_276 hS, li_38 hS, li_94 hS, li_102 hS, li_125 hS, li_153 hS, li_170 hS, li_D_1 hS, li_D_2 hS, li_D_3 hS, li_D_4 hS, li_D_5 hS, li_D_26 hS, li_D_r hS, li_G_1 hS, li_G_2 hS, li_G_3 hS, li_rA hS, li_rK hS, li_rX hS, il_0, il_1, il_2, il_3, il_4, il_5, il_6, il_7, il_8, il_9, il_10, il_11, il_12, il_13, il_15, il_16, il_17, il_18, il_19, il_20, il_21, il_22, il_23, il_24, il_26, il_27, il_28, il_30, il_32, il_34, il_36, il_38, il_40, il_43, il_44, il_46, il_47, il_48, il_49, il_50, il_51, il_60, il_64, il_100, il_108, il_111, il_127, il_971, il_972, il_999, il_1000, il_1024, il_1087, il_2500, il_5000, il_9999, il_60000, il_2147483647, nI_add, nI_mulI, nI_subI, nI_divI, nI_cl, nI_leJ, nI_ltJ, nI_eqJ, nI_neM, nI_neM', aw_sI_e, aw_sI_n, aw_sI_2, aw_sL_e, aw_sL_n, aw_sL_1, Option.bind_some, aw_chkT, ck_and0, ck_and1, bI_t, bI_f, nar_0, nar_1]
          refine C_word_L (wt := j) hS hW hC (by omega) h20 (fun d' g1 g2 => ?_) 3 0 aw_FU _ (by omega) (by show _ < 5000; omega) (fun b hb => ?_) (z2.A (Or.inl rfl) ⟨fun _ _ => rfl, rfl⟩)
          · have p1 : d'.1 1 3 = nI (A 2 0 0) := by rw [g2.1 1 (by omega)]; exact q2
            simp (disch := first | assumption | omega) only [f_X9_endDraft, p1, Nat.add_sub_cancel, lo_0 hS, lo_1 hS, lo_33 hS, lo_34 hS, lo_89 hS, lo_100 hS, lo_123 hS, lo_146 hS, lo_148 hS, lo_176 hS, lo_182 hS, lo_D hS, lo_G hS, lr_37 hS, lr_93 hS, lr_101 hS, lr_124 hS, lr_152 hS, lr_169 hS, lr_0_0 hS, lr_0_1 hS, lr_0_2 hS, lr_0_3 hS, lr_0_5 hS, lr_0_6 hS, lr_0_7 hS, lr_0_8 hS, lr_0_9 hS, lr_0_10 hS, lr_0_11 hS, lr_0_12 hS, lr_1_0 hS, lr_1_2 hS, lr_33_0 hS, lr_33_1 hS, lr_33_2 hS, lr_33_3 hS, lr_34_0 hS, lr_89_0 hS, lr_89_1 hS, lr_89_2 hS, lr_89_3 hS, lr_89_4 hS, lr_89_5 hS, lr_100_0 hS, lr_100_1 hS, lr_123_0 hS, lr_123_1 hS, lr_146_0 hS, lr_148_0 hS, lr_148_1 hS, lr_148_2 hS, lr_148_3 hS, lr_148_4 hS, lr_148_5 hS, lr_176_0 hS, lr_176_1 hS, lr_176_4 hS, lr_176_6 hS, lr_176_7 hS, lr_182_0 hS, lr_D_0 hS, lr_D_1 hS, lr_D_2 hS, lr_D_3 hS, lr_D_5 hS, lr_D_6 hS, lr_D_r hS, lr_31 hS, lr_32 hS, lr_G_2 hS, lr_G_3 hS, lr_G_4 hS, li_2 hS, li_3 hS, li_31 hS, li_32 hS, li_35 hS, li_36 hS, li_37 hS, li_88 hS, li_90 hS, li_91 hS, li_92 hS, li_93 hS, li_98 hS, li_99 hS, li_101 hS, li_122 hS, li_124 hS, li_145 hS, li_147 hS, li_149 hS, li_150 hS, li_151 hS, li_152 hS, li_169 hS, li_175 hS, li_177 hS, li_178 hS, li_179 hS, li_180 hS, li_181 hS, li_183 hS, li_265 hS, li_266 hS, li_267 hS, li_268 hS, li_269 hS, li_270 hS, li_271 hS, li_272 hS, li_273 hS, li_274 hS, li_275 hS, li_276 hS, li_38 hS, li_94 hS, li_102 hS, li_125 hS, li_153 hS, li_170 hS, li_D_1 hS, li_D_2 hS, li_D_3 hS, li_D_4 hS, li_D_5 hS, li_D_26 hS, li_D_r hS, li_G_1 hS, li_G_2 hS, li_G_3 hS, li_rA hS, li_rK hS, li_rX hS, il_0, il_1, il_2, il_3, il_4, il_5, il_6, il_7, il_8, il_9, il_10, il_11, il_12, il_13, il_15, il_16, il_17, il_18, il_19, il_20, il_21, il_22, il_23, il_24, il_26, il_27, il_28, il_30, il_32, il_34, il_36, il_38, il_40, il_43, il_44, il_46, il_47, il_48, il_49, il_50, il_51, il_60, il_64, il_100, il_108, il_111, il_127, il_971, il_972, il_999, il_1000, il_1024, il_1087, il_2500, il_5000, il_9999, il_60000, il_2147483647, nI_add, nI_mulI, nI_subI, nI_divI, nI_cl, nI_leJ, nI_ltJ, nI_eqJ, nI_neM, nI_neM', aw_sI_e, aw_sI_n, aw_sI_2, aw_sL_e, aw_sL_n, aw_sL_1, Option.bind_some, aw_chkT, ck_and0, ck_and1, bI_t, bI_f, nar_0, nar_1]
            refine ok_some ⟨rfl, ⟨?_, fun k hk => ?_, fun w hw => ?_, ?_, ?_, fun b hb => ?_, fun s hs => ?_, fun g hg => ?_, fun D hD => ?_⟩, ?_⟩
            · rw [aw_sI_n (by omega), aw_sI_e rfl rfl, wordA_0]
            · rw [aw_sI_n (by omega), aw_sI_n (by omega), aw_sI_n (by omega), g2.1 2 (by omega), wordA_1]; exact rc_draft hC hk
            · rw [aw_sI_n (by omega), aw_sI_n (by omega), wordA_5]
              by_cases e : w = A 2 0 0
              · rw [aw_sI_e rfl e, if_pos e]
              · rw [aw_sI_n (by omega), if_neg e, g2.1 3 (by omega)]; exact rc_wt hC hw
            · rw [aw_sI_e rfl rfl, wordA_2]
            · rw [aw_sI_n (by omega), aw_sI_n (by omega), aw_sI_n (by omega), g2.1 0 (by omega), wordA_o (by omega)]; exact rc_des hC
            · have hxb := dlx_or hb
              exact (g1 b hb).cg (fun _ _ _ _ => rfl) (by rw [wordA_2]; omega) (fun c hc1 hc2 => by funext i; rw [aw_sI_n (by omega), aw_sI_n (by omega), aw_sI_n (by omega)])
            · rw [wordA_o (by omega)]
              have hs2 := hC.s hs
              rw [← g2.1 36 (by omega), ← g2.1 88 (by omega), ← g2.1 (38 + s) (by omega)] at hs2
              refine ⟨?_, ?_, fun p hp => ?_⟩
              · rw [aw_sI_n (by omega), aw_sI_n (by omega), aw_sI_n (by omega)]; exact hs2.1
              · rw [aw_sI_n (by omega), aw_sI_n (by omega), aw_sI_n (by omega)]; exact hs2.2.1
              · rw [aw_sI_n (by omega), aw_sI_n (by omega), aw_sI_n (by omega)]; exact hs2.2.2 p hp
            · rw [wordA_o (by omega), wordA_o (by omega), wordA_o (by omega)]
              have hg2 := hC.g hg
              rw [← g2.1 90 (by omega), ← g2.1 91 (by omega), ← g2.1 92 (by omega)] at hg2
              refine ⟨?_, ?_, ?_⟩
              · rw [aw_sI_n (by omega), aw_sI_n (by omega), aw_sI_n (by omega)]; exact hg2.1
              · rw [aw_sI_n (by omega), aw_sI_n (by omega), aw_sI_n (by omega)]; exact hg2.2.1
              · rw [aw_sI_n (by omega), aw_sI_n (by omega), aw_sI_n (by omega)]; exact hg2.2.2
            · rw [wordA_o (by omega)] at hD
              exact (hC.G hD).cg (fun f hf k => wordA_o (by omega)) (fun f hf => wordA_o (by omega)) (fun c hc1 hc2 => by funext i; rw [aw_sI_n (by omega), aw_sI_n (by omega), aw_sI_n (by omega), g2.1 c (by omega)])
            · refine ((FrC.w (by omega) (FrC.w (by omega) (FrC.w (by omega) (fun c hc1 hc2 => ?_)))))
              rw [g2.1 c (by omega), g2.2]
              exact ⟨rfl, rfl⟩
          · by_cases e : b = 0
            · subst e; rw [if_pos (by omega)]; exact z1
            · rw [if_neg (by omega)]
              have hxb := dlx_or hb
              have hne : dlx b ≠ 4 := by
                intro h; exact e ((by decide : ∀ b, b < 4 → dlx b = 4 → b = 0) b hb h)
              exact (hC.D hb).cg (fun _ _ _ _ => rfl) (by omega) (fun c hc1 hc2 => z2.1 c (by omega))
        obtain ⟨z, hz, z1, z2, z3⟩ := hmain
        obtain ⟨za, zb⟩ := z
        simp only at z1
        subst z1
        simp (disch := first | assumption | omega) only [hz, lo_0 hS, lo_1 hS, lo_33 hS, lo_34 hS, lo_89 hS, lo_100 hS, lo_123 hS, lo_146 hS, lo_148 hS, lo_176 hS, lo_182 hS, lo_D hS, lo_G hS, lr_37 hS, lr_93 hS, lr_101 hS, lr_124 hS, lr_152 hS, lr_169 hS, lr_0_0 hS, lr_0_1 hS, lr_0_2 hS, lr_0_3 hS, lr_0_5 hS, lr_0_6 hS, lr_0_7 hS, lr_0_8 hS, lr_0_9 hS, lr_0_10 hS, lr_0_11 hS, lr_0_12 hS, lr_1_0 hS, lr_1_2 hS, lr_33_0 hS, lr_33_1 hS, lr_33_2 hS, lr_33_3 hS, lr_34_0 hS, lr_89_0 hS, lr_89_1 hS, lr_89_2 hS, lr_89_3 hS, lr_89_4 hS, lr_89_5 hS, lr_100_0 hS, lr_100_1 hS, lr_123_0 hS, lr_123_1 hS, lr_146_0 hS, lr_148_0 hS, lr_148_1 hS, lr_148_2 hS, lr_148_3 hS, lr_148_4 hS, lr_148_5 hS, lr_176_0 hS, lr_176_1 hS, lr_176_4 hS, lr_176_6 hS, lr_176_7 hS, lr_182_0 hS, lr_D_0 hS, lr_D_1 hS, lr_D_2 hS, lr_D_3 hS, lr_D_5 hS, lr_D_6 hS, lr_D_r hS, lr_31 hS, lr_32 hS, lr_G_2 hS, lr_G_3 hS, lr_G_4 hS, li_2 hS, li_3 hS, li_31 hS, li_32 hS, li_35 hS, li_36 hS, li_37 hS, li_88 hS, li_90 hS, li_91 hS, li_92 hS, li_93 hS, li_98 hS, li_99 hS, li_101 hS, li_122 hS, li_124 hS, li_145 hS, li_147 hS, li_149 hS, li_150 hS, li_151 hS, li_152 hS, li_169 hS, li_175 hS, li_177 hS, li_178 hS, li_179 hS, li_180 hS, li_181 hS, li_183 hS, li_265 hS, li_266 hS, li_267 hS, li_268 hS, li_269 hS, li_270 hS, li_271 hS, li_272 hS, li_273 hS, li_274 hS, li_275 hS, li_276 hS, li_38 hS, li_94 hS, li_102 hS, li_125 hS, li_153 hS, li_170 hS, li_D_1 hS, li_D_2 hS, li_D_3 hS, li_D_4 hS, li_D_5 hS, li_D_26 hS, li_D_r hS, li_G_1 hS, li_G_2 hS, li_G_3 hS, li_rA hS, li_rK hS, li_rX hS, il_0, il_1, il_2, il_3, il_4, il_5, il_6, il_7, il_8, il_9, il_10, il_11, il_12, il_13, il_15, il_16, il_17, il_18, il_19, il_20, il_21, il_22, il_23, il_24, il_26, il_27, il_28, il_30, il_32, il_34, il_36, il_38, il_40, il_43, il_44, il_46, il_47, il_48, il_49, il_50, il_51, il_60, il_64, il_100, il_108, il_111, il_127, il_971, il_972, il_999, il_1000, il_1024, il_1087, il_2500, il_5000, il_9999, il_60000, il_2147483647, nI_add, nI_mulI, nI_subI, nI_divI, nI_cl, nI_leJ, nI_ltJ, nI_eqJ, nI_neM, nI_neM', aw_sI_e, aw_sI_n, aw_sI_2, aw_sL_e, aw_sL_n, aw_sL_1, Option.bind_some, aw_chkT, ck_and0, ck_and1, bI_t, bI_f, nar_0, nar_1]
        exact ok_some ⟨rfl, z2, z3⟩
/-- the state with one more change of a dialect -/
def chA (A : St) (y p f t b : Nat) : St := stU (stU (stU (stU (stU A 7 y (A 6 0 y) p) 8 y (A 6 0 y) f) 9 y (A 6 0 y) t) 10 y (A 6 0 y) b) 6 0 y (A 6 0 y + 1)
theorem chA_o {A : St} {y p f t b g i j : Nat} (h : ¬ (6 ≤ g ∧ g ≤ 10)) : chA A y p f t b g i j = A g i j := by
  unfold chA
  rw [stU_n (by omega), stU_n (by omega), stU_n (by omega), stU_n (by omega), stU_n (by omega)]
theorem chA_x {A : St} {y p f t b g i j : Nat} (h : 7 ≤ g) (h2 : i ≠ y ∨ j ≠ A 6 0 y) : chA A y p f t b g i j = A g i j := by
  unfold chA
  rw [stU_n (by omega), stU_n (by omega), stU_n (by omega), stU_n (by omega), stU_n (by omega)]
theorem chA_6 {A : St} {y p f t b j : Nat} : chA A y p f t b 6 0 j = if j = y then A 6 0 y + 1 else A 6 0 j := by
  unfold chA
  by_cases e : j = y
  · rw [stU_e rfl rfl e, if_pos e]
  · rw [stU_n (by omega), stU_n (by omega), stU_n (by omega), stU_n (by omega), stU_n (by omega), if_neg e]
theorem chA_7 {A : St} {y p f t b : Nat} : chA A y p f t b 7 y (A 6 0 y) = p := by
  unfold chA; rw [stU_n (by omega), stU_n (by omega), stU_n (by omega), stU_n (by omega), stU_e rfl rfl rfl]
theorem chA_8 {A : St} {y p f t b : Nat} : chA A y p f t b 8 y (A 6 0 y) = f := by
  unfold chA; rw [stU_n (by omega), stU_n (by omega), stU_n (by omega), stU_e rfl rfl rfl]
theorem chA_9 {A : St} {y p f t b : Nat} : chA A y p f t b 9 y (A 6 0 y) = t := by
  unfold chA; rw [stU_n (by omega), stU_n (by omega), stU_e rfl rfl rfl]
theorem chA_10 {A : St} {y p f t b : Nat} : chA A y p f t b 10 y (A 6 0 y) = b := by
  unfold chA; rw [stU_n (by omega), stU_e rfl rfl rfl]
theorem chA_alts {A : St} {y p f t b x n k c : Nat} : ∀ m, (x ≠ y ∨ m ≤ A 6 0 y) → alts (chA A y p f t b) x n k c m = alts A x n k c m := by
  intro m
  induction m with
  | zero => intro _; rfl
  | succ m ih =>
    intro hm
    simp only [alts]
    rw [ih (by omega), chA_x (by omega) (by omega), chA_x (by omega) (by omega), chA_x (by omega) (by omega), chA_x (by omega) (by omega)]
theorem chA_spk {A : St} {y p f t b w k : Nat} : spk (chA A y p f t b) (y + 1) w k = nvv p f t b (A 3 0 w) k (spk A (y + 1) w k) := by
  unfold spk
  rw [if_neg (by omega), if_neg (by omega), Nat.add_sub_cancel, chA_o (by omega), chA_o (by omega), chA_6, if_pos rfl]
  simp only [alts]
  rw [chA_10, chA_9, chA_8, chA_7, chA_alts _ (by omega)]
  rfl
theorem chA_spk2 {A : St} {y p f t b w k B : Nat} (h : B ≠ y + 1) : spk (chA A y p f t b) B w k = spk A B w k := by
  unfold spk
  by_cases e : B = 0
  · rw [if_pos e, if_pos e, chA_o (by omega)]
  · rw [if_neg e, if_neg e, chA_o (by omega), chA_o (by omega), chA_6, if_neg (by omega), chA_alts _ (by omega)]
theorem spk_lt {A : St} (hW : WF A) {b w k : Nat} (hb : b < 4) (hw : w < A 2 0 0) (hk : k < A 3 0 w) : spk A b w k < 972 := by
  have h1 := (hW.w hw).2.2.2.2 k hk
  unfold spk
  split
  · exact h1
  · exact alts_lt hW (by omega) h1 _ (Nat.le_refl _)
theorem C_append_L {A : St} {σ : Sg} {x c p f t b : Nat} {r : Nat → Nat → Nat} {len : Nat → Nat} {W : Nat} {d0 : Dt} {Q : Int32 × Dt → Prop} {k : Dt → Option (Int32 × Dt)} (hS : Lay σ) (hx : x = 4 ∨ x = 184 ∨ x = 211 ∨ x = 238) (hW : W ≤ 20) (hc : c < 6) (hp : p < 4) (hf : f < vals p) (ht : t < vals p) (hb : b ≤ 1) (h7 : d0.1 x 7 = nI W) (h4c : d0.1 x 4 = nI c) (hlen : ∀ w, w < W → 1 ≤ len w ∧ len w ≤ 4 ∧ d0.1 (x + 26) w = nI (len w)) (hr : ∀ w, w < W → ∀ k, k < len w → r w k < 972)
    (h1 : d0.1 (x + 1) c = nI p) (h2 : d0.1 (x + 2) c = nI f) (h3 : d0.1 (x + 3) c = nI t) (h4 : d0.1 (x + 4) c = nI b)
    (hk : ∀ d', (∀ w, w < W → ∀ k, k < len w → d'.1 (x + 6 + w) k = nI (nvv p f t b (len w) k (r w k))) → (∀ c', ¬ (x + 6 ≤ c' ∧ c' < x + 26) → d'.1 c' = d0.1 c') → d'.2 = d0.2 → ok (k d') Q) :
    ∀ (m i f0 : Nat) (d : Dt), i + m = W → m < f0 → (∀ w, w < W → ∀ k, k < len w → d.1 (x + 6 + w) k = nI (if w < i then nvv p f t b (len w) k (r w k) else r w k)) → (∀ c', ¬ (x + 6 ≤ c' ∧ c' < x + 26) → d.1 c' = d0.1 c') → d.2 = d0.2 → ok (f_X2_append_L44 σ f0 k x (nI i) d) Q := by
  intro m
  induction m with
  | zero =>
    intro i f0 d hi hf0 g1 g2 g3
    cases f0 with
    | zero => omega
    | succ f0 =>
      have q1 : d.1 x 7 = nI W := by rw [g2 _ (by omega)]; exact h7
      have e0 : W ≤ i := by omega
      show ok (f_X2_append_B44 σ _ k x (nI i) d) Q
      simp (disch := first | assumption | omega) only [f_X2_append_B44, q1, lo_0 hS, lo_1 hS, lo_33 hS, lo_34 hS, lo_89 hS, lo_100 hS, lo_123 hS, lo_146 hS, lo_148 hS, lo_176 hS, lo_182 hS, lo_D hS, lo_G hS, lr_37 hS, lr_93 hS, lr_101 hS, lr_124 hS, lr_152 hS, lr_169 hS, lr_0_0 hS, lr_0_1 hS, lr_0_2 hS, lr_0_3 hS, lr_0_5 hS, lr_0_6 hS, lr_0_7 hS, lr_0_8 hS, lr_0_9 hS, lr_0_10 hS, lr_0_11 hS, lr_0_12 hS, lr_1_0 hS, lr_1_2 hS, lr_33_0 hS, lr_33_1 hS, lr_33_2 hS, lr_33_3 hS, lr_34_0 hS, lr_89_0 hS, lr_89_1 hS, lr_89_2 hS, lr_89_3 hS, lr_89_4 hS, lr_89_5 hS, lr_100_0 hS, lr_100_1 hS, lr_123_0 hS, lr_123_1 hS, lr_146_0 hS, lr_148_0 hS, lr_148_1 hS, lr_148_2 hS, lr_148_3 hS, lr_148_4 hS, lr_148_5 hS, lr_176_0 hS, lr_176_1 hS, lr_176_4 hS, lr_176_6 hS, lr_176_7 hS, lr_182_0 hS, lr_D_0 hS, lr_D_1 hS, lr_D_2 hS, lr_D_3 hS, lr_D_5 hS, lr_D_6 hS, lr_D_r hS, lr_31 hS, lr_32 hS, lr_G_2 hS, lr_G_3 hS, lr_G_4 hS, li_2 hS, li_3 hS, li_31 hS, li_32 hS, li_35 hS, li_36 hS, li_37 hS, li_88 hS, li_90 hS, li_91 hS, li_92 hS, li_93 hS, li_98 hS, li_99 hS, li_101 hS, li_122 hS, li_124 hS, li_145 hS, li_147 hS, li_149 hS, li_150 hS, li_151 hS, li_152 hS, li_169 hS, li_175 hS, li_177 hS, li_178 hS, li_179 hS, li_180 hS, li_181 hS, li_183 hS, li_265 hS, li_266 hS, li_267 hS, li_268 hS, li_269 hS, li_270 hS, li_271 hS, li_272 hS, li_273 hS, li_274 hS, li_275 hS, li_276 hS, li_38 hS, li_94 hS, li_102 hS, li_125 hS, li_153 hS, li_170 hS, li_D_1 hS, li_D_2 hS, li_D_3 hS, li_D_4 hS, li_D_5 hS, li_D_26 hS, li_D_r hS, li_G_1 hS, li_G_2 hS, li_G_3 hS, li_rA hS, li_rK hS, li_rX hS, il_0, il_1, il_2, il_3, il_4, il_5, il_6, il_7, il_8, il_9, il_10, il_11, il_12, il_13, il_15, il_16, il_17, il_18, il_19, il_20, il_21, il_22, il_23, il_24, il_26, il_27, il_28, il_30, il_32, il_34, il_36, il_38, il_40, il_43, il_44, il_46, il_47, il_48, il_49, il_50, il_51, il_60, il_64, il_100, il_108, il_111, il_127, il_971, il_972, il_999, il_1000, il_1024, il_1087, il_2500, il_5000, il_9999, il_60000, il_2147483647, nI_add, nI_mulI, nI_subI, nI_divI, nI_cl, nI_leJ, nI_ltJ, nI_eqJ, nI_neM, nI_neM', aw_sI_e, aw_sI_n, aw_sI_2, aw_sL_e, aw_sL_n, aw_sL_1, Option.bind_some, aw_chkT, ck_and0, ck_and1, bI_t, bI_f, nar_0, nar_1]
      rw [if_pos e0]
      exact hk d (fun w hw k hk => by rw [g1 w hw k hk, if_pos (by omega)]) g2 g3
  | succ m ih =>
    intro i f0 d hi hf0 g1 g2 g3
    cases f0 with
    | zero => omega
    | succ f0 =>
      have q1 : d.1 x 7 = nI W := by rw [g2 _ (by omega)]; exact h7
      have q2 : d.1 x 4 = nI c := by rw [g2 _ (by omega)]; exact h4c
      have e0 : ¬ W ≤ i := by omega
      obtain ⟨l1, l2, l3⟩ := hlen i (by omega)
      obtain ⟨z, hz, z1, z2, z3⟩ := C_alter (σ := σ) (d := d) (x := x) (w := i) (c := c) (n := len i) (p := p) (f := f) (t := t) (b := b) (r := r i) hS hx (by omega) hc l1 l2 hp hf ht hb (fun k hk => hr i (by omega) k hk) (by rw [g2 _ (by omega)]; exact l3) (by rw [g2 _ (by omega)]; exact h1) (by rw [g2 _ (by omega)]; exact h2) (by rw [g2 _ (by omega)]; exact h3) (by rw [g2 _ (by omega)]; exact h4) (fun k hk => by rw [g1 i (by omega) k hk, if_neg (by omega)])
      show ok (f_X2_append_B44 σ (f_X2_append_L44 σ f0 k x) k x (nI i) d) Q
      simp (disch := first | assumption | omega) only [f_X2_append_B44, q1, q2, hz, lo_0 hS, lo_1 hS, lo_33 hS, lo_34 hS, lo_89 hS, lo_100 hS, lo_123 hS, lo_146 hS, lo_148 hS, lo_176 hS, lo_182 hS, lo_D hS, lo_G hS, lr_37 hS, lr_93 hS, lr_101 hS, lr_124 hS, lr_152 hS, lr_169 hS, lr_0_0 hS, lr_0_1 hS, lr_0_2 hS, lr_0_3 hS, lr_0_5 hS, lr_0_6 hS, lr_0_7 hS, lr_0_8 hS, lr_0_9 hS, lr_0_10 hS, lr_0_11 hS, lr_0_12 hS, lr_1_0 hS, lr_1_2 hS, lr_33_0 hS, lr_33_1 hS, lr_33_2 hS, lr_33_3 hS, lr_34_0 hS, lr_89_0 hS, lr_89_1 hS, lr_89_2 hS, lr_89_3 hS, lr_89_4 hS, lr_89_5 hS, lr_100_0 hS, lr_100_1 hS, lr_123_0 hS, lr_123_1 hS, lr_146_0 hS, lr_148_0 hS, lr_148_1 hS, lr_148_2 hS, lr_148_3 hS, lr_148_4 hS, lr_148_5 hS, lr_176_0 hS, lr_176_1 hS, lr_176_4 hS, lr_176_6 hS, lr_176_7 hS, lr_182_0 hS, lr_D_0 hS, lr_D_1 hS, lr_D_2 hS, lr_D_3 hS, lr_D_5 hS, lr_D_6 hS, lr_D_r hS, lr_31 hS, lr_32 hS, lr_G_2 hS, lr_G_3 hS, lr_G_4 hS, li_2 hS, li_3 hS, li_31 hS, li_32 hS, li_35 hS, li_36 hS, li_37 hS, li_88 hS, li_90 hS, li_91 hS, li_92 hS, li_93 hS, li_98 hS, li_99 hS, li_101 hS, li_122 hS, li_124 hS, li_145 hS, li_147 hS, li_149 hS, li_150 hS, li_151 hS, li_152 hS, li_169 hS, li_175 hS, li_177 hS, li_178 hS, li_179 hS, li_180 hS, li_181 hS, li_183 hS, li_265 hS, li_266 hS, li_267 hS, li_268 hS, li_269 hS, li_270 hS, li_271 hS, li_272 hS, li_273 hS, li_274 hS, li_275 hS, li_276 hS, li_38 hS, li_94 hS, li_102 hS, li_125 hS, li_153 hS, li_170 hS, li_D_1 hS, li_D_2 hS, li_D_3 hS, li_D_4 hS, li_D_5 hS, li_D_26 hS, li_D_r hS, li_G_1 hS, li_G_2 hS, li_G_3 hS, li_rA hS, li_rK hS, li_rX hS, il_0, il_1, il_2, il_3, il_4, il_5, il_6, il_7, il_8, il_9, il_10, il_11, il_12, il_13, il_15, il_16, il_17, il_18, il_19, il_20, il_21, il_22, il_23, il_24, il_26, il_27, il_28, il_30, il_32, il_34, il_36, il_38, il_40, il_43, il_44, il_46, il_47, il_48, il_49, il_50, il_51, il_60, il_64, il_100, il_108, il_111, il_127, il_971, il_972, il_999, il_1000, il_1024, il_1087, il_2500, il_5000, il_9999, il_60000, il_2147483647, nI_add, nI_mulI, nI_subI, nI_divI, nI_cl, nI_leJ, nI_ltJ, nI_eqJ, nI_neM, nI_neM', aw_sI_e, aw_sI_n, aw_sI_2, aw_sL_e, aw_sL_n, aw_sL_1, Option.bind_some, aw_chkT, ck_and0, ck_and1, bI_t, bI_f, nar_0, nar_1]
      rw [if_neg e0]
      refine ih (i + 1) f0 _ (by omega) (by omega) (fun w hw k hk => ?_) (fun c' hc' => (z2 c' (by omega)).trans (g2 c' hc')) (z3.trans g3)
      by_cases e : w = i
      · subst e; rw [z1 k hk, if_pos (by omega)]
      · rw [z2 _ (by omega), g1 w hw k hk]
        by_cases e2 : w < i
        · rw [if_pos e2, if_pos (by omega)]
        · rw [if_neg e2, if_neg (by omega)]
theorem C_append {A : St} {σ : Sg} {d : Dt} {x y p f t b : Nat} (hS : Lay σ) (hW : WF A) (hx : x = 4 ∨ x = 184 ∨ x = 211 ∨ x = 238) (hy : y < 3) (hR : RepD A d (y + 1) x) (hc : A 6 0 y < 6) (hp : p < 4) (hf : f < vals p) (ht : t < vals p) (hb : b ≤ 1) :
    ok (f_X2_append σ x (nI p) (nI f) (nI t) (nI b) d) (fun z => z.1 = nI (A 6 0 y + 1) ∧ RepD (chA A y p f t b) z.2 (y + 1) x ∧ FrD x d z.2) := by
  have w2 := hW.words
  have hnar : vp_nar .boolean (nI b) = nI b := by rcases (show b = 0 ∨ b = 1 by omega) with rfl | rfl <;> rfl
  obtain ⟨r1, r2, r3, r4, r5⟩ := hR
  have r5' := r5 (by omega)
  rw [Nat.add_sub_cancel] at r5'
  simp (disch := first | assumption | omega) only [f_X2_append, r5'.1, hnar, lo_0 hS, lo_1 hS, lo_33 hS, lo_34 hS, lo_89 hS, lo_100 hS, lo_123 hS, lo_146 hS, lo_148 hS, lo_176 hS, lo_182 hS, lo_D hS, lo_G hS, lr_37 hS, lr_93 hS, lr_101 hS, lr_124 hS, lr_152 hS, lr_169 hS, lr_0_0 hS, lr_0_1 hS, lr_0_2 hS, lr_0_3 hS, lr_0_5 hS, lr_0_6 hS, lr_0_7 hS, lr_0_8 hS, lr_0_9 hS, lr_0_10 hS, lr_0_11 hS, lr_0_12 hS, lr_1_0 hS, lr_1_2 hS, lr_33_0 hS, lr_33_1 hS, lr_33_2 hS, lr_33_3 hS, lr_34_0 hS, lr_89_0 hS, lr_89_1 hS, lr_89_2 hS, lr_89_3 hS, lr_89_4 hS, lr_89_5 hS, lr_100_0 hS, lr_100_1 hS, lr_123_0 hS, lr_123_1 hS, lr_146_0 hS, lr_148_0 hS, lr_148_1 hS, lr_148_2 hS, lr_148_3 hS, lr_148_4 hS, lr_148_5 hS, lr_176_0 hS, lr_176_1 hS, lr_176_4 hS, lr_176_6 hS, lr_176_7 hS, lr_182_0 hS, lr_D_0 hS, lr_D_1 hS, lr_D_2 hS, lr_D_3 hS, lr_D_5 hS, lr_D_6 hS, lr_D_r hS, lr_31 hS, lr_32 hS, lr_G_2 hS, lr_G_3 hS, lr_G_4 hS, li_2 hS, li_3 hS, li_31 hS, li_32 hS, li_35 hS, li_36 hS, li_37 hS, li_88 hS, li_90 hS, li_91 hS, li_92 hS, li_93 hS, li_98 hS, li_99 hS, li_101 hS, li_122 hS, li_124 hS, li_145 hS, li_147 hS, li_149 hS, li_150 hS, li_151 hS, li_152 hS, li_169 hS, li_175 hS, li_177 hS, li_178 hS, li_179 hS, li_180 hS, li_181 hS, li_183 hS, li_265 hS, li_266 hS, li_267 hS, li_268 hS, li_269 hS, li_270 hS, li_271 hS, li_272 hS, li_273 hS, li_274 hS, li_275 hS, li_276 hS, li_38 hS, li_94 hS, li_102 hS, li_125 hS, li_153 hS, li_170 hS, li_D_1 hS, li_D_2 hS, li_D_3 hS, li_D_4 hS, li_D_5 hS, li_D_26 hS, li_D_r hS, li_G_1 hS, li_G_2 hS, li_G_3 hS, li_rA hS, li_rK hS, li_rX hS, il_0, il_1, il_2, il_3, il_4, il_5, il_6, il_7, il_8, il_9, il_10, il_11, il_12, il_13, il_15, il_16, il_17, il_18, il_19, il_20, il_21, il_22, il_23, il_24, il_26, il_27, il_28, il_30, il_32, il_34, il_36, il_38, il_40, il_43, il_44, il_46, il_47, il_48, il_49, il_50, il_51, il_60, il_64, il_100, il_108, il_111, il_127, il_971, il_972, il_999, il_1000, il_1024, il_1087, il_2500, il_5000, il_9999, il_60000, il_2147483647, nI_add, nI_mulI, nI_subI, nI_divI, nI_cl, nI_leJ, nI_ltJ, nI_eqJ, nI_neM, nI_neM', aw_sI_e, aw_sI_n, aw_sI_2, aw_sL_e, aw_sL_n, aw_sL_1, Option.bind_some, aw_chkT, ck_and0, ck_and1, bI_t, bI_f, nar_0, nar_1]
  refine C_append_L (A := A) (c := A 6 0 y) (p := p) (f := f) (t := t) (b := b) (r := fun w k => spk A (y + 1) w k) (len := fun w => A 3 0 w) (W := A 2 0 0) (d0 := aw_sI (aw_sI (aw_sI (aw_sI d (x + 1) (A 6 0 y) (nI p)) (x + 2) (A 6 0 y) (nI f)) (x + 3) (A 6 0 y) (nI t)) (x + 4) (A 6 0 y) (nI b)) hS hx w2 hc hp hf ht hb ?_ ?_ (fun w hw => ⟨(hW.w hw).1, (hW.w hw).2.1, ?_⟩) (fun w hw k hk => spk_lt hW (by omega) hw hk) ?_ ?_ ?_ ?_ (fun d' g1 g2 g3 => ?_) (A 2 0 0) 0 aw_FU _ (by omega) (by show _ < 5000; omega) (fun w hw k hk => ?_) (fun _ _ => rfl) rfl
  · simp (disch := first | assumption | omega) only [aw_sI_e, aw_sI_n, aw_sI_2, aw_sL_e, aw_sL_n, aw_sL_1, Option.bind_some, aw_chkT, ck_and0, ck_and1, bI_t, bI_f, nar_0, nar_1]; exact r1
  · simp (disch := first | assumption | omega) only [aw_sI_e, aw_sI_n, aw_sI_2, aw_sL_e, aw_sL_n, aw_sL_1, Option.bind_some, aw_chkT, ck_and0, ck_and1, bI_t, bI_f, nar_0, nar_1]; exact r5'.1
  · simp (disch := first | assumption | omega) only [aw_sI_e, aw_sI_n, aw_sI_2, aw_sL_e, aw_sL_n, aw_sL_1, Option.bind_some, aw_chkT, ck_and0, ck_and1, bI_t, bI_f, nar_0, nar_1]; exact r2 w hw
  · simp (disch := first | assumption | omega) only [aw_sI_e, aw_sI_n, aw_sI_2, aw_sL_e, aw_sL_n, aw_sL_1, Option.bind_some, aw_chkT, ck_and0, ck_and1, bI_t, bI_f, nar_0, nar_1]
  · simp (disch := first | assumption | omega) only [aw_sI_e, aw_sI_n, aw_sI_2, aw_sL_e, aw_sL_n, aw_sL_1, Option.bind_some, aw_chkT, ck_and0, ck_and1, bI_t, bI_f, nar_0, nar_1]
  · simp (disch := first | assumption | omega) only [aw_sI_e, aw_sI_n, aw_sI_2, aw_sL_e, aw_sL_n, aw_sL_1, Option.bind_some, aw_chkT, ck_and0, ck_and1, bI_t, bI_f, nar_0, nar_1]
  · simp (disch := first | assumption | omega) only [aw_sI_e, aw_sI_n, aw_sI_2, aw_sL_e, aw_sL_n, aw_sL_1, Option.bind_some, aw_chkT, ck_and0, ck_and1, bI_t, bI_f, nar_0, nar_1]
  · have p4 : d'.1 x 4 = nI (A 6 0 y) := by rw [g2 _ (by omega)]; simp (disch := first | assumption | omega) only [aw_sI_e, aw_sI_n, aw_sI_2, aw_sL_e, aw_sL_n, aw_sL_1, Option.bind_some, aw_chkT, ck_and0, ck_and1, bI_t, bI_f, nar_0, nar_1]; exact r5'.1
    simp (disch := first | assumption | omega) only [p4, il_0, il_1, il_2, il_3, il_4, il_5, il_6, il_7, il_8, il_9, il_10, il_11, il_12, il_13, il_15, il_16, il_17, il_18, il_19, il_20, il_21, il_22, il_23, il_24, il_26, il_27, il_28, il_30, il_32, il_34, il_36, il_38, il_40, il_43, il_44, il_46, il_47, il_48, il_49, il_50, il_51, il_60, il_64, il_100, il_108, il_111, il_127, il_971, il_972, il_999, il_1000, il_1024, il_1087, il_2500, il_5000, il_9999, il_60000, il_2147483647, nI_add, nI_mulI, nI_subI, nI_divI, nI_cl, nI_leJ, nI_ltJ, nI_eqJ, nI_neM, nI_neM', aw_sI_e, aw_sI_n, aw_sI_2, aw_sL_e, aw_sL_n, aw_sL_1, Option.bind_some, aw_chkT, ck_and0, ck_and1, bI_t, bI_f, nar_0, nar_1]
    refine ok_some ⟨rfl, ⟨?_, fun w hw => ?_, fun w hw k hk => ?_, fun h0 => by omega, fun h0 => ⟨?_, fun c hc6 => ?_⟩⟩, FrD.w (by omega) ⟨fun c hc => ?_, g3⟩⟩
    · rw [aw_sI_n (by omega), g2 _ (by omega), chA_o (by omega)]; simp (disch := first | assumption | omega) only [aw_sI_e, aw_sI_n, aw_sI_2, aw_sL_e, aw_sL_n, aw_sL_1, Option.bind_some, aw_chkT, ck_and0, ck_and1, bI_t, bI_f, nar_0, nar_1]; exact r1
    · rw [chA_o (by omega)] at hw
      rw [aw_sI_n (by omega), g2 _ (by omega), chA_o (by omega)]; simp (disch := first | assumption | omega) only [aw_sI_e, aw_sI_n, aw_sI_2, aw_sL_e, aw_sL_n, aw_sL_1, Option.bind_some, aw_chkT, ck_and0, ck_and1, bI_t, bI_f, nar_0, nar_1]; exact r2 w hw
    · rw [chA_o (by omega)] at hw
      rw [chA_o (by omega)] at hk
      rw [aw_sI_n (by omega), g1 w hw k hk, chA_spk]
    · rw [aw_sI_e rfl rfl, Nat.add_sub_cancel, chA_6, if_pos rfl]
    · rw [Nat.add_sub_cancel, aw_sI_n (by omega), aw_sI_n (by omega), aw_sI_n (by omega), aw_sI_n (by omega), g2 _ (by omega), g2 _ (by omega), g2 _ (by omega), g2 _ (by omega)]
      by_cases e : c = A 6 0 y
      · subst e
        rw [chA_7, chA_8, chA_9, chA_10]
        simp (disch := first | assumption | omega) [aw_sI_e, aw_sI_n, aw_sI_2, aw_sL_e, aw_sL_n, aw_sL_1, Option.bind_some, aw_chkT, ck_and0, ck_and1, bI_t, bI_f, nar_0, nar_1]
      · rw [chA_x (by omega) (by omega), chA_x (by omega) (by omega), chA_x (by omega) (by omega), chA_x (by omega) (by omega)]
        simp (disch := first | assumption | omega) only [aw_sI_e, aw_sI_n, aw_sI_2, aw_sL_e, aw_sL_n, aw_sL_1, Option.bind_some, aw_chkT, ck_and0, ck_and1, bI_t, bI_f, nar_0, nar_1]
        exact r5'.2 c hc6
    · rw [g2 c (by omega)]
      funext i
      simp (disch := first | assumption | omega) only [aw_sI_e, aw_sI_n, aw_sI_2, aw_sL_e, aw_sL_n, aw_sL_1, Option.bind_some, aw_chkT, ck_and0, ck_and1, bI_t, bI_f, nar_0, nar_1]
  · rw [if_neg (by omega)]
    simp (disch := first | assumption | omega) only [aw_sI_e, aw_sI_n, aw_sI_2, aw_sL_e, aw_sL_n, aw_sL_1, Option.bind_some, aw_chkT, ck_and0, ck_and1, bI_t, bI_f, nar_0, nar_1]
    exact r3 w hw k hk
theorem RepC.ch {A : St} {d e : Dt} {j q a1 a2 b : Nat} (hC : RepC A d) (hW : WF A) (hj : j < 3) (z2 : RepD (chA A j q a1 a2 b) e (j + 1) (184 + 27 * j)) (F : FrD (184 + 27 * j) d e) : RepC (chA A j q a1 a2 b) e := by
  have ed : dlx (j + 1) = 184 + 27 * j := by unfold dlx; rw [if_neg (by omega)]; omega
  have hx : 184 + 27 * j = 4 ∨ 184 + 27 * j = 184 ∨ 184 + 27 * j = 211 ∨ 184 + 27 * j = 238 := by omega
  have w2 := hW.words
  refine ⟨?_, fun k hk => ?_, fun w hw => ?_, ?_, ?_, fun B hB => ?_, fun s hs => ?_, fun g hg => ?_, fun D hD => ?_⟩
  · rw [F.1 1 (by omega), chA_o (by omega)]; exact rc_dr hC
  · rw [F.1 2 (by omega), chA_o (by omega)]; exact rc_draft hC hk
  · rw [F.1 3 (by omega), chA_o (by omega)]; exact rc_wt hC hw
  · rw [F.1 1 (by omega), chA_o (by omega)]; exact rc_words hC
  · rw [F.1 0 (by omega), chA_o (by omega)]; exact rc_des hC
  · by_cases eB : B = j + 1
    · subst eB; rw [ed]; exact z2
    · have hxB := dlx_or hB
      have hne : dlx B ≠ 184 + 27 * j := by
        rw [← ed]; intro h
        exact eB ((by decide : ∀ b, b < 4 → ∀ c, c < 4 → dlx b = dlx c → b = c) B hB (j + 1) (by omega) h)
      obtain ⟨s1, s2, s3, s4, s5⟩ := hC.D hB
      have fr0 : ∀ c, dlx B ≤ c → c < dlx B + 27 → e.1 c = d.1 c := fun c hc1 hc2 => F.1 c (by omega)
      refine ⟨?_, fun w hw => ?_, fun w hw k hk => ?_, fun h0 => ?_, fun h0 => ⟨?_, fun c hc => ?_⟩⟩
      · rw [fr0 _ (by omega) (by omega), chA_o (by omega)]; exact s1
      · rw [chA_o (by omega)] at hw
        rw [fr0 _ (by omega) (by omega), chA_o (by omega)]; exact s2 w hw
      · rw [chA_o (by omega)] at hw
        rw [chA_o (by omega)] at hk
        rw [fr0 _ (by omega) (by omega), chA_spk2 eB]; exact s3 w hw k hk
      · rw [fr0 _ (by omega) (by omega)]; exact s4 h0
      · rw [fr0 _ (by omega) (by omega), chA_6, if_neg (by omega)]; exact (s5 h0).1
      · rw [fr0 _ (by omega) (by omega), fr0 _ (by omega) (by omega), fr0 _ (by omega) (by omega), fr0 _ (by omega) (by omega), chA_x (by omega) (by omega), chA_x (by omega) (by omega), chA_x (by omega) (by omega), chA_x (by omega) (by omega)]
        exact (s5 h0).2 c hc
  · rw [F.1 36 (by omega), F.1 88 (by omega), F.1 (38 + s) (by omega), chA_o (by omega)]; exact hC.s hs
  · rw [F.1 90 (by omega), F.1 91 (by omega), F.1 92 (by omega), chA_o (by omega), chA_o (by omega), chA_o (by omega)]; exact hC.g hg
  · rw [chA_o (by omega)] at hD
    exact (hC.G hD).cg (fun f hf k => chA_o (by omega)) (fun f hf => chA_o (by omega)) (fun c hc1 hc2 => F.1 c (by omega))
theorem C_valuesOf {σ : Sg} {d : Dt} {p : Nat} (hp : p < 4) : f_X10_valuesOf σ (nI p) d = some (nI (vals p), d) := by
  rcases (show p = 0 ∨ p = 1 ∨ p = 2 ∨ p = 3 by omega) with rfl | rfl | rfl | rfl <;> simp (disch := first | assumption | omega) [f_X10_valuesOf_J28, f_X10_valuesOf, vals, il_0, il_1, il_2, il_3, il_4, il_5, il_6, il_7, il_8, il_9, il_10, il_11, il_12, il_13, il_15, il_16, il_17, il_18, il_19, il_20, il_21, il_22, il_23, il_24, il_26, il_27, il_28, il_30, il_32, il_34, il_36, il_38, il_40, il_43, il_44, il_46, il_47, il_48, il_49, il_50, il_51, il_60, il_64, il_100, il_108, il_111, il_127, il_971, il_972, il_999, il_1000, il_1024, il_1087, il_2500, il_5000, il_9999, il_60000, il_2147483647, nI_add, nI_mulI, nI_subI, nI_divI, nI_cl, nI_leJ, nI_ltJ, nI_eqJ, nI_neM, nI_neM']
theorem ixi_5 {α : Type} {x y : Int32} {N : Nat} {i1 : Decidable (x < nI 0)} {i2 : Decidable (nI N ≤ x)} {i3 : Decidable (y < nI 0)} {i4 : Decidable (y < nI N)} {a b : α} (hN : N < 2147483648) : @ite α (x < nI 0) i1 a (@ite α (nI N ≤ x) i2 a (@ite α (y < nI 0) i3 a (@ite α (y < nI N) i4 b a))) = if (ix x N && ix y N) = true then b else a := by
  rw [ixi_1 hN, ixi_3 hN]
  cases ix x N <;> cases ix y N <;> rfl
theorem C_change {A : St} {σ : Sg} {d : Dt} (hS : Lay σ) (hn : ly_n σ = A 11 0 0) (hW : WF A) (hC : RepC A d) (x p fr to : Int32) {b : Nat} (hb : b ≤ 1) : ok (f_X10_change σ 0 x p fr to (nI b) d) (PX cc_I d (o_change A x p fr to b)) := by
  have w2 := hW.words
  cases g1 : ix x 3
  · have eo : o_change A x p fr to b = (1, nI 0, A) := by simp [o_change, g1]
    rw [eo]
    simp (disch := first | assumption | omega) only [f_X10_change_J14, f_X10_change_J52, f_X10_change, C_reqDial, g1, rq_f, aw_th_L, ↓reduceIte, Nat.reduceEqDiff, Nat.one_ne_zero, if_true, if_false, lo_0 hS, lo_1 hS, lo_33 hS, lo_34 hS, lo_89 hS, lo_100 hS, lo_123 hS, lo_146 hS, lo_148 hS, lo_176 hS, lo_182 hS, lo_D hS, lo_G hS, lr_37 hS, lr_93 hS, lr_101 hS, lr_124 hS, lr_152 hS, lr_169 hS, lr_0_0 hS, lr_0_1 hS, lr_0_2 hS, lr_0_3 hS, lr_0_5 hS, lr_0_6 hS, lr_0_7 hS, lr_0_8 hS, lr_0_9 hS, lr_0_10 hS, lr_0_11 hS, lr_0_12 hS, lr_1_0 hS, lr_1_2 hS, lr_33_0 hS, lr_33_1 hS, lr_33_2 hS, lr_33_3 hS, lr_34_0 hS, lr_89_0 hS, lr_89_1 hS, lr_89_2 hS, lr_89_3 hS, lr_89_4 hS, lr_89_5 hS, lr_100_0 hS, lr_100_1 hS, lr_123_0 hS, lr_123_1 hS, lr_146_0 hS, lr_148_0 hS, lr_148_1 hS, lr_148_2 hS, lr_148_3 hS, lr_148_4 hS, lr_148_5 hS, lr_176_0 hS, lr_176_1 hS, lr_176_4 hS, lr_176_6 hS, lr_176_7 hS, lr_182_0 hS, lr_D_0 hS, lr_D_1 hS, lr_D_2 hS, lr_D_3 hS, lr_D_5 hS, lr_D_6 hS, lr_D_r hS, lr_31 hS, lr_32 hS, lr_G_2 hS, lr_G_3 hS, lr_G_4 hS, li_2 hS, li_3 hS, li_31 hS, li_32 hS, li_35 hS, li_36 hS, li_37 hS, li_88 hS, li_90 hS, li_91 hS, li_92 hS, li_93 hS, li_98 hS, li_99 hS, li_101 hS, li_122 hS, li_124 hS, li_145 hS, li_147 hS, li_149 hS, li_150 hS, li_151 hS, li_152 hS, li_169 hS, li_175 hS, li_177 hS, li_178 hS, li_179 hS, li_180 hS, li_181 hS, li_183 hS, li_265 hS, li_266 hS, li_267 hS, li_268 hS, li_269 hS, li_270 hS, li_271 hS, li_272 hS, li_273 hS, li_274 hS, li_275 hS, li_276 hS, li_38 hS, li_94 hS, li_102 hS, li_125 hS, li_153 hS, li_170 hS, li_D_1 hS, li_D_2 hS, li_D_3 hS, li_D_4 hS, li_D_5 hS, li_D_26 hS, li_D_r hS, li_G_1 hS, li_G_2 hS, li_G_3 hS, li_rA hS, li_rK hS, li_rX hS, il_0, il_1, il_2, il_3, il_4, il_5, il_6, il_7, il_8, il_9, il_10, il_11, il_12, il_13, il_15, il_16, il_17, il_18, il_19, il_20, il_21, il_22, il_23, il_24, il_26, il_27, il_28, il_30, il_32, il_34, il_36, il_38, il_40, il_43, il_44, il_46, il_47, il_48, il_49, il_50, il_51, il_60, il_64, il_100, il_108, il_111, il_127, il_971, il_972, il_999, il_1000, il_1024, il_1087, il_2500, il_5000, il_9999, il_60000, il_2147483647, nI_add, nI_mulI, nI_subI, nI_divI, nI_cl, nI_leJ, nI_ltJ, nI_eqJ, nI_neM, nI_neM', aw_sI_e, aw_sI_n, aw_sI_2, aw_sL_e, aw_sL_n, aw_sL_1, Option.bind_some, aw_chkT, ck_and0, ck_and1, bI_t, bI_f, nar_0, nar_1]
    exact ok_some (PX.thr rfl hC)
  · cases g2 : ix p 4
    · have eo : o_change A x p fr to b = (1, nI 0, A) := by simp [o_change, g2]
      rw [eo]
      simp (disch := first | assumption | omega) only [f_X10_change_J14, f_X10_change_J52, f_X10_change, C_reqDial, g1, g2, ixi_2, Nat.reduceAdd, rq_t, aw_th_R, Bool.false_eq_true, ↓reduceIte, Nat.reduceEqDiff, Nat.one_ne_zero, if_true, if_false, lo_0 hS, lo_1 hS, lo_33 hS, lo_34 hS, lo_89 hS, lo_100 hS, lo_123 hS, lo_146 hS, lo_148 hS, lo_176 hS, lo_182 hS, lo_D hS, lo_G hS, lr_37 hS, lr_93 hS, lr_101 hS, lr_124 hS, lr_152 hS, lr_169 hS, lr_0_0 hS, lr_0_1 hS, lr_0_2 hS, lr_0_3 hS, lr_0_5 hS, lr_0_6 hS, lr_0_7 hS, lr_0_8 hS, lr_0_9 hS, lr_0_10 hS, lr_0_11 hS, lr_0_12 hS, lr_1_0 hS, lr_1_2 hS, lr_33_0 hS, lr_33_1 hS, lr_33_2 hS, lr_33_3 hS, lr_34_0 hS, lr_89_0 hS, lr_89_1 hS, lr_89_2 hS, lr_89_3 hS, lr_89_4 hS, lr_89_5 hS, lr_100_0 hS, lr_100_1 hS, lr_123_0 hS, lr_123_1 hS, lr_146_0 hS, lr_148_0 hS, lr_148_1 hS, lr_148_2 hS, lr_148_3 hS, lr_148_4 hS, lr_148_5 hS, lr_176_0 hS, lr_176_1 hS, lr_176_4 hS, lr_176_6 hS, lr_176_7 hS, lr_182_0 hS, lr_D_0 hS, lr_D_1 hS, lr_D_2 hS, lr_D_3 hS, lr_D_5 hS, lr_D_6 hS, lr_D_r hS, lr_31 hS, lr_32 hS, lr_G_2 hS, lr_G_3 hS, lr_G_4 hS, li_2 hS, li_3 hS, li_31 hS, li_32 hS, li_35 hS, li_36 hS, li_37 hS, li_88 hS, li_90 hS, li_91 hS, li_92 hS, li_93 hS, li_98 hS, li_99 hS, li_101 hS, li_122 hS, li_124 hS, li_145 hS, li_147 hS, li_149 hS, li_150 hS, li_151 hS, li_152 hS, li_169 hS, li_175 hS, li_177 hS, li_178 hS, li_179 hS, li_180 hS, li_181 hS, li_183 hS, li_265 hS, li_266 hS, li_267 hS, li_268 hS, li_269 hS, li_270 hS, li_271 hS, li_272 hS, li_273 hS, li_274 hS, li_275 hS, li_276 hS, li_38 hS, li_94 hS, li_102 hS, li_125 hS, li_153 hS, li_170 hS, li_D_1 hS, li_D_2 hS, li_D_3 hS, li_D_4 hS, li_D_5 hS, li_D_26 hS, li_D_r hS, li_G_1 hS, li_G_2 hS, li_G_3 hS, li_rA hS, li_rK hS, li_rX hS, il_0, il_1, il_2, il_3, il_4, il_5, il_6, il_7, il_8, il_9, il_10, il_11, il_12, il_13, il_15, il_16, il_17, il_18, il_19, il_20, il_21, il_22, il_23, il_24, il_26, il_27, il_28, il_30, il_32, il_34, il_36, il_38, il_40, il_43, il_44, il_46, il_47, il_48, il_49, il_50, il_51, il_60, il_64, il_100, il_108, il_111, il_127, il_971, il_972, il_999, il_1000, il_1024, il_1087, il_2500, il_5000, il_9999, il_60000, il_2147483647, nI_add, nI_mulI, nI_subI, nI_divI, nI_cl, nI_leJ, nI_ltJ, nI_eqJ, nI_neM, nI_neM', aw_sI_e, aw_sI_n, aw_sI_2, aw_sL_e, aw_sL_n, aw_sL_1, Option.bind_some, aw_chkT, ck_and0, ck_and1, bI_t, bI_f, nar_0, nar_1]
      exact ok_some (PX.thr rfl hC)
    · rcases ix_or x 3 (by decide) with ⟨j, hj, rfl, -⟩ | ⟨hi, -⟩
      rotate_left
      · rw [hi] at g1; cases g1
      rcases ix_or p 4 (by decide) with ⟨q, hq, rfl, -⟩ | ⟨hi, -⟩
      rotate_left
      · rw [hi] at g2; cases g2
      have c1 : (nI j).toNatClampNeg = j := nI_cl (by omega)
      have c2 : (nI q).toNatClampNeg = q := nI_cl (by omega)
      have hv9 := vals9 q
      have ed : dlx (j + 1) = 184 + 27 * j := by unfold dlx; rw [if_neg (by omega)]; omega
      have hx : 184 + 27 * j = 4 ∨ 184 + 27 * j = 184 ∨ 184 + 27 * j = 211 ∨ 184 + 27 * j = 238 := by omega
      have hR := hC.D (show j + 1 < 4 by omega)
      rw [ed] at hR
      have r5 := (hR.2.2.2.2 (by omega)).1
      rw [Nat.add_sub_cancel] at r5
      have hx6 := (hW.x hj).1
      have hq3 : q ≤ 3 := by omega
      cases h2 : (ix fr (vals q) && ix to (vals q))
      · have eo : o_change A (nI j) (nI q) fr to b = (2, nI 0, A) := by simp only [o_change, c1, c2, g1, g2, h2]; rfl
        rw [eo]
        simp (disch := first | assumption | omega) only [f_X10_change_J14, f_X10_change_J52, f_X10_change, C_reqDial, g1, hq3, h2, Nat.not_lt_zero, ixi_5, C_valuesOf, Nat.reduceAdd, rq_t, aw_th_R, Bool.false_eq_true, ↓reduceIte, Nat.reduceEqDiff, Nat.one_ne_zero, if_true, if_false, lo_0 hS, lo_1 hS, lo_33 hS, lo_34 hS, lo_89 hS, lo_100 hS, lo_123 hS, lo_146 hS, lo_148 hS, lo_176 hS, lo_182 hS, lo_D hS, lo_G hS, lr_37 hS, lr_93 hS, lr_101 hS, lr_124 hS, lr_152 hS, lr_169 hS, lr_0_0 hS, lr_0_1 hS, lr_0_2 hS, lr_0_3 hS, lr_0_5 hS, lr_0_6 hS, lr_0_7 hS, lr_0_8 hS, lr_0_9 hS, lr_0_10 hS, lr_0_11 hS, lr_0_12 hS, lr_1_0 hS, lr_1_2 hS, lr_33_0 hS, lr_33_1 hS, lr_33_2 hS, lr_33_3 hS, lr_34_0 hS, lr_89_0 hS, lr_89_1 hS, lr_89_2 hS, lr_89_3 hS, lr_89_4 hS, lr_89_5 hS, lr_100_0 hS, lr_100_1 hS, lr_123_0 hS, lr_123_1 hS, lr_146_0 hS, lr_148_0 hS, lr_148_1 hS, lr_148_2 hS, lr_148_3 hS, lr_148_4 hS, lr_148_5 hS, lr_176_0 hS, lr_176_1 hS, lr_176_4 hS, lr_176_6 hS, lr_176_7 hS, lr_182_0 hS, lr_D_0 hS, lr_D_1 hS, lr_D_2 hS, lr_D_3 hS, lr_D_5 hS, lr_D_6 hS, lr_D_r hS, lr_31 hS, lr_32 hS, lr_G_2 hS, lr_G_3 hS, lr_G_4 hS, li_2 hS, li_3 hS, li_31 hS, li_32 hS, li_35 hS, li_36 hS, li_37 hS, li_88 hS, li_90 hS, li_91 hS, li_92 hS, li_93 hS, li_98 hS, li_99 hS, li_101 hS, li_122 hS, li_124 hS, li_145 hS, li_147 hS, li_149 hS, li_150 hS, li_151 hS, li_152 hS, li_169 hS, li_175 hS, li_177 hS, li_178 hS, li_179 hS, li_180 hS, li_181 hS, li_183 hS, li_265 hS, li_266 hS, li_267 hS, li_268 hS, li_269 hS, li_270 hS, li_271 hS, li_272 hS, li_273 hS, li_274 hS, li_275 hS, li_276 hS, li_38 hS, li_94 hS, li_102 hS, li_125 hS, li_153 hS, li_170 hS, li_D_1 hS, li_D_2 hS, li_D_3 hS, li_D_4 hS, li_D_5 hS, li_D_26 hS, li_D_r hS, li_G_1 hS, li_G_2 hS, li_G_3 hS, li_rA hS, li_rK hS, li_rX hS, il_0, il_1, il_2, il_3, il_4, il_5, il_6, il_7, il_8, il_9, il_10, il_11, il_12, il_13, il_15, il_16, il_17, il_18, il_19, il_20, il_21, il_22, il_23, il_24, il_26, il_27, il_28, il_30, il_32, il_34, il_36, il_38, il_40, il_43, il_44, il_46, il_47, il_48, il_49, il_50, il_51, il_60, il_64, il_100, il_108, il_111, il_127, il_971, il_972, il_999, il_1000, il_1024, il_1087, il_2500, il_5000, il_9999, il_60000, il_2147483647, nI_add, nI_mulI, nI_subI, nI_divI, nI_cl, nI_leJ, nI_ltJ, nI_eqJ, nI_neM, nI_neM', aw_sI_e, aw_sI_n, aw_sI_2, aw_sL_e, aw_sL_n, aw_sL_1, Option.bind_some, aw_chkT, ck_and0, ck_and1, bI_t, bI_f, nar_0, nar_1]
        exact ok_some (PX.thr rfl hC)
      · have h2' := h2
        simp only [Bool.and_eq_true] at h2'
        rcases ix_or fr (vals q) (by omega) with ⟨a1, ha1, rfl, -⟩ | ⟨hi, -⟩
        rotate_left
        · rw [hi] at h2'; cases h2'.1
        rcases ix_or to (vals q) (by omega) with ⟨a2, ha2, rfl, -⟩ | ⟨hi, -⟩
        rotate_left
        · rw [hi] at h2'; cases h2'.2
        have ha1' : ¬ vals q ≤ a1 := by omega
        by_cases e : A 6 0 j = 6
        · have eo : o_change A (nI j) (nI q) (nI a1) (nI a2) b = (3, nI 0, A) := by simp [o_change, c1, c2, g1, g2, h2', e]
          rw [eo]
          simp (disch := first | assumption | omega) only [f_X10_change_J14, f_X10_change_J52, f_X10_change, C_reqDial, g1, hq3, ha1', ha2, Nat.not_lt_zero, C_valuesOf, r5, e, Nat.lt_irrefl, Nat.reduceAdd, rq_t, aw_th_R, ↓reduceIte, Nat.reduceEqDiff, Nat.one_ne_zero, if_true, if_false, lo_0 hS, lo_1 hS, lo_33 hS, lo_34 hS, lo_89 hS, lo_100 hS, lo_123 hS, lo_146 hS, lo_148 hS, lo_176 hS, lo_182 hS, lo_D hS, lo_G hS, lr_37 hS, lr_93 hS, lr_101 hS, lr_124 hS, lr_152 hS, lr_169 hS, lr_0_0 hS, lr_0_1 hS, lr_0_2 hS, lr_0_3 hS, lr_0_5 hS, lr_0_6 hS, lr_0_7 hS, lr_0_8 hS, lr_0_9 hS, lr_0_10 hS, lr_0_11 hS, lr_0_12 hS, lr_1_0 hS, lr_1_2 hS, lr_33_0 hS, lr_33_1 hS, lr_33_2 hS, lr_33_3 hS, lr_34_0 hS, lr_89_0 hS, lr_89_1 hS, lr_89_2 hS, lr_89_3 hS, lr_89_4 hS, lr_89_5 hS, lr_100_0 hS, lr_100_1 hS, lr_123_0 hS, lr_123_1 hS, lr_146_0 hS, lr_148_0 hS, lr_148_1 hS, lr_148_2 hS, lr_148_3 hS, lr_148_4 hS, lr_148_5 hS, lr_176_0 hS, lr_176_1 hS, lr_176_4 hS, lr_176_6 hS, lr_176_7 hS, lr_182_0 hS, lr_D_0 hS, lr_D_1 hS, lr_D_2 hS, lr_D_3 hS, lr_D_5 hS, lr_D_6 hS, lr_D_r hS, lr_31 hS, lr_32 hS, lr_G_2 hS, lr_G_3 hS, lr_G_4 hS, li_2 hS, li_3 hS, li_31 hS, li_32 hS, li_35 hS, li_36 hS, li_37 hS, li_88 hS, li_90 hS, li_91 hS, li_92 hS, li_93 hS, li_98 hS, li_99 hS, li_101 hS, li_122 hS, li_124 hS, li_145 hS, li_147 hS, li_149 hS, li_150 hS, li_151 hS, li_152 hS, li_169 hS, li_175 hS, li_177 hS, li_178 hS, li_179 hS, li_180 hS, li_181 hS, li_183 hS, li_265 hS, li_266 hS, li_267 hS, li_268 hS, li_269 hS, li_270 hS, li_271 hS, li_272 hS, li_273 hS, li_274 hS, li_275 hS, li_276 hS, li_38 hS, li_94 hS, li_102 hS, li_125 hS, li_153 hS, li_170 hS, li_D_1 hS, li_D_2 hS, li_D_3 hS, li_D_4 hS, li_D_5 hS, li_D_26 hS, li_D_r hS, li_G_1 hS, li_G_2 hS, li_G_3 hS, li_rA hS, li_rK hS, li_rX hS, il_0, il_1, il_2, il_3, il_4, il_5, il_6, il_7, il_8, il_9, il_10, il_11, il_12, il_13, il_15, il_16, il_17, il_18, il_19, il_20, il_21, il_22, il_23, il_24, il_26, il_27, il_28, il_30, il_32, il_34, il_36, il_38, il_40, il_43, il_44, il_46, il_47, il_48, il_49, il_50, il_51, il_60, il_64, il_100, il_108, il_111, il_127, il_971, il_972, il_999, il_1000, il_1024, il_1087, il_2500, il_5000, il_9999, il_60000, il_2147483647, nI_add, nI_mulI, nI_subI, nI_divI, nI_cl, nI_leJ, nI_ltJ, nI_eqJ, nI_neM, nI_neM', aw_sI_e, aw_sI_n, aw_sI_2, aw_sL_e, aw_sL_n, aw_sL_1, Option.bind_some, aw_chkT, ck_and0, ck_and1, bI_t, bI_f, nar_0, nar_1]
          exact ok_some (PX.thr rfl hC)
        · have eo : o_change A (nI j) (nI q) (nI a1) (nI a2) b = (0, nI (A 6 0 j + 1), chA A j q a1 a2 b) := by simp (disch := first | assumption | omega) [o_change, c1, c2, g1, g2, h2', e, nI_cl, chA]
          rw [eo]
          have hlt : A 6 0 j < 6 := by omega
          obtain ⟨z, hz, z1, z2, z3⟩ := C_append hS hW hx hj hR hlt hq ha1 ha2 hb
          simp (disch := first | assumption | omega) only [f_X10_change_J14, f_X10_change_J52, f_X10_change, C_reqDial, g1, hq3, ha1', ha2, Nat.not_lt_zero, C_valuesOf, r5, hlt, hz, Nat.reduceAdd, rq_t, aw_th_R, ↓reduceIte, Nat.reduceEqDiff, Nat.one_ne_zero, if_true, if_false, lo_0 hS, lo_1 hS, lo_33 hS, lo_34 hS, lo_89 hS, lo_100 hS, lo_123 hS, lo_146 hS, lo_148 hS, lo_176 hS, lo_182 hS, lo_D hS, lo_G hS, lr_37 hS, lr_93 hS, lr_101 hS, lr_124 hS, lr_152 hS, lr_169 hS, lr_0_0 hS, lr_0_1 hS, lr_0_2 hS, lr_0_3 hS, lr_0_5 hS, lr_0_6 hS, lr_0_7 hS, lr_0_8 hS, lr_0_9 hS, lr_0_10 hS, lr_0_11 hS, lr_0_12 hS, lr_1_0 hS, lr_1_2 hS, lr_33_0 hS, lr_33_1 hS, lr_33_2 hS, lr_33_3 hS, lr_34_0 hS, lr_89_0 hS, lr_89_1 hS, lr_89_2 hS, lr_89_3 hS, lr_89_4 hS, lr_89_5 hS, lr_100_0 hS, lr_100_1 hS, lr_123_0 hS, lr_123_1 hS, lr_146_0 hS, lr_148_0 hS, lr_148_1 hS, lr_148_2 hS, lr_148_3 hS, lr_148_4 hS, lr_148_5 hS, lr_176_0 hS, lr_176_1 hS, lr_176_4 hS, lr_176_6 hS, lr_176_7 hS, lr_182_0 hS, lr_D_0 hS, lr_D_1 hS, lr_D_2 hS, lr_D_3 hS, lr_D_5 hS, lr_D_6 hS, lr_D_r hS, lr_31 hS, lr_32 hS, lr_G_2 hS, lr_G_3 hS, lr_G_4 hS, li_2 hS, li_3 hS, li_31 hS, li_32 hS, li_35 hS, li_36 hS, li_37 hS, li_88 hS, li_90 hS, li_91 hS, li_92 hS, li_93 hS, li_98 hS, li_99 hS, li_101 hS, li_122 hS, li_124 hS, li_145 hS, li_147 hS, li_149 hS, li_150 hS, li_151 hS, li_152 hS, li_169 hS, li_175 hS, li_177 hS, li_178 hS, li_179 hS, li_180 hS, li_181 hS, li_183 hS, li_265 hS, li_266 hS, li_267 hS, li_268 hS, li_269 hS, li_270 hS, li_271 hS, li_272 hS, li_273 hS, li_274 hS, li_275 hS, li_276 hS, li_38 hS, li_94 hS, li_102 hS, li_125 hS, li_153 hS, li_170 hS, li_D_1 hS, li_D_2 hS, li_D_3 hS, li_D_4 hS, li_D_5 hS, li_D_26 hS, li_D_r hS, li_G_1 hS, li_G_2 hS, li_G_3 hS, li_rA hS, li_rK hS, li_rX hS, il_0, il_1, il_2, il_3, il_4, il_5, il_6, il_7, il_8, il_9, il_10, il_11, il_12, il_13, il_15, il_16, il_17, il_18, il_19, il_20, il_21, il_22, il_23, il_24, il_26, il_27, il_28, il_30, il_32, il_34, il_36, il_38, il_40, il_43, il_44, il_46, il_47, il_48, il_49, il_50, il_51, il_60, il_64, il_100, il_108, il_111, il_127, il_971, il_972, il_999, il_1000, il_1024, il_1087, il_2500, il_5000, il_9999, il_60000, il_2147483647, nI_add, nI_mulI, nI_subI, nI_divI, nI_cl, nI_leJ, nI_ltJ, nI_eqJ, nI_neM, nI_neM', aw_sI_e, aw_sI_n, aw_sI_2, aw_sL_e, aw_sL_n, aw_sL_1, Option.bind_some, aw_chkT, ck_and0, ck_and1, bI_t, bI_f, nar_0, nar_1]
          refine ok_some ⟨?_, hC.ch hW hj z2 z3, fun c h1 h2 => by rw [z3.1 c (by omega), z3.2]; exact ⟨rfl, rfl⟩⟩
          show Sum.inr z.1 = Sum.inr (nI (A 6 0 j + 1))
          rw [z1]
