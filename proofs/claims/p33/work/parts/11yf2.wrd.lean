/-! words by the law -/
def wdS (A : St) (v : Nat) : St := stU (stU (stU (stU (stF A 4 (A 2 0 0) (A 0 0 0) (A 1 0)) 3 0 (A 2 0 0) (A 0 0 0)) 5 0 (A 2 0 0) v) 0 0 0 0) 2 0 0 (A 2 0 0 + 1)
theorem wd_o {A : St} {v f i j : Nat} (h : f ≠ 0 ∧ f ≠ 2 ∧ f ≠ 3 ∧ f ≠ 4 ∧ f ≠ 5) : wdS A v f i j = A f i j := by
  unfold wdS
  rw [stU_n (by omega), stU_n (by omega), stU_n (by omega), stU_n (by omega), stF_n (by omega)]
theorem wd_0 {A : St} {v : Nat} : wdS A v 0 0 0 = 0 := by unfold wdS; rw [stU_n (by omega), stU_e rfl rfl rfl]
theorem wd_2 {A : St} {v : Nat} : wdS A v 2 0 0 = A 2 0 0 + 1 := stU_e rfl rfl rfl
theorem wd_3 {A : St} {v : Nat} : wdS A v 3 0 (A 2 0 0) = A 0 0 0 := by unfold wdS; rw [stU_n (by omega), stU_n (by omega), stU_n (by omega), stU_e rfl rfl rfl]
theorem wd_3n {A : St} {v w : Nat} (h : w ≠ A 2 0 0) : wdS A v 3 0 w = A 3 0 w := by unfold wdS; rw [stU_n (by omega), stU_n (by omega), stU_n (by omega), stU_n (by omega), stF_n (by omega)]
theorem wd_5 {A : St} {v : Nat} : wdS A v 5 0 (A 2 0 0) = v := by unfold wdS; rw [stU_n (by omega), stU_n (by omega), stU_e rfl rfl rfl]
theorem wd_5n {A : St} {v w : Nat} (h : w ≠ A 2 0 0) : wdS A v 5 0 w = A 5 0 w := by unfold wdS; rw [stU_n (by omega), stU_n (by omega), stU_n (by omega), stU_n (by omega), stF_n (by omega)]
theorem wd_4 {A : St} {v k : Nat} (h : k < A 0 0 0) : wdS A v 4 (A 2 0 0) k = A 1 0 k := by unfold wdS; rw [stU_n (by omega), stU_n (by omega), stU_n (by omega), stU_n (by omega), stF_e rfl rfl h]
theorem wd_4n {A : St} {v w k : Nat} (h : w ≠ A 2 0 0) : wdS A v 4 w k = A 4 w k := by unfold wdS; rw [stU_n (by omega), stU_n (by omega), stU_n (by omega), stU_n (by omega), stF_n (by omega)]
def Cp (A : St) (i : Nat) (d0 d : Dt) : Prop := (∀ c, c ≠ 265 → d.1 c = d0.1 c) ∧ (∀ j, ¬ (4 * A 2 0 0 ≤ j ∧ j < 4 * A 2 0 0 + i) → d.1 265 j = d0.1 265 j) ∧ (∀ j, j < i → d.1 265 (4 * A 2 0 0 + j) = nI (A 1 0 j)) ∧ d.2 = d0.2
theorem W_L270 {A : St} {σ : Sg} {d0 : Dt} {x8 x9 x10 : Int32} {Q : Int32 × Dt → Prop} {k : Dt → Option (Int32 × Dt)} (hS : Lay σ) (hW : WF A) (hQ : RepQ A d0) (hw : A 2 0 0 < 6) (hk : ∀ d, Cp A (A 0 0 0) d0 d → ok (k d) Q) : ∀ (m i f : Nat) (d : Dt), i + m = A 0 0 0 → m < f → Cp A i d0 d → ok (f_L_isWord_L270 σ f k 0 265 266 274 x8 x9 x10 (nI i) d) Q := by
  have h4 := hW.1
  intro m
  induction m with
  | zero =>
    intro i f d hi hf h
    cases f with
    | zero => omega
    | succ f =>
      have q6 : d.1 266 6 = nI (A 0 0 0) := by rw [h.1 266 (by omega)]; exact rq_dr hQ
      show ok (f_L_isWord_B270 σ (f_L_isWord_L270 σ f k 0 265 266 274 x8 x9 x10) k 0 265 266 274 x8 x9 x10 (nI i) d) Q
      simp (disch := first | assumption | omega) only [f_L_isWord_B270, q6, lo_0 hS, lo_1 hS, lo_33 hS, lo_34 hS, lo_89 hS, lo_100 hS, lo_123 hS, lo_146 hS, lo_148 hS, lo_176 hS, lo_182 hS, lo_D hS, lo_G hS, lr_37 hS, lr_93 hS, lr_101 hS, lr_124 hS, lr_152 hS, lr_169 hS, lr_0_0 hS, lr_0_1 hS, lr_0_2 hS, lr_0_3 hS, lr_0_5 hS, lr_0_6 hS, lr_0_7 hS, lr_0_8 hS, lr_0_9 hS, lr_0_10 hS, lr_0_11 hS, lr_0_12 hS, lr_1_0 hS, lr_1_2 hS, lr_33_0 hS, lr_33_1 hS, lr_33_2 hS, lr_33_3 hS, lr_34_0 hS, lr_89_0 hS, lr_89_1 hS, lr_89_2 hS, lr_89_3 hS, lr_89_4 hS, lr_89_5 hS, lr_100_0 hS, lr_100_1 hS, lr_123_0 hS, lr_123_1 hS, lr_146_0 hS, lr_148_0 hS, lr_148_1 hS, lr_148_2 hS, lr_148_3 hS, lr_148_4 hS, lr_148_5 hS, lr_176_0 hS, lr_176_1 hS, lr_176_4 hS, lr_176_6 hS, lr_176_7 hS, lr_182_0 hS, lr_D_0 hS, lr_D_1 hS, lr_D_2 hS, lr_D_3 hS, lr_D_5 hS, lr_D_6 hS, lr_D_r hS, lr_31 hS, lr_32 hS, lr_G_2 hS, lr_G_3 hS, lr_G_4 hS, li_2 hS, li_3 hS, li_31 hS, li_32 hS, li_35 hS, li_36 hS, li_37 hS, li_88 hS, li_90 hS, li_91 hS, li_92 hS, li_93 hS, li_98 hS, li_99 hS, li_101 hS, li_122 hS, li_124 hS, li_145 hS, li_147 hS, li_149 hS, li_150 hS, li_151 hS, li_152 hS, li_169 hS, li_175 hS, li_177 hS, li_178 hS, li_179 hS, li_180 hS, li_181 hS, li_183 hS, li_265 hS, li_266 hS, li_267 hS, li_268 hS, li_269 hS, li_270 hS, li_271 hS, li_272 hS, li_273 hS, li_274 hS, li_275 hS, li_276 hS, li_38 hS, li_94 hS, li_102 hS, li_125 hS, li_153 hS, li_170 hS, li_D_1 hS, li_D_2 hS, li_D_3 hS, li_D_4 hS, li_D_5 hS, li_D_26 hS, li_D_r hS, li_G_1 hS, li_G_2 hS, li_G_3 hS, li_rA hS, li_rK hS, li_rX hS, il_0, il_1, il_2, il_3, il_4, il_5, il_6, il_7, il_8, il_9, il_10, il_11, il_12, il_13, il_15, il_16, il_17, il_18, il_19, il_20, il_21, il_22, il_23, il_24, il_26, il_27, il_28, il_30, il_32, il_34, il_36, il_38, il_40, il_43, il_44, il_46, il_47, il_48, il_49, il_50, il_51, il_60, il_64, il_100, il_108, il_111, il_127, il_971, il_972, il_999, il_1000, il_1024, il_1087, il_2500, il_5000, il_9999, il_60000, il_2147483647, nI_add, nI_mulI, nI_subI, nI_divI, nI_cl, nI_leJ, nI_ltJ, nI_eqJ, nI_neM, nI_neM', il_31, aw_sI_e, aw_sI_n, aw_sI_2, aw_sL_e, aw_sL_n, aw_sL_1, Option.bind_some, aw_chkT, ck_and0, ck_and1, bI_t, bI_f, nar_0, nar_1]
      rw [if_pos (by omega)]
      obtain rfl : i = A 0 0 0 := by omega
      exact hk d h
  | succ m ih =>
    intro i f d hi hf h
    cases f with
    | zero => omega
    | succ f =>
      have hlt : i < A 0 0 0 := by omega
      have q6 : d.1 266 6 = nI (A 0 0 0) := by rw [h.1 266 (by omega)]; exact rq_dr hQ
      have q0 : d.1 274 0 = nI (A 2 0 0) := by rw [h.1 274 (by omega)]; exact rq_words hQ
      have qd : d.1 265 (24 + i) = nI (A 1 0 i) := by rw [h.2.1 _ (by omega)]; exact rq_draft hQ hlt
      have b1 : 24 + i < 28 := by omega
      have b2 : 4 * A 2 0 0 + i < 28 := by omega
      show ok (f_L_isWord_B270 σ (f_L_isWord_L270 σ f k 0 265 266 274 x8 x9 x10) k 0 265 266 274 x8 x9 x10 (nI i) d) Q
      simp (disch := first | assumption | omega) only [f_L_isWord_B270, q6, q0, qd, lo_0 hS, lo_1 hS, lo_33 hS, lo_34 hS, lo_89 hS, lo_100 hS, lo_123 hS, lo_146 hS, lo_148 hS, lo_176 hS, lo_182 hS, lo_D hS, lo_G hS, lr_37 hS, lr_93 hS, lr_101 hS, lr_124 hS, lr_152 hS, lr_169 hS, lr_0_0 hS, lr_0_1 hS, lr_0_2 hS, lr_0_3 hS, lr_0_5 hS, lr_0_6 hS, lr_0_7 hS, lr_0_8 hS, lr_0_9 hS, lr_0_10 hS, lr_0_11 hS, lr_0_12 hS, lr_1_0 hS, lr_1_2 hS, lr_33_0 hS, lr_33_1 hS, lr_33_2 hS, lr_33_3 hS, lr_34_0 hS, lr_89_0 hS, lr_89_1 hS, lr_89_2 hS, lr_89_3 hS, lr_89_4 hS, lr_89_5 hS, lr_100_0 hS, lr_100_1 hS, lr_123_0 hS, lr_123_1 hS, lr_146_0 hS, lr_148_0 hS, lr_148_1 hS, lr_148_2 hS, lr_148_3 hS, lr_148_4 hS, lr_148_5 hS, lr_176_0 hS, lr_176_1 hS, lr_176_4 hS, lr_176_6 hS, lr_176_7 hS, lr_182_0 hS, lr_D_0 hS, lr_D_1 hS, lr_D_2 hS, lr_D_3 hS, lr_D_5 hS, lr_D_6 hS, lr_D_r hS, lr_31 hS, lr_32 hS, lr_G_2 hS, lr_G_3 hS, lr_G_4 hS, li_2 hS, li_3 hS, li_31 hS, li_32 hS, li_35 hS, li_36 hS, li_37 hS, li_88 hS, li_90 hS, li_91 hS, li_92 hS, li_93 hS, li_98 hS, li_99 hS, li_101 hS, li_122 hS, li_124 hS, li_145 hS, li_147 hS, li_149 hS, li_150 hS, li_151 hS, li_152 hS, li_169 hS, li_175 hS, li_177 hS, li_178 hS, li_179 hS, li_180 hS, li_181 hS, li_183 hS, li_265 hS, li_266 hS, li_267 hS, li_268 hS, li_269 hS, li_270 hS, li_271 hS, li_272 hS, li_273 hS, li_274 hS, li_275 hS, li_276 hS, li_38 hS, li_94 hS, li_102 hS, li_125 hS, li_153 hS, li_170 hS, li_D_1 hS, li_D_2 hS, li_D_3 hS, li_D_4 hS, li_D_5 hS, li_D_26 hS, li_D_r hS, li_G_1 hS, li_G_2 hS, li_G_3 hS, li_rA hS, li_rK hS, li_rX hS, il_0, il_1, il_2, il_3, il_4, il_5, il_6, il_7, il_8, il_9, il_10, il_11, il_12, il_13, il_15, il_16, il_17, il_18, il_19, il_20, il_21, il_22, il_23, il_24, il_26, il_27, il_28, il_30, il_32, il_34, il_36, il_38, il_40, il_43, il_44, il_46, il_47, il_48, il_49, il_50, il_51, il_60, il_64, il_100, il_108, il_111, il_127, il_971, il_972, il_999, il_1000, il_1024, il_1087, il_2500, il_5000, il_9999, il_60000, il_2147483647, nI_add, nI_mulI, nI_subI, nI_divI, nI_cl, nI_leJ, nI_ltJ, nI_eqJ, nI_neM, nI_neM', il_31, aw_sI_e, aw_sI_n, aw_sI_2, aw_sL_e, aw_sL_n, aw_sL_1, Option.bind_some, aw_chkT, ck_and0, ck_and1, bI_t, bI_f, nar_0, nar_1]
      rw [if_neg (by omega)]
      refine ih (i + 1) f _ (by omega) (by omega) ⟨fun c hc => ?_, fun j hj => ?_, fun j hj => ?_, h.2.2.2⟩
      · rw [← h.1 c hc]; funext j; exact aw_sI_n (by omega)
      · rw [aw_sI_n (by omega)]; exact h.2.1 j (by omega)
      · by_cases e : j = i
        · rw [aw_sI_e rfl (by omega), e]
        · rw [aw_sI_n (by omega)]; exact h.2.2.1 j (by omega)
theorem RepQ.wrd {A : St} {d0 d : Dt} {v : Nat} (hQ : RepQ A d0) (hW : WF A) (hw : A 2 0 0 < 6) (h : Cp A (A 0 0 0) d0 d) : RepQ (wdS A v) (aw_sI (aw_sI (aw_sI (aw_sI d 266 (A 2 0 0) (nI (A 0 0 0))) 266 (8 + A 2 0 0) (nI v)) 266 6 (nI 0)) 274 0 (nI (A 2 0 0 + 1))) := by
  have h4 := hW.1
  obtain ⟨c1, c2, c3, _⟩ := h
  obtain ⟨h1, h2, h3, h4', h5, h6, h7, h8, h9, h10, h11⟩ := hQ
  unfold RepQ
  rw [wd_0, wd_2, wd_o (f := 11) (by omega)]
  refine ⟨fun w hw2 k hk => ?_, fun k hk => ?_, fun w hw2 => ?_, ?_, fun w hw2 => ?_, fun x hx => ?_, fun x hx c hc => ?_, ?_, ?_, by omega, h11⟩
  · rw [aw_sI_n (by omega), aw_sI_n (by omega), aw_sI_n (by omega), aw_sI_n (by omega)]
    by_cases e : w = A 2 0 0
    · subst e
      rw [wd_3] at hk
      rw [wd_4 hk]; exact c3 k hk
    · rw [wd_3n e] at hk
      have := (hW.w (show w < A 2 0 0 by omega)).2.1
      rw [wd_4n e, c2 _ (by omega)]; exact h1 w (by omega) k hk
  · omega
  · rw [aw_sI_n (by omega), aw_sI_n (by omega), aw_sI_n (by omega)]
    by_cases e : w = A 2 0 0
    · subst e
      rw [aw_sI_e rfl rfl, wd_3]
    · rw [aw_sI_n (by omega), wd_3n e, c1 266 (by omega)]; exact h3 w (by omega)
  · rw [aw_sI_n (by omega), aw_sI_e rfl rfl]
  · rw [aw_sI_n (by omega), aw_sI_n (by omega)]
    by_cases e : w = A 2 0 0
    · subst e
      rw [aw_sI_e rfl rfl, wd_5]
    · rw [aw_sI_n (by omega), aw_sI_n (by omega), wd_5n e, c1 266 (by omega)]; exact h5 w (by omega)
  · rw [wd_o (by omega), aw_sI_n (by omega), aw_sI_n (by omega), aw_sI_n (by omega), aw_sI_n (by omega), c1 267 (by omega)]; exact h6 x hx
  · rw [wd_o (by omega)] at hc
    rw [wd_o (by omega), wd_o (by omega), wd_o (by omega), wd_o (by omega), aw_sI_n (by omega), aw_sI_n (by omega), aw_sI_n (by omega), aw_sI_n (by omega), c1 267 (by omega)]; exact h7 x hx c hc
  · rw [aw_sI_e rfl rfl]
  · rw [aw_sI_n (by omega), aw_sI_n (by omega), aw_sI_n (by omega), aw_sI_n (by omega), c1 274 (by omega)]; exact h9
theorem W_374 {A : St} {σ : Sg} {y : Dt} {B : St} {x v : Int32} (hx : x = v) (hW : WF B) (e : B 11 0 0 = A 11 0 0) (hI : SoI B y) : ok (f_L_isWord_J374 σ v x y) (Post A) := by
  unfold f_L_isWord_J374
  rw [if_pos hx]
  exact ok_some ⟨rfl, B, hW, e, hI⟩
theorem W_J221 {A : St} {σ : Sg} {d : Dt} {v : Nat} (hS : Lay σ) (hn : ly_n σ = A 11 0 0) (hW : WF A) (hI : SoI A d) (hv : v ≤ 1000) (hw : A 2 0 0 < 6) : ok (f_L_isWord_J221 σ (nI v) 0 265 266 274 d) (Post A) := by
  have h4 := hW.1
  have hQ := hI.2.1
  have q6 : d.1 266 (Int32.toNatClampNeg 6) = nI (A 0 0 0) := rq_dr hQ
  have h66 : aw_I σ 20 266 6 := ly_I (N := 64) (i := 6) hS (by decide) (by decide) (by decide) (by decide)
  have h20 : aw_I σ 20 274 0 := ly_I (N := 2) (i := 0) hS (by decide) (by decide) (by decide) (by decide)
  have hbad : ¬ (1 ≤ v ∧ v < 1000) → ok (f_L_isWord_J337 σ 0 274 (nI v) (nI 0) (nI 0) d) (Post A) := fun hb => by
    unfold f_L_isWord_J337
    refine ok_bind (D_word hS hn hW hI.1 (nI v) 0 0 0 0) (fun z hz => ?_)
    have eo : o_word A (nI v) = (1, nI 0, A) := by
      unfold o_word
      rcases (show v = 0 ∨ v = 1000 by omega) with rfl | rfl
      · rw [if_pos (by decide)]
      · rw [if_pos (by decide)]
    rw [eo] at hz
    rw [if_pos (by decide)]
    exact W_374 hz.1 hW rfl (hI.c hz.2.1 hz.2.2)
  unfold f_L_isWord_J221
  by_cases e0 : v = 0
  · rw [if_pos (by rw [e0]; decide)]
    exact hbad (by omega)
  · rw [if_neg (by rw [il_0, nI_leJ (by omega) (by omega)]; omega)]
    by_cases e1 : v = 1000
    · rw [if_pos (by rw [e1]; decide)]
      exact hbad (by omega)
    · have hix : (ix (nI v) 1000 && !ix (nI v) 1) = true := by rw [ix_t (by omega) (by omega), ix_f (by omega) (by omega)]; rfl
      rw [if_neg (by rw [il_1000, nI_leJ (by omega) (by omega)]; omega)]
      unfold f_L_isWord_J241
      rw [if_neg (show ¬ (1 : Int32) = 0 by decide)]
      refine ok_chk h66 ?_
      rw [q6]
      by_cases e2 : A 0 0 0 = 0
      · rw [if_pos (by rw [e2]; decide)]
        show ok (f_L_isWord_J337 σ 0 274 (nI v) (nI 1) (nI 0) d) _
        unfold f_L_isWord_J337
        refine ok_bind (D_word hS hn hW hI.1 (nI v) 0 0 0 0) (fun z hz => ?_)
        have eo : o_word A (nI v) = (2, nI 0, A) := by
          unfold o_word
          rw [if_neg (by rw [hix]; decide), if_pos (Or.inl e2)]
        rw [eo] at hz
        rw [if_neg (by decide), if_pos (by decide)]
        exact W_374 hz.1 hW rfl (hI.c hz.2.1 hz.2.2)
      · rw [if_neg (by rw [il_0, nI_leJ (by omega) (by omega)]; omega)]
        unfold f_L_isWord_J260
        rw [if_neg (show ¬ (1 : Int32) = 0 by decide)]
        refine W_L270 (d0 := d) hS hW hQ hw (fun d1 hc => ?_) (A 0 0 0) 0 aw_FU d (by omega) (by show _ < 5000; omega) ⟨fun _ _ => rfl, fun _ _ => rfl, fun j hj => by omega, rfl⟩
        have p0 : d1.1 274 0 = nI (A 2 0 0) := by rw [hc.1 274 (by omega)]; exact rq_words hQ
        have p6 : d1.1 266 6 = nI (A 0 0 0) := by rw [hc.1 266 (by omega)]; exact rq_dr hQ
        have b1 : 8 + A 2 0 0 < 64 := by omega
        have hQ2 := hQ.wrd (v := v) hW hw hc
        have hC1 : RepC A d1 := hI.1.scr hW.words (fun k hk => hc.1 k (by omega))
        have hr : ∀ k, 267 ≤ k → k ≤ 273 → d1.1 k = d.1 k := fun k hk1 hk2 => hc.1 k (by omega)
        simp (disch := first | assumption | omega) only [p0, p6, lo_0 hS, lo_1 hS, lo_33 hS, lo_34 hS, lo_89 hS, lo_100 hS, lo_123 hS, lo_146 hS, lo_148 hS, lo_176 hS, lo_182 hS, lo_D hS, lo_G hS, lr_37 hS, lr_93 hS, lr_101 hS, lr_124 hS, lr_152 hS, lr_169 hS, lr_0_0 hS, lr_0_1 hS, lr_0_2 hS, lr_0_3 hS, lr_0_5 hS, lr_0_6 hS, lr_0_7 hS, lr_0_8 hS, lr_0_9 hS, lr_0_10 hS, lr_0_11 hS, lr_0_12 hS, lr_1_0 hS, lr_1_2 hS, lr_33_0 hS, lr_33_1 hS, lr_33_2 hS, lr_33_3 hS, lr_34_0 hS, lr_89_0 hS, lr_89_1 hS, lr_89_2 hS, lr_89_3 hS, lr_89_4 hS, lr_89_5 hS, lr_100_0 hS, lr_100_1 hS, lr_123_0 hS, lr_123_1 hS, lr_146_0 hS, lr_148_0 hS, lr_148_1 hS, lr_148_2 hS, lr_148_3 hS, lr_148_4 hS, lr_148_5 hS, lr_176_0 hS, lr_176_1 hS, lr_176_4 hS, lr_176_6 hS, lr_176_7 hS, lr_182_0 hS, lr_D_0 hS, lr_D_1 hS, lr_D_2 hS, lr_D_3 hS, lr_D_5 hS, lr_D_6 hS, lr_D_r hS, lr_31 hS, lr_32 hS, lr_G_2 hS, lr_G_3 hS, lr_G_4 hS, li_2 hS, li_3 hS, li_31 hS, li_32 hS, li_35 hS, li_36 hS, li_37 hS, li_88 hS, li_90 hS, li_91 hS, li_92 hS, li_93 hS, li_98 hS, li_99 hS, li_101 hS, li_122 hS, li_124 hS, li_145 hS, li_147 hS, li_149 hS, li_150 hS, li_151 hS, li_152 hS, li_169 hS, li_175 hS, li_177 hS, li_178 hS, li_179 hS, li_180 hS, li_181 hS, li_183 hS, li_265 hS, li_266 hS, li_267 hS, li_268 hS, li_269 hS, li_270 hS, li_271 hS, li_272 hS, li_273 hS, li_274 hS, li_275 hS, li_276 hS, li_38 hS, li_94 hS, li_102 hS, li_125 hS, li_153 hS, li_170 hS, li_D_1 hS, li_D_2 hS, li_D_3 hS, li_D_4 hS, li_D_5 hS, li_D_26 hS, li_D_r hS, li_G_1 hS, li_G_2 hS, li_G_3 hS, li_rA hS, li_rK hS, li_rX hS, il_0, il_1, il_2, il_3, il_4, il_5, il_6, il_7, il_8, il_9, il_10, il_11, il_12, il_13, il_15, il_16, il_17, il_18, il_19, il_20, il_21, il_22, il_23, il_24, il_26, il_27, il_28, il_30, il_32, il_34, il_36, il_38, il_40, il_43, il_44, il_46, il_47, il_48, il_49, il_50, il_51, il_60, il_64, il_100, il_108, il_111, il_127, il_971, il_972, il_999, il_1000, il_1024, il_1087, il_2500, il_5000, il_9999, il_60000, il_2147483647, nI_add, nI_mulI, nI_subI, nI_divI, nI_cl, nI_leJ, nI_ltJ, nI_eqJ, nI_neM, nI_neM', il_31, aw_sI_e, aw_sI_n, aw_sI_2, aw_sL_e, aw_sL_n, aw_sL_1, Option.bind_some, aw_chkT, ck_and0, ck_and1, bI_t, bI_f, nar_0, nar_1]
        have hC2 : RepC A (aw_sI (aw_sI (aw_sI (aw_sI d1 266 (A 2 0 0) (nI (A 0 0 0))) 266 (8 + A 2 0 0) (nI v)) 266 6 (nI 0)) 274 0 (nI (A 2 0 0 + 1))) := (((hC1.w_x (by omega) hW.words).w_x (by omega) hW.words).w_x (by omega) hW.words).w_x (by omega) hW.words
        have hL2 : RepL (wdS A v) (aw_sI (aw_sI (aw_sI (aw_sI d1 266 (A 2 0 0) (nI (A 0 0 0))) 266 (8 + A 2 0 0) (nI v)) 266 6 (nI 0)) 274 0 (nI (A 2 0 0 + 1))) := hI.2.q hQ2 (wd_o (by omega)) (fun f i j hf => wd_o (by omega)) (fun k hk1 hk2 => by rw [← hr k (by omega) hk2]; funext j; rw [aw_sI_n (by omega), aw_sI_n (by omega), aw_sI_n (by omega), aw_sI_n (by omega)])
        have p0' : (aw_sI (aw_sI (aw_sI (aw_sI d1 266 (A 2 0 0) (nI (A 0 0 0))) 266 (8 + A 2 0 0) (nI v)) 266 6 (nI 0)) 274 0 (nI (A 2 0 0 + 1))).1 274 0 = nI (A 2 0 0 + 1) := aw_sI_e rfl rfl
        generalize aw_sI (aw_sI (aw_sI (aw_sI d1 266 (A 2 0 0) (nI (A 0 0 0))) 266 (8 + A 2 0 0) (nI v)) 266 6 (nI 0)) 274 0 (nI (A 2 0 0 + 1)) = d2 at hC2 hL2 p0' ⊢
        unfold f_L_isWord_J337
        refine ok_bind (D_word hS hn hW hC2 (nI v) 0 0 0 0) (fun z hz => ?_)
        have eo : o_word A (nI v) = (0, nI (A 2 0 0), wdS A v) := by
          unfold o_word
          rw [if_neg (by rw [hix]; decide), if_neg (by omega), nI_cl (by omega)]; rfl
        rw [eo] at hz
        rw [if_neg (by decide), if_neg (by decide)]
        refine ok_chk h20 ?_
        have z0 : z.2.1 274 (Int32.toNatClampNeg 0) = nI (A 2 0 0 + 1) := by rw [(hz.2.2 274 (by omega) (by omega)).1]; exact p0'
        rw [z0, il_1, nI_subI (by omega), Nat.add_sub_cancel]
        exact W_374 hz.1 (hW.wrd (by omega) e2 (by omega)) (wd_o (by omega)) ⟨hz.2.1, hL2.c hz.2.2⟩
