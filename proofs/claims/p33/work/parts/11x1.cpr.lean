/-! the class: primers -/
def Prm (A : St) (D : Nat) (d : Dt) : Prop := d.1 176 2 = nI (A 2 0 0) ∧ d.2 176 3 = nL (allS A D) ∧ ∀ w, w < A 2 0 0 → d.2 177 w = nL (hasW A D w) ∧ d.1 178 w = nI (A 5 0 w)
theorem Prm.fr {A : St} {D lo hi : Nat} {d d' : Dt} (h : Prm A D d) (F : Fr lo hi d d') (hl : 179 ≤ lo) : Prm A D d' := ⟨by rw [(F 176 (by omega)).1]; exact h.1, by rw [(F 176 (by omega)).2]; exact h.2.1, fun w hw => ⟨by rw [(F 177 (by omega)).2]; exact (h.2.2 w hw).1, by rw [(F 178 (by omega)).1]; exact (h.2.2 w hw).2⟩⟩

theorem C_tk_L18 {A : St} {σ : Sg} {d0 : Dt} {D : Nat} {Q : Unit × Dt → Prop} {k : Dt → Option (Unit × Dt)} (hS : Lay σ) (hW : WF A) (hC0 : RepC A d0) (hD : D < A 11 0 0) (hs : Spc A D (A 13 0 D) 100 d0) (q2 : d0.1 176 2 = nI (A 2 0 0)) (q3 : d0.2 176 3 = nL (allS A D)) (hk : ∀ d, Prm A D d → Fr 177 178 d0 d → ok (k d) Q) : ∀ (m i f : Nat) (d : Dt), i + m = A 2 0 0 → m < f → (∀ w, w < i → d.2 177 w = nL (hasW A D w) ∧ d.1 178 w = nI (A 5 0 w)) → Fr 177 178 d0 d → ok (f_X4_take_L18 σ f k 176 100 3 (nI i) d) Q := by
  intro m
  induction m with
  | zero =>
    intro i f d hi hf w1 F
    cases f with
    | zero => omega
    | succ f =>
      have w2 := hW.words
      have q2d : d.1 176 2 = nI (A 2 0 0) := by rw [(F 176 (by omega)).1]; exact q2
      show ok (f_X4_take_B18 σ (f_X4_take_L18 σ f k 176 100 3) k 176 100 3 (nI i) d) Q
      simp (disch := first | assumption | omega) only [f_X4_take_B18, q2d, lo_0 hS, lo_1 hS, lo_33 hS, lo_34 hS, lo_89 hS, lo_100 hS, lo_123 hS, lo_146 hS, lo_148 hS, lo_176 hS, lo_182 hS, lo_D hS, lo_G hS, lr_37 hS, lr_93 hS, lr_101 hS, lr_124 hS, lr_152 hS, lr_169 hS, lr_0_0 hS, lr_0_1 hS, lr_0_2 hS, lr_0_3 hS, lr_0_5 hS, lr_0_6 hS, lr_0_7 hS, lr_0_8 hS, lr_0_9 hS, lr_0_10 hS, lr_0_11 hS, lr_0_12 hS, lr_1_0 hS, lr_1_2 hS, lr_33_0 hS, lr_33_1 hS, lr_33_2 hS, lr_33_3 hS, lr_34_0 hS, lr_89_0 hS, lr_89_1 hS, lr_89_2 hS, lr_89_3 hS, lr_89_4 hS, lr_89_5 hS, lr_100_0 hS, lr_100_1 hS, lr_123_0 hS, lr_123_1 hS, lr_146_0 hS, lr_148_0 hS, lr_148_1 hS, lr_148_2 hS, lr_148_3 hS, lr_148_4 hS, lr_148_5 hS, lr_176_0 hS, lr_176_1 hS, lr_176_4 hS, lr_176_6 hS, lr_176_7 hS, lr_182_0 hS, lr_D_0 hS, lr_D_1 hS, lr_D_2 hS, lr_D_3 hS, lr_D_5 hS, lr_D_6 hS, lr_D_r hS, lr_31 hS, lr_32 hS, lr_G_2 hS, lr_G_3 hS, lr_G_4 hS, li_2 hS, li_3 hS, li_31 hS, li_32 hS, li_35 hS, li_36 hS, li_37 hS, li_88 hS, li_90 hS, li_91 hS, li_92 hS, li_93 hS, li_98 hS, li_99 hS, li_101 hS, li_122 hS, li_124 hS, li_145 hS, li_147 hS, li_149 hS, li_150 hS, li_151 hS, li_152 hS, li_169 hS, li_175 hS, li_177 hS, li_178 hS, li_179 hS, li_180 hS, li_181 hS, li_183 hS, li_265 hS, li_266 hS, li_267 hS, li_268 hS, li_269 hS, li_270 hS, li_271 hS, li_272 hS, li_273 hS, li_274 hS, li_275 hS, li_276 hS, li_38 hS, li_94 hS, li_102 hS, li_125 hS, li_153 hS, li_170 hS, li_D_1 hS, li_D_2 hS, li_D_3 hS, li_D_4 hS, li_D_5 hS, li_D_26 hS, li_D_r hS, li_G_1 hS, li_G_2 hS, li_G_3 hS, li_rA hS, li_rK hS, li_rX hS, il_0, il_1, il_2, il_3, il_4, il_5, il_6, il_7, il_8, il_9, il_10, il_11, il_12, il_13, il_15, il_16, il_17, il_18, il_19, il_20, il_21, il_22, il_23, il_24, il_26, il_27, il_28, il_30, il_32, il_34, il_36, il_38, il_40, il_43, il_44, il_46, il_47, il_48, il_49, il_50, il_51, il_60, il_64, il_100, il_108, il_111, il_127, il_971, il_972, il_999, il_1000, il_1024, il_1087, il_2500, il_5000, il_9999, il_60000, il_2147483647, nI_add, nI_mulI, nI_subI, nI_divI, nI_cl, nI_leJ, nI_ltJ, nI_eqJ, nI_neM, nI_neM', aw_sI_e, aw_sI_n, aw_sI_2, aw_sL_e, aw_sL_n, aw_sL_1, Option.bind_some, aw_chkT, ck_and0, ck_and1, bI_t, bI_f, nar_0, nar_1]
      rw [if_pos (by omega)]
      exact hk d ⟨q2d, by rw [(F 176 (by omega)).2]; exact q3, fun w hw => w1 w (by omega)⟩ F
  | succ m ih =>
    intro i f d hi hf w1 F
    cases f with
    | zero => omega
    | succ f =>
      have w2 := hW.words
      have q2d : d.1 176 2 = nI (A 2 0 0) := by rw [(F 176 (by omega)).1]; exact q2
      show ok (f_X4_take_B18 σ (f_X4_take_L18 σ f k 176 100 3) k 176 100 3 (nI i) d) Q
      simp (disch := first | assumption | omega) only [f_X4_take_B18, q2d, lo_0 hS, lo_1 hS, lo_33 hS, lo_34 hS, lo_89 hS, lo_100 hS, lo_123 hS, lo_146 hS, lo_148 hS, lo_176 hS, lo_182 hS, lo_D hS, lo_G hS, lr_37 hS, lr_93 hS, lr_101 hS, lr_124 hS, lr_152 hS, lr_169 hS, lr_0_0 hS, lr_0_1 hS, lr_0_2 hS, lr_0_3 hS, lr_0_5 hS, lr_0_6 hS, lr_0_7 hS, lr_0_8 hS, lr_0_9 hS, lr_0_10 hS, lr_0_11 hS, lr_0_12 hS, lr_1_0 hS, lr_1_2 hS, lr_33_0 hS, lr_33_1 hS, lr_33_2 hS, lr_33_3 hS, lr_34_0 hS, lr_89_0 hS, lr_89_1 hS, lr_89_2 hS, lr_89_3 hS, lr_89_4 hS, lr_89_5 hS, lr_100_0 hS, lr_100_1 hS, lr_123_0 hS, lr_123_1 hS, lr_146_0 hS, lr_148_0 hS, lr_148_1 hS, lr_148_2 hS, lr_148_3 hS, lr_148_4 hS, lr_148_5 hS, lr_176_0 hS, lr_176_1 hS, lr_176_4 hS, lr_176_6 hS, lr_176_7 hS, lr_182_0 hS, lr_D_0 hS, lr_D_1 hS, lr_D_2 hS, lr_D_3 hS, lr_D_5 hS, lr_D_6 hS, lr_D_r hS, lr_31 hS, lr_32 hS, lr_G_2 hS, lr_G_3 hS, lr_G_4 hS, li_2 hS, li_3 hS, li_31 hS, li_32 hS, li_35 hS, li_36 hS, li_37 hS, li_88 hS, li_90 hS, li_91 hS, li_92 hS, li_93 hS, li_98 hS, li_99 hS, li_101 hS, li_122 hS, li_124 hS, li_145 hS, li_147 hS, li_149 hS, li_150 hS, li_151 hS, li_152 hS, li_169 hS, li_175 hS, li_177 hS, li_178 hS, li_179 hS, li_180 hS, li_181 hS, li_183 hS, li_265 hS, li_266 hS, li_267 hS, li_268 hS, li_269 hS, li_270 hS, li_271 hS, li_272 hS, li_273 hS, li_274 hS, li_275 hS, li_276 hS, li_38 hS, li_94 hS, li_102 hS, li_125 hS, li_153 hS, li_170 hS, li_D_1 hS, li_D_2 hS, li_D_3 hS, li_D_4 hS, li_D_5 hS, li_D_26 hS, li_D_r hS, li_G_1 hS, li_G_2 hS, li_G_3 hS, li_rA hS, li_rK hS, li_rX hS, il_0, il_1, il_2, il_3, il_4, il_5, il_6, il_7, il_8, il_9, il_10, il_11, il_12, il_13, il_15, il_16, il_17, il_18, il_19, il_20, il_21, il_22, il_23, il_24, il_26, il_27, il_28, il_30, il_32, il_34, il_36, il_38, il_40, il_43, il_44, il_46, il_47, il_48, il_49, il_50, il_51, il_60, il_64, il_100, il_108, il_111, il_127, il_971, il_972, il_999, il_1000, il_1024, il_1087, il_2500, il_5000, il_9999, il_60000, il_2147483647, nI_add, nI_mulI, nI_subI, nI_divI, nI_cl, nI_leJ, nI_ltJ, nI_eqJ, nI_neM, nI_neM', aw_sI_e, aw_sI_n, aw_sI_2, aw_sL_e, aw_sL_n, aw_sL_1, Option.bind_some, aw_chkT, ck_and0, ck_and1, bI_t, bI_f, nar_0, nar_1]
      rw [if_neg (by omega)]
      have hlt : i < A 2 0 0 := by omega
      have hs' : Spc A D (A 13 0 D) 100 d := ⟨by rw [(F _ (by omega)).1]; exact hs.1, fun w hw => ⟨by rw [(F _ (by omega)).1]; exact (hs.2 w hw).1, fun j hj => by rw [(F _ (by omega)).1]; exact (hs.2 w hw).2 j hj⟩⟩
      have q4 : d.1 3 i = nI (A 5 0 i) := by rw [(F 3 (by omega)).1]; exact rc_wt hC0 (by omega)
      simp (disch := first | assumption | omega) only [C_signsOf hS hW hD hs' hlt, q4, lo_0 hS, lo_1 hS, lo_33 hS, lo_34 hS, lo_89 hS, lo_100 hS, lo_123 hS, lo_146 hS, lo_148 hS, lo_176 hS, lo_182 hS, lo_D hS, lo_G hS, lr_37 hS, lr_93 hS, lr_101 hS, lr_124 hS, lr_152 hS, lr_169 hS, lr_0_0 hS, lr_0_1 hS, lr_0_2 hS, lr_0_3 hS, lr_0_5 hS, lr_0_6 hS, lr_0_7 hS, lr_0_8 hS, lr_0_9 hS, lr_0_10 hS, lr_0_11 hS, lr_0_12 hS, lr_1_0 hS, lr_1_2 hS, lr_33_0 hS, lr_33_1 hS, lr_33_2 hS, lr_33_3 hS, lr_34_0 hS, lr_89_0 hS, lr_89_1 hS, lr_89_2 hS, lr_89_3 hS, lr_89_4 hS, lr_89_5 hS, lr_100_0 hS, lr_100_1 hS, lr_123_0 hS, lr_123_1 hS, lr_146_0 hS, lr_148_0 hS, lr_148_1 hS, lr_148_2 hS, lr_148_3 hS, lr_148_4 hS, lr_148_5 hS, lr_176_0 hS, lr_176_1 hS, lr_176_4 hS, lr_176_6 hS, lr_176_7 hS, lr_182_0 hS, lr_D_0 hS, lr_D_1 hS, lr_D_2 hS, lr_D_3 hS, lr_D_5 hS, lr_D_6 hS, lr_D_r hS, lr_31 hS, lr_32 hS, lr_G_2 hS, lr_G_3 hS, lr_G_4 hS, li_2 hS, li_3 hS, li_31 hS, li_32 hS, li_35 hS, li_36 hS, li_37 hS, li_88 hS, li_90 hS, li_91 hS, li_92 hS, li_93 hS, li_98 hS, li_99 hS, li_101 hS, li_122 hS, li_124 hS, li_145 hS, li_147 hS, li_149 hS, li_150 hS, li_151 hS, li_152 hS, li_169 hS, li_175 hS, li_177 hS, li_178 hS, li_179 hS, li_180 hS, li_181 hS, li_183 hS, li_265 hS, li_266 hS, li_267 hS, li_268 hS, li_269 hS, li_270 hS, li_271 hS, li_272 hS, li_273 hS, li_274 hS, li_275 hS, li_276 hS, li_38 hS, li_94 hS, li_102 hS, li_125 hS, li_153 hS, li_170 hS, li_D_1 hS, li_D_2 hS, li_D_3 hS, li_D_4 hS, li_D_5 hS, li_D_26 hS, li_D_r hS, li_G_1 hS, li_G_2 hS, li_G_3 hS, li_rA hS, li_rK hS, li_rX hS, il_0, il_1, il_2, il_3, il_4, il_5, il_6, il_7, il_8, il_9, il_10, il_11, il_12, il_13, il_15, il_16, il_17, il_18, il_19, il_20, il_21, il_22, il_23, il_24, il_26, il_27, il_28, il_30, il_32, il_34, il_36, il_38, il_40, il_43, il_44, il_46, il_47, il_48, il_49, il_50, il_51, il_60, il_64, il_100, il_108, il_111, il_127, il_971, il_972, il_999, il_1000, il_1024, il_1087, il_2500, il_5000, il_9999, il_60000, il_2147483647, nI_add, nI_mulI, nI_subI, nI_divI, nI_cl, nI_leJ, nI_ltJ, nI_eqJ, nI_neM, nI_neM', aw_sI_e, aw_sI_n, aw_sI_2, aw_sL_e, aw_sL_n, aw_sL_1, Option.bind_some, aw_chkT, ck_and0, ck_and1, bI_t, bI_f, nar_0, nar_1]
      refine ih (i + 1) f _ (by omega) (by omega) (fun w hw => ?_) ((F.wl (by omega)).w (by omega))
      by_cases e : w = i
      · subst e
        exact ⟨by rw [aw_sI_2]; exact aw_sL_e rfl rfl, aw_sI_e rfl rfl⟩
      · exact ⟨by rw [aw_sI_2, aw_sL_n (by omega)]; exact (w1 w (by omega)).1, by rw [aw_sI_n (by omega)]; exact (w1 w (by omega)).2⟩

theorem C_primTake {A : St} {σ : Sg} {d : Dt} {D : Nat} (hS : Lay σ) (hW : WF A) (hC : RepC A d) (hD : D < A 11 0 0) (hs : Spc A D (A 13 0 D) 100 d) : ok (f_X4_take σ 176 100 3 d) (fun z => Prm A D z.2 ∧ Fr 176 178 d z.2) := by
  have w2 := hW.words
  have q1 := hs.1
  have F1 : Fr 176 176 d (aw_sI d 176 2 (nI (A 2 0 0))) := Fr.rf.w (by omega)
  have hs' : Spc A D (A 13 0 D) 100 (aw_sI d 176 2 (nI (A 2 0 0))) := ⟨by rw [(F1 _ (by omega)).1]; exact hs.1, fun w hw => ⟨by rw [(F1 _ (by omega)).1]; exact (hs.2 w hw).1, fun j hj => by rw [(F1 _ (by omega)).1]; exact (hs.2 w hw).2 j hj⟩⟩
  simp (disch := first | assumption | omega) only [f_X4_take, q1, C_signsInUse hS hW hD hs', lo_0 hS, lo_1 hS, lo_33 hS, lo_34 hS, lo_89 hS, lo_100 hS, lo_123 hS, lo_146 hS, lo_148 hS, lo_176 hS, lo_182 hS, lo_D hS, lo_G hS, lr_37 hS, lr_93 hS, lr_101 hS, lr_124 hS, lr_152 hS, lr_169 hS, lr_0_0 hS, lr_0_1 hS, lr_0_2 hS, lr_0_3 hS, lr_0_5 hS, lr_0_6 hS, lr_0_7 hS, lr_0_8 hS, lr_0_9 hS, lr_0_10 hS, lr_0_11 hS, lr_0_12 hS, lr_1_0 hS, lr_1_2 hS, lr_33_0 hS, lr_33_1 hS, lr_33_2 hS, lr_33_3 hS, lr_34_0 hS, lr_89_0 hS, lr_89_1 hS, lr_89_2 hS, lr_89_3 hS, lr_89_4 hS, lr_89_5 hS, lr_100_0 hS, lr_100_1 hS, lr_123_0 hS, lr_123_1 hS, lr_146_0 hS, lr_148_0 hS, lr_148_1 hS, lr_148_2 hS, lr_148_3 hS, lr_148_4 hS, lr_148_5 hS, lr_176_0 hS, lr_176_1 hS, lr_176_4 hS, lr_176_6 hS, lr_176_7 hS, lr_182_0 hS, lr_D_0 hS, lr_D_1 hS, lr_D_2 hS, lr_D_3 hS, lr_D_5 hS, lr_D_6 hS, lr_D_r hS, lr_31 hS, lr_32 hS, lr_G_2 hS, lr_G_3 hS, lr_G_4 hS, li_2 hS, li_3 hS, li_31 hS, li_32 hS, li_35 hS, li_36 hS, li_37 hS, li_88 hS, li_90 hS, li_91 hS, li_92 hS, li_93 hS, li_98 hS, li_99 hS, li_101 hS, li_122 hS, li_124 hS, li_145 hS, li_147 hS, li_149 hS, li_150 hS, li_151 hS, li_152 hS, li_169 hS, li_175 hS, li_177 hS, li_178 hS, li_179 hS, li_180 hS, li_181 hS, li_183 hS, li_265 hS, li_266 hS, li_267 hS, li_268 hS, li_269 hS, li_270 hS, li_271 hS, li_272 hS, li_273 hS, li_274 hS, li_275 hS, li_276 hS, li_38 hS, li_94 hS, li_102 hS, li_125 hS, li_153 hS, li_170 hS, li_D_1 hS, li_D_2 hS, li_D_3 hS, li_D_4 hS, li_D_5 hS, li_D_26 hS, li_D_r hS, li_G_1 hS, li_G_2 hS, li_G_3 hS, li_rA hS, li_rK hS, li_rX hS, il_0, il_1, il_2, il_3, il_4, il_5, il_6, il_7, il_8, il_9, il_10, il_11, il_12, il_13, il_15, il_16, il_17, il_18, il_19, il_20, il_21, il_22, il_23, il_24, il_26, il_27, il_28, il_30, il_32, il_34, il_36, il_38, il_40, il_43, il_44, il_46, il_47, il_48, il_49, il_50, il_51, il_60, il_64, il_100, il_108, il_111, il_127, il_971, il_972, il_999, il_1000, il_1024, il_1087, il_2500, il_5000, il_9999, il_60000, il_2147483647, nI_add, nI_mulI, nI_subI, nI_divI, nI_cl, nI_leJ, nI_ltJ, nI_eqJ, nI_neM, nI_neM', aw_sI_e, aw_sI_n, aw_sI_2, aw_sL_e, aw_sL_n, aw_sL_1, Option.bind_some, aw_chkT, ck_and0, ck_and1, bI_t, bI_f, nar_0, nar_1]
  refine C_tk_L18 (d0 := aw_sL (aw_sI d 176 2 (nI (A 2 0 0))) 176 3 (nL (allS A D))) hS hW ((hC.w_x (by omega) w2).w_l) hD hs' (show (aw_sI d 176 2 (nI (A 2 0 0))).1 176 2 = nI (A 2 0 0) from aw_sI_e rfl rfl) (aw_sL_e rfl rfl) (fun d' p F => ok_some ⟨p, ((F1.wl (by omega)).mono (by omega) (by omega)).tr (F.mono (by omega) (by omega))⟩) (A 2 0 0) 0 aw_FU (aw_sL (aw_sI d 176 2 (nI (A 2 0 0))) 176 3 (nL (allS A D))) (by omega) (by show _ < 5000; omega) (fun w hw => by omega) Fr.rf

theorem C_wr_L5 {A : St} {σ : Sg} {d : Dt} {D : Nat} (hS : Lay σ) (hW : WF A) (hD : D < A 11 0 0) (hP : Prm A D d) {L : Nat} {k : Int32 → Dt → Option (Int32 × Dt)} : ∀ (m i f : Nat), i + m = A 2 0 0 → m < f → f_X4_weightRead_L5 σ f k 176 (nL L) (nI (sumR (fun w => if sub (hasW A D w) L = true then A 5 0 w else 0) i)) (nI i) d = k (nI (rdW A D L)) d := by
  intro m
  induction m with
  | zero =>
    intro i f hi hf
    cases f with
    | zero => omega
    | succ f =>
      have hiN : i = A 2 0 0 := by omega
      have w2 := hW.words
      have q1 := hP.1
      show f_X4_weightRead_B5 σ (f_X4_weightRead_L5 σ f k 176 (nL L)) k 176 (nL L) (nI (sumR (fun w => if sub (hasW A D w) L = true then A 5 0 w else 0) i)) (nI i) d = _
      simp (disch := first | assumption | omega) only [f_X4_weightRead_B5, q1, lo_0 hS, lo_1 hS, lo_33 hS, lo_34 hS, lo_89 hS, lo_100 hS, lo_123 hS, lo_146 hS, lo_148 hS, lo_176 hS, lo_182 hS, lo_D hS, lo_G hS, lr_37 hS, lr_93 hS, lr_101 hS, lr_124 hS, lr_152 hS, lr_169 hS, lr_0_0 hS, lr_0_1 hS, lr_0_2 hS, lr_0_3 hS, lr_0_5 hS, lr_0_6 hS, lr_0_7 hS, lr_0_8 hS, lr_0_9 hS, lr_0_10 hS, lr_0_11 hS, lr_0_12 hS, lr_1_0 hS, lr_1_2 hS, lr_33_0 hS, lr_33_1 hS, lr_33_2 hS, lr_33_3 hS, lr_34_0 hS, lr_89_0 hS, lr_89_1 hS, lr_89_2 hS, lr_89_3 hS, lr_89_4 hS, lr_89_5 hS, lr_100_0 hS, lr_100_1 hS, lr_123_0 hS, lr_123_1 hS, lr_146_0 hS, lr_148_0 hS, lr_148_1 hS, lr_148_2 hS, lr_148_3 hS, lr_148_4 hS, lr_148_5 hS, lr_176_0 hS, lr_176_1 hS, lr_176_4 hS, lr_176_6 hS, lr_176_7 hS, lr_182_0 hS, lr_D_0 hS, lr_D_1 hS, lr_D_2 hS, lr_D_3 hS, lr_D_5 hS, lr_D_6 hS, lr_D_r hS, lr_31 hS, lr_32 hS, lr_G_2 hS, lr_G_3 hS, lr_G_4 hS, li_2 hS, li_3 hS, li_31 hS, li_32 hS, li_35 hS, li_36 hS, li_37 hS, li_88 hS, li_90 hS, li_91 hS, li_92 hS, li_93 hS, li_98 hS, li_99 hS, li_101 hS, li_122 hS, li_124 hS, li_145 hS, li_147 hS, li_149 hS, li_150 hS, li_151 hS, li_152 hS, li_169 hS, li_175 hS, li_177 hS, li_178 hS, li_179 hS, li_180 hS, li_181 hS, li_183 hS, li_265 hS, li_266 hS, li_267 hS, li_268 hS, li_269 hS, li_270 hS, li_271 hS, li_272 hS, li_273 hS, li_274 hS, li_275 hS, li_276 hS, li_38 hS, li_94 hS, li_102 hS, li_125 hS, li_153 hS, li_170 hS, li_D_1 hS, li_D_2 hS, li_D_3 hS, li_D_4 hS, li_D_5 hS, li_D_26 hS, li_D_r hS, li_G_1 hS, li_G_2 hS, li_G_3 hS, li_rA hS, li_rK hS, li_rX hS, il_0, il_1, il_2, il_3, il_4, il_5, il_6, il_7, il_8, il_9, il_10, il_11, il_12, il_13, il_15, il_16, il_17, il_18, il_19, il_20, il_21, il_22, il_23, il_24, il_26, il_27, il_28, il_30, il_32, il_34, il_36, il_38, il_40, il_43, il_44, il_46, il_47, il_48, il_49, il_50, il_51, il_60, il_64, il_100, il_108, il_111, il_127, il_971, il_972, il_999, il_1000, il_1024, il_1087, il_2500, il_5000, il_9999, il_60000, il_2147483647, nI_add, nI_mulI, nI_subI, nI_divI, nI_cl, nI_leJ, nI_ltJ, nI_eqJ, nI_neM, nI_neM', aw_sI_e, aw_sI_n, aw_sI_2, aw_sL_e, aw_sL_n, aw_sL_1, Option.bind_some, aw_chkT, ck_and0, ck_and1, bI_t, bI_f, nar_0, nar_1]
      rw [if_pos (by omega)]
      rw [hiN]
      try rfl
  | succ m ih =>
    intro i f hi hf
    cases f with
    | zero => omega
    | succ f =>
      have hlt : i < A 2 0 0 := by omega
      have w2 := hW.words
      have q1 := hP.1
      show f_X4_weightRead_B5 σ (f_X4_weightRead_L5 σ f k 176 (nL L)) k 176 (nL L) (nI (sumR (fun w => if sub (hasW A D w) L = true then A 5 0 w else 0) i)) (nI i) d = _
      simp (disch := first | assumption | omega) only [f_X4_weightRead_B5, q1, lo_0 hS, lo_1 hS, lo_33 hS, lo_34 hS, lo_89 hS, lo_100 hS, lo_123 hS, lo_146 hS, lo_148 hS, lo_176 hS, lo_182 hS, lo_D hS, lo_G hS, lr_37 hS, lr_93 hS, lr_101 hS, lr_124 hS, lr_152 hS, lr_169 hS, lr_0_0 hS, lr_0_1 hS, lr_0_2 hS, lr_0_3 hS, lr_0_5 hS, lr_0_6 hS, lr_0_7 hS, lr_0_8 hS, lr_0_9 hS, lr_0_10 hS, lr_0_11 hS, lr_0_12 hS, lr_1_0 hS, lr_1_2 hS, lr_33_0 hS, lr_33_1 hS, lr_33_2 hS, lr_33_3 hS, lr_34_0 hS, lr_89_0 hS, lr_89_1 hS, lr_89_2 hS, lr_89_3 hS, lr_89_4 hS, lr_89_5 hS, lr_100_0 hS, lr_100_1 hS, lr_123_0 hS, lr_123_1 hS, lr_146_0 hS, lr_148_0 hS, lr_148_1 hS, lr_148_2 hS, lr_148_3 hS, lr_148_4 hS, lr_148_5 hS, lr_176_0 hS, lr_176_1 hS, lr_176_4 hS, lr_176_6 hS, lr_176_7 hS, lr_182_0 hS, lr_D_0 hS, lr_D_1 hS, lr_D_2 hS, lr_D_3 hS, lr_D_5 hS, lr_D_6 hS, lr_D_r hS, lr_31 hS, lr_32 hS, lr_G_2 hS, lr_G_3 hS, lr_G_4 hS, li_2 hS, li_3 hS, li_31 hS, li_32 hS, li_35 hS, li_36 hS, li_37 hS, li_88 hS, li_90 hS, li_91 hS, li_92 hS, li_93 hS, li_98 hS, li_99 hS, li_101 hS, li_122 hS, li_124 hS, li_145 hS, li_147 hS, li_149 hS, li_150 hS, li_151 hS, li_152 hS, li_169 hS, li_175 hS, li_177 hS, li_178 hS, li_179 hS, li_180 hS, li_181 hS, li_183 hS, li_265 hS, li_266 hS, li_267 hS, li_268 hS, li_269 hS, li_270 hS, li_271 hS, li_272 hS, li_273 hS, li_274 hS, li_275 hS, li_276 hS, li_38 hS, li_94 hS, li_102 hS, li_125 hS, li_153 hS, li_170 hS, li_D_1 hS, li_D_2 hS, li_D_3 hS, li_D_4 hS, li_D_5 hS, li_D_26 hS, li_D_r hS, li_G_1 hS, li_G_2 hS, li_G_3 hS, li_rA hS, li_rK hS, li_rX hS, il_0, il_1, il_2, il_3, il_4, il_5, il_6, il_7, il_8, il_9, il_10, il_11, il_12, il_13, il_15, il_16, il_17, il_18, il_19, il_20, il_21, il_22, il_23, il_24, il_26, il_27, il_28, il_30, il_32, il_34, il_36, il_38, il_40, il_43, il_44, il_46, il_47, il_48, il_49, il_50, il_51, il_60, il_64, il_100, il_108, il_111, il_127, il_971, il_972, il_999, il_1000, il_1024, il_1087, il_2500, il_5000, il_9999, il_60000, il_2147483647, nI_add, nI_mulI, nI_subI, nI_divI, nI_cl, nI_leJ, nI_ltJ, nI_eqJ, nI_neM, nI_neM', aw_sI_e, aw_sI_n, aw_sI_2, aw_sL_e, aw_sL_n, aw_sL_1, Option.bind_some, aw_chkT, ck_and0, ck_and1, bI_t, bI_f, nar_0, nar_1]
      rw [if_neg (by omega)]
      obtain ⟨q2, q3⟩ := hP.2.2 i hlt
      have hb := L50_63 (hasW_lt hW hD hlt)
      rw [← ih (i + 1) f (by omega) (by omega)]
      simp (disch := first | assumption | omega) only [f_X4_weightRead_J42, q2, q3, jl_1, jl_0, jl_not, lgc0, nL_subB, sumR, lo_0 hS, lo_1 hS, lo_33 hS, lo_34 hS, lo_89 hS, lo_100 hS, lo_123 hS, lo_146 hS, lo_148 hS, lo_176 hS, lo_182 hS, lo_D hS, lo_G hS, lr_37 hS, lr_93 hS, lr_101 hS, lr_124 hS, lr_152 hS, lr_169 hS, lr_0_0 hS, lr_0_1 hS, lr_0_2 hS, lr_0_3 hS, lr_0_5 hS, lr_0_6 hS, lr_0_7 hS, lr_0_8 hS, lr_0_9 hS, lr_0_10 hS, lr_0_11 hS, lr_0_12 hS, lr_1_0 hS, lr_1_2 hS, lr_33_0 hS, lr_33_1 hS, lr_33_2 hS, lr_33_3 hS, lr_34_0 hS, lr_89_0 hS, lr_89_1 hS, lr_89_2 hS, lr_89_3 hS, lr_89_4 hS, lr_89_5 hS, lr_100_0 hS, lr_100_1 hS, lr_123_0 hS, lr_123_1 hS, lr_146_0 hS, lr_148_0 hS, lr_148_1 hS, lr_148_2 hS, lr_148_3 hS, lr_148_4 hS, lr_148_5 hS, lr_176_0 hS, lr_176_1 hS, lr_176_4 hS, lr_176_6 hS, lr_176_7 hS, lr_182_0 hS, lr_D_0 hS, lr_D_1 hS, lr_D_2 hS, lr_D_3 hS, lr_D_5 hS, lr_D_6 hS, lr_D_r hS, lr_31 hS, lr_32 hS, lr_G_2 hS, lr_G_3 hS, lr_G_4 hS, li_2 hS, li_3 hS, li_31 hS, li_32 hS, li_35 hS, li_36 hS, li_37 hS, li_88 hS, li_90 hS, li_91 hS, li_92 hS, li_93 hS, li_98 hS, li_99 hS, li_101 hS, li_122 hS, li_124 hS, li_145 hS, li_147 hS, li_149 hS, li_150 hS, li_151 hS, li_152 hS, li_169 hS, li_175 hS, li_177 hS, li_178 hS, li_179 hS, li_180 hS, li_181 hS, li_183 hS, li_265 hS, li_266 hS, li_267 hS, li_268 hS, li_269 hS, li_270 hS, li_271 hS, li_272 hS, li_273 hS, li_274 hS, li_275 hS, li_276 hS, li_38 hS, li_94 hS, li_102 hS, li_125 hS, li_153 hS, li_170 hS, li_D_1 hS, li_D_2 hS, li_D_3 hS, li_D_4 hS, li_D_5 hS, li_D_26 hS, li_D_r hS, li_G_1 hS, li_G_2 hS, li_G_3 hS, li_rA hS, li_rK hS, li_rX hS, il_0, il_1, il_2, il_3, il_4, il_5, il_6, il_7, il_8, il_9, il_10, il_11, il_12, il_13, il_15, il_16, il_17, il_18, il_19, il_20, il_21, il_22, il_23, il_24, il_26, il_27, il_28, il_30, il_32, il_34, il_36, il_38, il_40, il_43, il_44, il_46, il_47, il_48, il_49, il_50, il_51, il_60, il_64, il_100, il_108, il_111, il_127, il_971, il_972, il_999, il_1000, il_1024, il_1087, il_2500, il_5000, il_9999, il_60000, il_2147483647, nI_add, nI_mulI, nI_subI, nI_divI, nI_cl, nI_leJ, nI_ltJ, nI_eqJ, nI_neM, nI_neM', aw_sI_e, aw_sI_n, aw_sI_2, aw_sL_e, aw_sL_n, aw_sL_1, Option.bind_some, aw_chkT, ck_and0, ck_and1, bI_t, bI_f, nar_0, nar_1]
      by_cases e : sub (hasW A D i) L = true
      · rw [if_pos e, if_pos e]
      · rw [if_neg e, if_neg e]; rfl

theorem C_weightRead {A : St} {σ : Sg} {d : Dt} {D : Nat} (hS : Lay σ) (hW : WF A) (hD : D < A 11 0 0) (hP : Prm A D d) {L : Nat} : f_X4_weightRead σ 176 (nL L) d = some (nI (rdW A D L), d) := by
  have h := C_wr_L5 (k := fun x d => some (x, d)) (L := L) hS hW hD hP (A 2 0 0) 0 aw_FU (by omega) (by show _ < 5000; have := hW.words; omega)
  exact h

theorem C_wu_L6 {A : St} {σ : Sg} {d : Dt} {D : Nat} (hS : Lay σ) (hW : WF A) (hD : D < A 11 0 0) (hP : Prm A D d) {L : Nat} {k : Int32 → Dt → Option (Int32 × Dt)} {s : Nat} (hs : s < 50) : ∀ (m i f : Nat), i + m = A 2 0 0 → m < f → f_X4_weightUnreadWith_L6 σ f k 176 (nL L) (nI s) (nI (sumR (fun w => if ((hasW A D w).testBit s && !sub (hasW A D w) L) = true then A 5 0 w else 0) i)) (nI i) d = k (nI (unS A D L s)) d := by
  intro m
  induction m with
  | zero =>
    intro i f hi hf
    cases f with
    | zero => omega
    | succ f =>
      have hiN : i = A 2 0 0 := by omega
      have w2 := hW.words
      have q1 := hP.1
      show f_X4_weightUnreadWith_B6 σ (f_X4_weightUnreadWith_L6 σ f k 176 (nL L) (nI s)) k 176 (nL L) (nI s) (nI (sumR (fun w => if ((hasW A D w).testBit s && !sub (hasW A D w) L) = true then A 5 0 w else 0) i)) (nI i) d = _
      simp (disch := first | assumption | omega) only [f_X4_weightUnreadWith_B6, q1, lo_0 hS, lo_1 hS, lo_33 hS, lo_34 hS, lo_89 hS, lo_100 hS, lo_123 hS, lo_146 hS, lo_148 hS, lo_176 hS, lo_182 hS, lo_D hS, lo_G hS, lr_37 hS, lr_93 hS, lr_101 hS, lr_124 hS, lr_152 hS, lr_169 hS, lr_0_0 hS, lr_0_1 hS, lr_0_2 hS, lr_0_3 hS, lr_0_5 hS, lr_0_6 hS, lr_0_7 hS, lr_0_8 hS, lr_0_9 hS, lr_0_10 hS, lr_0_11 hS, lr_0_12 hS, lr_1_0 hS, lr_1_2 hS, lr_33_0 hS, lr_33_1 hS, lr_33_2 hS, lr_33_3 hS, lr_34_0 hS, lr_89_0 hS, lr_89_1 hS, lr_89_2 hS, lr_89_3 hS, lr_89_4 hS, lr_89_5 hS, lr_100_0 hS, lr_100_1 hS, lr_123_0 hS, lr_123_1 hS, lr_146_0 hS, lr_148_0 hS, lr_148_1 hS, lr_148_2 hS, lr_148_3 hS, lr_148_4 hS, lr_148_5 hS, lr_176_0 hS, lr_176_1 hS, lr_176_4 hS, lr_176_6 hS, lr_176_7 hS, lr_182_0 hS, lr_D_0 hS, lr_D_1 hS, lr_D_2 hS, lr_D_3 hS, lr_D_5 hS, lr_D_6 hS, lr_D_r hS, lr_31 hS, lr_32 hS, lr_G_2 hS, lr_G_3 hS, lr_G_4 hS, li_2 hS, li_3 hS, li_31 hS, li_32 hS, li_35 hS, li_36 hS, li_37 hS, li_88 hS, li_90 hS, li_91 hS, li_92 hS, li_93 hS, li_98 hS, li_99 hS, li_101 hS, li_122 hS, li_124 hS, li_145 hS, li_147 hS, li_149 hS, li_150 hS, li_151 hS, li_152 hS, li_169 hS, li_175 hS, li_177 hS, li_178 hS, li_179 hS, li_180 hS, li_181 hS, li_183 hS, li_265 hS, li_266 hS, li_267 hS, li_268 hS, li_269 hS, li_270 hS, li_271 hS, li_272 hS, li_273 hS, li_274 hS, li_275 hS, li_276 hS, li_38 hS, li_94 hS, li_102 hS, li_125 hS, li_153 hS, li_170 hS, li_D_1 hS, li_D_2 hS, li_D_3 hS, li_D_4 hS, li_D_5 hS, li_D_26 hS, li_D_r hS, li_G_1 hS, li_G_2 hS, li_G_3 hS, li_rA hS, li_rK hS, li_rX hS, il_0, il_1, il_2, il_3, il_4, il_5, il_6, il_7, il_8, il_9, il_10, il_11, il_12, il_13, il_15, il_16, il_17, il_18, il_19, il_20, il_21, il_22, il_23, il_24, il_26, il_27, il_28, il_30, il_32, il_34, il_36, il_38, il_40, il_43, il_44, il_46, il_47, il_48, il_49, il_50, il_51, il_60, il_64, il_100, il_108, il_111, il_127, il_971, il_972, il_999, il_1000, il_1024, il_1087, il_2500, il_5000, il_9999, il_60000, il_2147483647, nI_add, nI_mulI, nI_subI, nI_divI, nI_cl, nI_leJ, nI_ltJ, nI_eqJ, nI_neM, nI_neM', aw_sI_e, aw_sI_n, aw_sI_2, aw_sL_e, aw_sL_n, aw_sL_1, Option.bind_some, aw_chkT, ck_and0, ck_and1, bI_t, bI_f, nar_0, nar_1]
      rw [if_pos (by omega)]
      rw [hiN]
      try rfl
  | succ m ih =>
    intro i f hi hf
    cases f with
    | zero => omega
    | succ f =>
      have hlt : i < A 2 0 0 := by omega
      have w2 := hW.words
      have q1 := hP.1
      show f_X4_weightUnreadWith_B6 σ (f_X4_weightUnreadWith_L6 σ f k 176 (nL L) (nI s)) k 176 (nL L) (nI s) (nI (sumR (fun w => if ((hasW A D w).testBit s && !sub (hasW A D w) L) = true then A 5 0 w else 0) i)) (nI i) d = _
      simp (disch := first | assumption | omega) only [f_X4_weightUnreadWith_B6, q1, lo_0 hS, lo_1 hS, lo_33 hS, lo_34 hS, lo_89 hS, lo_100 hS, lo_123 hS, lo_146 hS, lo_148 hS, lo_176 hS, lo_182 hS, lo_D hS, lo_G hS, lr_37 hS, lr_93 hS, lr_101 hS, lr_124 hS, lr_152 hS, lr_169 hS, lr_0_0 hS, lr_0_1 hS, lr_0_2 hS, lr_0_3 hS, lr_0_5 hS, lr_0_6 hS, lr_0_7 hS, lr_0_8 hS, lr_0_9 hS, lr_0_10 hS, lr_0_11 hS, lr_0_12 hS, lr_1_0 hS, lr_1_2 hS, lr_33_0 hS, lr_33_1 hS, lr_33_2 hS, lr_33_3 hS, lr_34_0 hS, lr_89_0 hS, lr_89_1 hS, lr_89_2 hS, lr_89_3 hS, lr_89_4 hS, lr_89_5 hS, lr_100_0 hS, lr_100_1 hS, lr_123_0 hS, lr_123_1 hS, lr_146_0 hS, lr_148_0 hS, lr_148_1 hS, lr_148_2 hS, lr_148_3 hS, lr_148_4 hS, lr_148_5 hS, lr_176_0 hS, lr_176_1 hS, lr_176_4 hS, lr_176_6 hS, lr_176_7 hS, lr_182_0 hS, lr_D_0 hS, lr_D_1 hS, lr_D_2 hS, lr_D_3 hS, lr_D_5 hS, lr_D_6 hS, lr_D_r hS, lr_31 hS, lr_32 hS, lr_G_2 hS, lr_G_3 hS, lr_G_4 hS, li_2 hS, li_3 hS, li_31 hS, li_32 hS, li_35 hS, li_36 hS, li_37 hS, li_88 hS, li_90 hS, li_91 hS, li_92 hS, li_93 hS, li_98 hS, li_99 hS, li_101 hS, li_122 hS, li_124 hS, li_145 hS, li_147 hS, li_149 hS, li_150 hS, li_151 hS, li_152 hS, li_169 hS, li_175 hS, li_177 hS, li_178 hS, li_179 hS, li_180 hS, li_181 hS, li_183 hS, li_265 hS, li_266 hS, li_267 hS, li_268 hS, li_269 hS, li_270 hS, li_271 hS, li_272 hS, li_273 hS, li_274 hS, li_275 hS, li_276 hS, li_38 hS, li_94 hS, li_102 hS, li_125 hS, li_153 hS, li_170 hS, li_D_1 hS, li_D_2 hS, li_D_3 hS, li_D_4 hS, li_D_5 hS, li_D_26 hS, li_D_r hS, li_G_1 hS, li_G_2 hS, li_G_3 hS, li_rA hS, li_rK hS, li_rX hS, il_0, il_1, il_2, il_3, il_4, il_5, il_6, il_7, il_8, il_9, il_10, il_11, il_12, il_13, il_15, il_16, il_17, il_18, il_19, il_20, il_21, il_22, il_23, il_24, il_26, il_27, il_28, il_30, il_32, il_34, il_36, il_38, il_40, il_43, il_44, il_46, il_47, il_48, il_49, il_50, il_51, il_60, il_64, il_100, il_108, il_111, il_127, il_971, il_972, il_999, il_1000, il_1024, il_1087, il_2500, il_5000, il_9999, il_60000, il_2147483647, nI_add, nI_mulI, nI_subI, nI_divI, nI_cl, nI_leJ, nI_ltJ, nI_eqJ, nI_neM, nI_neM', aw_sI_e, aw_sI_n, aw_sI_2, aw_sL_e, aw_sL_n, aw_sL_1, Option.bind_some, aw_chkT, ck_and0, ck_and1, bI_t, bI_f, nar_0, nar_1]
      rw [if_neg (by omega)]
      obtain ⟨q2, q3⟩ := hP.2.2 i hlt
      have hb := L50_63 (hasW_lt hW hD hlt)
      rw [← ih (i + 1) f (by omega) (by omega)]
      simp (disch := first | assumption | omega) only [f_X4_weightUnreadWith_J59, q2, q3, C_has, bI_0, jl_1, jl_0, jl_not, lgc0, nL_subB, sumR, lo_0 hS, lo_1 hS, lo_33 hS, lo_34 hS, lo_89 hS, lo_100 hS, lo_123 hS, lo_146 hS, lo_148 hS, lo_176 hS, lo_182 hS, lo_D hS, lo_G hS, lr_37 hS, lr_93 hS, lr_101 hS, lr_124 hS, lr_152 hS, lr_169 hS, lr_0_0 hS, lr_0_1 hS, lr_0_2 hS, lr_0_3 hS, lr_0_5 hS, lr_0_6 hS, lr_0_7 hS, lr_0_8 hS, lr_0_9 hS, lr_0_10 hS, lr_0_11 hS, lr_0_12 hS, lr_1_0 hS, lr_1_2 hS, lr_33_0 hS, lr_33_1 hS, lr_33_2 hS, lr_33_3 hS, lr_34_0 hS, lr_89_0 hS, lr_89_1 hS, lr_89_2 hS, lr_89_3 hS, lr_89_4 hS, lr_89_5 hS, lr_100_0 hS, lr_100_1 hS, lr_123_0 hS, lr_123_1 hS, lr_146_0 hS, lr_148_0 hS, lr_148_1 hS, lr_148_2 hS, lr_148_3 hS, lr_148_4 hS, lr_148_5 hS, lr_176_0 hS, lr_176_1 hS, lr_176_4 hS, lr_176_6 hS, lr_176_7 hS, lr_182_0 hS, lr_D_0 hS, lr_D_1 hS, lr_D_2 hS, lr_D_3 hS, lr_D_5 hS, lr_D_6 hS, lr_D_r hS, lr_31 hS, lr_32 hS, lr_G_2 hS, lr_G_3 hS, lr_G_4 hS, li_2 hS, li_3 hS, li_31 hS, li_32 hS, li_35 hS, li_36 hS, li_37 hS, li_88 hS, li_90 hS, li_91 hS, li_92 hS, li_93 hS, li_98 hS, li_99 hS, li_101 hS, li_122 hS, li_124 hS, li_145 hS, li_147 hS, li_149 hS, li_150 hS, li_151 hS, li_152 hS, li_169 hS, li_175 hS, li_177 hS, li_178 hS, li_179 hS, li_180 hS, li_181 hS, li_183 hS, li_265 hS, li_266 hS, li_267 hS, li_268 hS, li_269 hS, li_270 hS, li_271 hS, li_272 hS, li_273 hS, li_274 hS, li_275 hS, li_276 hS, li_38 hS, li_94 hS, li_102 hS, li_125 hS, li_153 hS, li_170 hS, li_D_1 hS, li_D_2 hS, li_D_3 hS, li_D_4 hS, li_D_5 hS, li_D_26 hS, li_D_r hS, li_G_1 hS, li_G_2 hS, li_G_3 hS, li_rA hS, li_rK hS, li_rX hS, il_0, il_1, il_2, il_3, il_4, il_5, il_6, il_7, il_8, il_9, il_10, il_11, il_12, il_13, il_15, il_16, il_17, il_18, il_19, il_20, il_21, il_22, il_23, il_24, il_26, il_27, il_28, il_30, il_32, il_34, il_36, il_38, il_40, il_43, il_44, il_46, il_47, il_48, il_49, il_50, il_51, il_60, il_64, il_100, il_108, il_111, il_127, il_971, il_972, il_999, il_1000, il_1024, il_1087, il_2500, il_5000, il_9999, il_60000, il_2147483647, nI_add, nI_mulI, nI_subI, nI_divI, nI_cl, nI_leJ, nI_ltJ, nI_eqJ, nI_neM, nI_neM', aw_sI_e, aw_sI_n, aw_sI_2, aw_sL_e, aw_sL_n, aw_sL_1, Option.bind_some, aw_chkT, ck_and0, ck_and1, bI_t, bI_f, nar_0, nar_1]
      cases e : sub (hasW A D i) L
      · simp only [Bool.false_eq_true, if_false, Bool.not_false, Bool.and_true]
        cases e2 : (hasW A D i).testBit s
        · simp only [if_true, Bool.false_eq_true, if_false, Nat.add_zero]
        · simp only [Bool.true_eq_false, if_false, if_true]
      · simp only [if_true, Bool.not_true, Bool.and_false, Bool.false_eq_true, if_false, Nat.add_zero]

theorem C_weightUnread {A : St} {σ : Sg} {d : Dt} {D : Nat} (hS : Lay σ) (hW : WF A) (hD : D < A 11 0 0) (hP : Prm A D d) {L : Nat} {s : Nat} (hs : s < 50) : f_X4_weightUnreadWith σ 176 (nL L) (nI s) d = some (nI (unS A D L s), d) := by
  have h := C_wu_L6 (k := fun x d => some (x, d)) (L := L) hS hW hD hP hs (A 2 0 0) 0 aw_FU (by omega) (by show _ < 5000; have := hW.words; omega)
  exact h
/-- a fold over the signs of a set -/
theorem fold_us {α : Type} (f : α → Nat → α) (z : α) (m : Nat) : ∀ n, foldR (fun acc k => f acc ((usF m n).getD k 0)) z (usF m n).length = foldR (fun acc s => if m.testBit s = true then f acc s else acc) z n := by
  intro n
  induction n with
  | zero => rfl
  | succ n ih =>
    show _ = (if m.testBit n = true then f (foldR (fun acc s => if m.testBit s = true then f acc s else acc) z n) n else foldR (fun acc s => if m.testBit s = true then f acc s else acc) z n)
    rw [usF_s, ← ih]
    by_cases e : m.testBit n = true
    · rw [if_pos e, if_pos e, List.length_append, List.length_cons, List.length_nil, Nat.zero_add]
      show f (foldR (fun acc k => f acc ((usF m n ++ [n]).getD k 0)) z (usF m n).length) ((usF m n ++ [n]).getD (usF m n).length 0) = _
      rw [foldR_cg (g := fun acc k => f acc ((usF m n).getD k 0)) (fun a u hu => by
        simp only [List.getD_eq_getElem?_getD]; rw [List.getElem?_append_left hu])]
      simp only [List.getD_eq_getElem?_getD]
      rw [List.getElem?_append_right (Nat.le_refl _), Nat.sub_self]; rfl
    · rw [if_neg e, if_neg e]
def bstN (A : St) (D L n : Nat) : Nat × Nat × Nat := foldR (fun acc s => if (allS A D).testBit s = true then bstI A D L acc s else acc) (0, 0, 0) n
theorem bstN_eq (A : St) (D L : Nat) : bstN A D L 50 = bst A D L := (fold_us (bstI A D L) (0, 0, 0) (allS A D) 50).symm
theorem bstN_le {A : St} (hW : WF A) (D L : Nat) : ∀ n, n ≤ 50 → (bstN A D L n).1 ≤ n ∧ (bstN A D L n).2.1 ≤ 19980 ∧ (bstN A D L n).2.2 ≤ 19980 := by
  intro n
  induction n with
  | zero => intro _; exact ⟨Nat.le_refl _, Nat.zero_le _, Nat.zero_le _⟩
  | succ n ih =>
    intro hn
    have h := ih (by omega)
    show (if (allS A D).testBit n = true then bstI A D L (bstN A D L n) n else bstN A D L n).1 ≤ n + 1 ∧ (if (allS A D).testBit n = true then bstI A D L (bstN A D L n) n else bstN A D L n).2.1 ≤ 19980 ∧ (if (allS A D).testBit n = true then bstI A D L (bstN A D L n) n else bstN A D L n).2.2 ≤ 19980
    generalize bstN A D L n = acc at h ⊢
    unfold bstI
    split
    · split
      · exact ⟨Nat.le_refl _, rdW_le hW _ _, unS_le hW _ _ _⟩
      · exact ⟨by omega, h.2⟩
    · exact ⟨by omega, h.2⟩
/-- a found value, or none yet -/
def nN (c v : Nat) : Int32 := if c = 0 then NO else nI v
theorem nL_mini {a L : Nat} : nL a &&& ~~~ nL L = nL (a ^^^ (a &&& L)) := by
  apply Int64.toBitVec_inj.mp
  apply BitVec.eq_of_getLsbD_eq
  intro i hi
  simp only [Int64.toBitVec_and, Int64.toBitVec_not, nL_bv, BitVec.getLsbD_and, BitVec.getLsbD_not, BitVec.getLsbD_ofNat, hi, decide_true, Bool.true_and, Nat.testBit_xor, Nat.testBit_and]
  cases a.testBit i <;> cases L.testBit i <;> rfl
theorem mini_bit {a L s : Nat} : (a ^^^ (a &&& L)).testBit s = (a.testBit s && !L.testBit s) := by
  rw [Nat.testBit_xor, Nat.testBit_and]
  cases a.testBit s <;> cases L.testBit s <;> rfl
theorem mini_lt {a L : Nat} (h : a < L50) : a ^^^ (a &&& L) < L50 := Nat.xor_lt_two_pow (n := 50) h (Nat.lt_of_le_of_lt Nat.and_le_left h)

theorem C_ns_L11 {A : St} {σ : Sg} {d : Dt} {D : Nat} (hS : Lay σ) (hW : WF A) (hD : D < A 11 0 0) (hP : Prm A D d) {L : Nat} (hL : L < L50) {k : Int32 → Dt → Option (Int32 × Dt)} : ∀ (m i f : Nat), i + m = 50 → m < f → f_X4_nextSign_L11 σ f k 176 (nL L) (nI ((bstN A D L i).1 - 1)) (nN (bstN A D L i).1 (bstN A D L i).2.1) (nN (bstN A D L i).1 (bstN A D L i).2.2) (nI i) d = k (nI ((bst A D L).1 - 1)) d := by
  intro m
  induction m with
  | zero =>
    intro i f hi hf
    cases f with
    | zero => omega
    | succ f =>
      have hiN : i = 50 := by omega
      have hb := bstN_le hW D L i (by omega)
      have hal := allS_lt hW hD
      show f_X4_nextSign_B11 σ (f_X4_nextSign_L11 σ f k 176 (nL L)) k 176 (nL L) (nI ((bstN A D L i).1 - 1)) (nN (bstN A D L i).1 (bstN A D L i).2.1) (nN (bstN A D L i).1 (bstN A D L i).2.2) (nI i) d = _
      simp (disch := first | assumption | omega) only [f_X4_nextSign_B11, lo_0 hS, lo_1 hS, lo_33 hS, lo_34 hS, lo_89 hS, lo_100 hS, lo_123 hS, lo_146 hS, lo_148 hS, lo_176 hS, lo_182 hS, lo_D hS, lo_G hS, lr_37 hS, lr_93 hS, lr_101 hS, lr_124 hS, lr_152 hS, lr_169 hS, lr_0_0 hS, lr_0_1 hS, lr_0_2 hS, lr_0_3 hS, lr_0_5 hS, lr_0_6 hS, lr_0_7 hS, lr_0_8 hS, lr_0_9 hS, lr_0_10 hS, lr_0_11 hS, lr_0_12 hS, lr_1_0 hS, lr_1_2 hS, lr_33_0 hS, lr_33_1 hS, lr_33_2 hS, lr_33_3 hS, lr_34_0 hS, lr_89_0 hS, lr_89_1 hS, lr_89_2 hS, lr_89_3 hS, lr_89_4 hS, lr_89_5 hS, lr_100_0 hS, lr_100_1 hS, lr_123_0 hS, lr_123_1 hS, lr_146_0 hS, lr_148_0 hS, lr_148_1 hS, lr_148_2 hS, lr_148_3 hS, lr_148_4 hS, lr_148_5 hS, lr_176_0 hS, lr_176_1 hS, lr_176_4 hS, lr_176_6 hS, lr_176_7 hS, lr_182_0 hS, lr_D_0 hS, lr_D_1 hS, lr_D_2 hS, lr_D_3 hS, lr_D_5 hS, lr_D_6 hS, lr_D_r hS, lr_31 hS, lr_32 hS, lr_G_2 hS, lr_G_3 hS, lr_G_4 hS, li_2 hS, li_3 hS, li_31 hS, li_32 hS, li_35 hS, li_36 hS, li_37 hS, li_88 hS, li_90 hS, li_91 hS, li_92 hS, li_93 hS, li_98 hS, li_99 hS, li_101 hS, li_122 hS, li_124 hS, li_145 hS, li_147 hS, li_149 hS, li_150 hS, li_151 hS, li_152 hS, li_169 hS, li_175 hS, li_177 hS, li_178 hS, li_179 hS, li_180 hS, li_181 hS, li_183 hS, li_265 hS, li_266 hS, li_267 hS, li_268 hS, li_269 hS, li_270 hS, li_271 hS, li_272 hS, li_273 hS, li_274 hS, li_275 hS, li_276 hS, li_38 hS, li_94 hS, li_102 hS, li_125 hS, li_153 hS, li_170 hS, li_D_1 hS, li_D_2 hS, li_D_3 hS, li_D_4 hS, li_D_5 hS, li_D_26 hS, li_D_r hS, li_G_1 hS, li_G_2 hS, li_G_3 hS, li_rA hS, li_rK hS, li_rX hS, il_0, il_1, il_2, il_3, il_4, il_5, il_6, il_7, il_8, il_9, il_10, il_11, il_12, il_13, il_15, il_16, il_17, il_18, il_19, il_20, il_21, il_22, il_23, il_24, il_26, il_27, il_28, il_30, il_32, il_34, il_36, il_38, il_40, il_43, il_44, il_46, il_47, il_48, il_49, il_50, il_51, il_60, il_64, il_100, il_108, il_111, il_127, il_971, il_972, il_999, il_1000, il_1024, il_1087, il_2500, il_5000, il_9999, il_60000, il_2147483647, nI_add, nI_mulI, nI_subI, nI_divI, nI_cl, nI_leJ, nI_ltJ, nI_eqJ, nI_neM, nI_neM', aw_sI_e, aw_sI_n, aw_sI_2, aw_sL_e, aw_sL_n, aw_sL_1, Option.bind_some, aw_chkT, ck_and0, ck_and1, bI_t, bI_f, nar_0, nar_1]
      rw [if_pos (by omega)]
      rw [hiN, bstN_eq]
  | succ m ih =>
    intro i f hi hf
    cases f with
    | zero => omega
    | succ f =>
      have hlt : i < 50 := by omega
      have hb := bstN_le hW D L i (by omega)
      have hal := allS_lt hW hD
      show f_X4_nextSign_B11 σ (f_X4_nextSign_L11 σ f k 176 (nL L)) k 176 (nL L) (nI ((bstN A D L i).1 - 1)) (nN (bstN A D L i).1 (bstN A D L i).2.1) (nN (bstN A D L i).1 (bstN A D L i).2.2) (nI i) d = _
      simp (disch := first | assumption | omega) only [f_X4_nextSign_B11, lo_0 hS, lo_1 hS, lo_33 hS, lo_34 hS, lo_89 hS, lo_100 hS, lo_123 hS, lo_146 hS, lo_148 hS, lo_176 hS, lo_182 hS, lo_D hS, lo_G hS, lr_37 hS, lr_93 hS, lr_101 hS, lr_124 hS, lr_152 hS, lr_169 hS, lr_0_0 hS, lr_0_1 hS, lr_0_2 hS, lr_0_3 hS, lr_0_5 hS, lr_0_6 hS, lr_0_7 hS, lr_0_8 hS, lr_0_9 hS, lr_0_10 hS, lr_0_11 hS, lr_0_12 hS, lr_1_0 hS, lr_1_2 hS, lr_33_0 hS, lr_33_1 hS, lr_33_2 hS, lr_33_3 hS, lr_34_0 hS, lr_89_0 hS, lr_89_1 hS, lr_89_2 hS, lr_89_3 hS, lr_89_4 hS, lr_89_5 hS, lr_100_0 hS, lr_100_1 hS, lr_123_0 hS, lr_123_1 hS, lr_146_0 hS, lr_148_0 hS, lr_148_1 hS, lr_148_2 hS, lr_148_3 hS, lr_148_4 hS, lr_148_5 hS, lr_176_0 hS, lr_176_1 hS, lr_176_4 hS, lr_176_6 hS, lr_176_7 hS, lr_182_0 hS, lr_D_0 hS, lr_D_1 hS, lr_D_2 hS, lr_D_3 hS, lr_D_5 hS, lr_D_6 hS, lr_D_r hS, lr_31 hS, lr_32 hS, lr_G_2 hS, lr_G_3 hS, lr_G_4 hS, li_2 hS, li_3 hS, li_31 hS, li_32 hS, li_35 hS, li_36 hS, li_37 hS, li_88 hS, li_90 hS, li_91 hS, li_92 hS, li_93 hS, li_98 hS, li_99 hS, li_101 hS, li_122 hS, li_124 hS, li_145 hS, li_147 hS, li_149 hS, li_150 hS, li_151 hS, li_152 hS, li_169 hS, li_175 hS, li_177 hS, li_178 hS, li_179 hS, li_180 hS, li_181 hS, li_183 hS, li_265 hS, li_266 hS, li_267 hS, li_268 hS, li_269 hS, li_270 hS, li_271 hS, li_272 hS, li_273 hS, li_274 hS, li_275 hS, li_276 hS, li_38 hS, li_94 hS, li_102 hS, li_125 hS, li_153 hS, li_170 hS, li_D_1 hS, li_D_2 hS, li_D_3 hS, li_D_4 hS, li_D_5 hS, li_D_26 hS, li_D_r hS, li_G_1 hS, li_G_2 hS, li_G_3 hS, li_rA hS, li_rK hS, li_rX hS, il_0, il_1, il_2, il_3, il_4, il_5, il_6, il_7, il_8, il_9, il_10, il_11, il_12, il_13, il_15, il_16, il_17, il_18, il_19, il_20, il_21, il_22, il_23, il_24, il_26, il_27, il_28, il_30, il_32, il_34, il_36, il_38, il_40, il_43, il_44, il_46, il_47, il_48, il_49, il_50, il_51, il_60, il_64, il_100, il_108, il_111, il_127, il_971, il_972, il_999, il_1000, il_1024, il_1087, il_2500, il_5000, il_9999, il_60000, il_2147483647, nI_add, nI_mulI, nI_subI, nI_divI, nI_cl, nI_leJ, nI_ltJ, nI_eqJ, nI_neM, nI_neM', aw_sI_e, aw_sI_n, aw_sI_2, aw_sL_e, aw_sL_n, aw_sL_1, Option.bind_some, aw_chkT, ck_and0, ck_and1, bI_t, bI_f, nar_0, nar_1]
      rw [if_neg (by omega)]
      have hr := rdW_le hW D (L ||| 2 ^ i)
      have hu := unS_le hW D L i
      have q1 := C_weightRead hS hW hD hP (L := L ||| 2 ^ i)
      have q2 := C_weightUnread hS hW hD hP (L := L) hlt
      have q3 := hP.2.1
      have hml := L50_63 (mini_lt (L := L) hal)
      rw [← ih (i + 1) f (by omega) (by omega)]
      have eb : bstN A D L (i + 1) = if (allS A D).testBit i = true then bstI A D L (bstN A D L i) i else bstN A D L i := rfl
      rw [eb]
      generalize bstN A D L i = acc at *
      simp (disch := first | assumption | omega) only [f_X4_nextSign_J89, f_X4_nextSign_J78, q3, jl_1, jl_63, jl_not, nL_mini, C_has, mini_bit, bI_0, nI_L, nL_b1, nL_orL, q1, q2, lo_0 hS, lo_1 hS, lo_33 hS, lo_34 hS, lo_89 hS, lo_100 hS, lo_123 hS, lo_146 hS, lo_148 hS, lo_176 hS, lo_182 hS, lo_D hS, lo_G hS, lr_37 hS, lr_93 hS, lr_101 hS, lr_124 hS, lr_152 hS, lr_169 hS, lr_0_0 hS, lr_0_1 hS, lr_0_2 hS, lr_0_3 hS, lr_0_5 hS, lr_0_6 hS, lr_0_7 hS, lr_0_8 hS, lr_0_9 hS, lr_0_10 hS, lr_0_11 hS, lr_0_12 hS, lr_1_0 hS, lr_1_2 hS, lr_33_0 hS, lr_33_1 hS, lr_33_2 hS, lr_33_3 hS, lr_34_0 hS, lr_89_0 hS, lr_89_1 hS, lr_89_2 hS, lr_89_3 hS, lr_89_4 hS, lr_89_5 hS, lr_100_0 hS, lr_100_1 hS, lr_123_0 hS, lr_123_1 hS, lr_146_0 hS, lr_148_0 hS, lr_148_1 hS, lr_148_2 hS, lr_148_3 hS, lr_148_4 hS, lr_148_5 hS, lr_176_0 hS, lr_176_1 hS, lr_176_4 hS, lr_176_6 hS, lr_176_7 hS, lr_182_0 hS, lr_D_0 hS, lr_D_1 hS, lr_D_2 hS, lr_D_3 hS, lr_D_5 hS, lr_D_6 hS, lr_D_r hS, lr_31 hS, lr_32 hS, lr_G_2 hS, lr_G_3 hS, lr_G_4 hS, li_2 hS, li_3 hS, li_31 hS, li_32 hS, li_35 hS, li_36 hS, li_37 hS, li_88 hS, li_90 hS, li_91 hS, li_92 hS, li_93 hS, li_98 hS, li_99 hS, li_101 hS, li_122 hS, li_124 hS, li_145 hS, li_147 hS, li_149 hS, li_150 hS, li_151 hS, li_152 hS, li_169 hS, li_175 hS, li_177 hS, li_178 hS, li_179 hS, li_180 hS, li_181 hS, li_183 hS, li_265 hS, li_266 hS, li_267 hS, li_268 hS, li_269 hS, li_270 hS, li_271 hS, li_272 hS, li_273 hS, li_274 hS, li_275 hS, li_276 hS, li_38 hS, li_94 hS, li_102 hS, li_125 hS, li_153 hS, li_170 hS, li_D_1 hS, li_D_2 hS, li_D_3 hS, li_D_4 hS, li_D_5 hS, li_D_26 hS, li_D_r hS, li_G_1 hS, li_G_2 hS, li_G_3 hS, li_rA hS, li_rK hS, li_rX hS, il_0, il_1, il_2, il_3, il_4, il_5, il_6, il_7, il_8, il_9, il_10, il_11, il_12, il_13, il_15, il_16, il_17, il_18, il_19, il_20, il_21, il_22, il_23, il_24, il_26, il_27, il_28, il_30, il_32, il_34, il_36, il_38, il_40, il_43, il_44, il_46, il_47, il_48, il_49, il_50, il_51, il_60, il_64, il_100, il_108, il_111, il_127, il_971, il_972, il_999, il_1000, il_1024, il_1087, il_2500, il_5000, il_9999, il_60000, il_2147483647, nI_add, nI_mulI, nI_subI, nI_divI, nI_cl, nI_leJ, nI_ltJ, nI_eqJ, nI_neM, nI_neM', aw_sI_e, aw_sI_n, aw_sI_2, aw_sL_e, aw_sL_n, aw_sL_1, Option.bind_some, aw_chkT, ck_and0, ck_and1, bI_t, bI_f, nar_0, nar_1]
      unfold bstI bstC
      cases e0 : (allS A D).testBit i
      · simp only [Bool.false_and, if_true, Bool.false_eq_true, if_false]
      · simp only [Bool.true_and, if_true]
        cases e1 : L.testBit i
        · simp only [Bool.not_false, Bool.true_eq_false, if_false, Bool.true_and]
          unfold nN
          by_cases e2 : acc.1 = 0
          · rw [if_pos e2, if_pos e2]
            simp (disch := first | assumption | omega) only [NO_lt2, if_true]
            rw [if_pos (by simp [e2])]
            simp only [Nat.add_sub_cancel, Nat.succ_ne_zero, if_false]
          · rw [if_neg e2, if_neg e2]
            simp (disch := first | assumption | omega) only [il_0, il_1, il_2, il_3, il_4, il_5, il_6, il_7, il_8, il_9, il_10, il_11, il_12, il_13, il_15, il_16, il_17, il_18, il_19, il_20, il_21, il_22, il_23, il_24, il_26, il_27, il_28, il_30, il_32, il_34, il_36, il_38, il_40, il_43, il_44, il_46, il_47, il_48, il_49, il_50, il_51, il_60, il_64, il_100, il_108, il_111, il_127, il_971, il_972, il_999, il_1000, il_1024, il_1087, il_2500, il_5000, il_9999, il_60000, il_2147483647, nI_add, nI_mulI, nI_subI, nI_divI, nI_cl, nI_leJ, nI_ltJ, nI_eqJ, nI_neM, nI_neM']
            by_cases e4 : acc.2.1 < rdW A D (L ||| 2 ^ i)
            · rw [if_pos e4, if_pos (by simp [e4])]
              simp only [Nat.add_sub_cancel, Nat.succ_ne_zero, if_false]
            · rw [if_neg e4]
              by_cases e5 : rdW A D (L ||| 2 ^ i) = acc.2.1
              · rw [if_pos e5]
                by_cases e6 : unS A D L i ≤ acc.2.2
                · rw [if_pos e6, if_neg (by simp [e2, e4]; omega), if_neg e2, if_neg e2]
                · rw [if_neg e6, if_pos (by simp [e5]; right; omega)]
                  simp only [Nat.add_sub_cancel, Nat.succ_ne_zero, if_false]
              · rw [if_neg e5, if_neg (by simp [e2, e4, e5]), if_neg e2, if_neg e2]
        · simp only [Bool.not_true, if_true, Bool.false_and, Bool.false_eq_true, if_false]

theorem C_nextSign {A : St} {σ : Sg} {d : Dt} {D : Nat} (hS : Lay σ) (hW : WF A) (hD : D < A 11 0 0) (hP : Prm A D d) {L : Nat} (hL : L < L50) : f_X4_nextSign σ 176 (nL L) d = some (nI ((bst A D L).1 - 1), d) := by
  have h := C_ns_L11 (k := fun x d => some (x, d)) (L := L) hS hW hD hP hL 50 0 aw_FU (by omega) (by show _ < 5000; omega)
  have e : bstN A D L 0 = (0, 0, 0) := rfl
  rw [e] at h
  simp only [nN, if_true] at h
  simp (disch := first | assumption | omega) only [f_X4_nextSign, nno, il_0, il_1, il_2, il_3, il_4, il_5, il_6, il_7, il_8, il_9, il_10, il_11, il_12, il_13, il_15, il_16, il_17, il_18, il_19, il_20, il_21, il_22, il_23, il_24, il_26, il_27, il_28, il_30, il_32, il_34, il_36, il_38, il_40, il_43, il_44, il_46, il_47, il_48, il_49, il_50, il_51, il_60, il_64, il_100, il_108, il_111, il_127, il_971, il_972, il_999, il_1000, il_1024, il_1087, il_2500, il_5000, il_9999, il_60000, il_2147483647, nI_add, nI_mulI, nI_subI, nI_divI, nI_cl, nI_leJ, nI_ltJ, nI_eqJ, nI_neM, nI_neM']
  exact h

/-- the quick primer lies there -/
def Ord (A : St) (D : Nat) (d : Dt) : Prop := Prm A D d ∧ d.1 176 5 = nI (usL (allS A D)).length ∧ ∀ j, j < (usL (allS A D)).length → d.1 179 j = nI (pick A D j)

theorem C_or_L15 {A : St} {σ : Sg} {d0 : Dt} {D : Nat} {Q : Unit × Dt → Prop} {k : Dt → Option (Unit × Dt)} (hS : Lay σ) (hW : WF A) (hD : D < A 11 0 0) (hP0 : Prm A D d0) (hk : ∀ d, Ord A D d → Fr 176 179 d0 d → ok (k d) Q) : ∀ (m i f : Nat) (d : Dt), i + m = (usL (allS A D)).length → m < f → Prm A D d → d.1 176 5 = nI i → (∀ j, j < i → d.1 179 j = nI (pick A D j)) → Fr 176 179 d0 d → ok (f_X4_putInOrder_L15 σ f k 176 (nI (usL (allS A D)).length) (nL (lrn A D i)) d) Q := by
  intro m
  induction m with
  | zero =>
    intro i f d hi hf hP w0 w1 F
    cases f with
    | zero => omega
    | succ f =>
      have hl := usL_len (allS A D)
      show ok (f_X4_putInOrder_B15 σ (f_X4_putInOrder_L15 σ f k 176 (nI (usL (allS A D)).length)) k 176 (nI (usL (allS A D)).length) (nL (lrn A D i)) d) Q
      simp (disch := first | assumption | omega) only [f_X4_putInOrder_B15, w0, lo_0 hS, lo_1 hS, lo_33 hS, lo_34 hS, lo_89 hS, lo_100 hS, lo_123 hS, lo_146 hS, lo_148 hS, lo_176 hS, lo_182 hS, lo_D hS, lo_G hS, lr_37 hS, lr_93 hS, lr_101 hS, lr_124 hS, lr_152 hS, lr_169 hS, lr_0_0 hS, lr_0_1 hS, lr_0_2 hS, lr_0_3 hS, lr_0_5 hS, lr_0_6 hS, lr_0_7 hS, lr_0_8 hS, lr_0_9 hS, lr_0_10 hS, lr_0_11 hS, lr_0_12 hS, lr_1_0 hS, lr_1_2 hS, lr_33_0 hS, lr_33_1 hS, lr_33_2 hS, lr_33_3 hS, lr_34_0 hS, lr_89_0 hS, lr_89_1 hS, lr_89_2 hS, lr_89_3 hS, lr_89_4 hS, lr_89_5 hS, lr_100_0 hS, lr_100_1 hS, lr_123_0 hS, lr_123_1 hS, lr_146_0 hS, lr_148_0 hS, lr_148_1 hS, lr_148_2 hS, lr_148_3 hS, lr_148_4 hS, lr_148_5 hS, lr_176_0 hS, lr_176_1 hS, lr_176_4 hS, lr_176_6 hS, lr_176_7 hS, lr_182_0 hS, lr_D_0 hS, lr_D_1 hS, lr_D_2 hS, lr_D_3 hS, lr_D_5 hS, lr_D_6 hS, lr_D_r hS, lr_31 hS, lr_32 hS, lr_G_2 hS, lr_G_3 hS, lr_G_4 hS, li_2 hS, li_3 hS, li_31 hS, li_32 hS, li_35 hS, li_36 hS, li_37 hS, li_88 hS, li_90 hS, li_91 hS, li_92 hS, li_93 hS, li_98 hS, li_99 hS, li_101 hS, li_122 hS, li_124 hS, li_145 hS, li_147 hS, li_149 hS, li_150 hS, li_151 hS, li_152 hS, li_169 hS, li_175 hS, li_177 hS, li_178 hS, li_179 hS, li_180 hS, li_181 hS, li_183 hS, li_265 hS, li_266 hS, li_267 hS, li_268 hS, li_269 hS, li_270 hS, li_271 hS, li_272 hS, li_273 hS, li_274 hS, li_275 hS, li_276 hS, li_38 hS, li_94 hS, li_102 hS, li_125 hS, li_153 hS, li_170 hS, li_D_1 hS, li_D_2 hS, li_D_3 hS, li_D_4 hS, li_D_5 hS, li_D_26 hS, li_D_r hS, li_G_1 hS, li_G_2 hS, li_G_3 hS, li_rA hS, li_rK hS, li_rX hS, il_0, il_1, il_2, il_3, il_4, il_5, il_6, il_7, il_8, il_9, il_10, il_11, il_12, il_13, il_15, il_16, il_17, il_18, il_19, il_20, il_21, il_22, il_23, il_24, il_26, il_27, il_28, il_30, il_32, il_34, il_36, il_38, il_40, il_43, il_44, il_46, il_47, il_48, il_49, il_50, il_51, il_60, il_64, il_100, il_108, il_111, il_127, il_971, il_972, il_999, il_1000, il_1024, il_1087, il_2500, il_5000, il_9999, il_60000, il_2147483647, nI_add, nI_mulI, nI_subI, nI_divI, nI_cl, nI_leJ, nI_ltJ, nI_eqJ, nI_neM, nI_neM', aw_sI_e, aw_sI_n, aw_sI_2, aw_sL_e, aw_sL_n, aw_sL_1, Option.bind_some, aw_chkT, ck_and0, ck_and1, bI_t, bI_f, nar_0, nar_1]
      rw [if_pos (by omega)]
      obtain rfl : i = (usL (allS A D)).length := by omega
      exact hk d ⟨hP, w0, w1⟩ F
  | succ m ih =>
    intro i f d hi hf hP w0 w1 F
    cases f with
    | zero => omega
    | succ f =>
      have hl := usL_len (allS A D)
      show ok (f_X4_putInOrder_B15 σ (f_X4_putInOrder_L15 σ f k 176 (nI (usL (allS A D)).length)) k 176 (nI (usL (allS A D)).length) (nL (lrn A D i)) d) Q
      simp (disch := first | assumption | omega) only [f_X4_putInOrder_B15, w0, lo_0 hS, lo_1 hS, lo_33 hS, lo_34 hS, lo_89 hS, lo_100 hS, lo_123 hS, lo_146 hS, lo_148 hS, lo_176 hS, lo_182 hS, lo_D hS, lo_G hS, lr_37 hS, lr_93 hS, lr_101 hS, lr_124 hS, lr_152 hS, lr_169 hS, lr_0_0 hS, lr_0_1 hS, lr_0_2 hS, lr_0_3 hS, lr_0_5 hS, lr_0_6 hS, lr_0_7 hS, lr_0_8 hS, lr_0_9 hS, lr_0_10 hS, lr_0_11 hS, lr_0_12 hS, lr_1_0 hS, lr_1_2 hS, lr_33_0 hS, lr_33_1 hS, lr_33_2 hS, lr_33_3 hS, lr_34_0 hS, lr_89_0 hS, lr_89_1 hS, lr_89_2 hS, lr_89_3 hS, lr_89_4 hS, lr_89_5 hS, lr_100_0 hS, lr_100_1 hS, lr_123_0 hS, lr_123_1 hS, lr_146_0 hS, lr_148_0 hS, lr_148_1 hS, lr_148_2 hS, lr_148_3 hS, lr_148_4 hS, lr_148_5 hS, lr_176_0 hS, lr_176_1 hS, lr_176_4 hS, lr_176_6 hS, lr_176_7 hS, lr_182_0 hS, lr_D_0 hS, lr_D_1 hS, lr_D_2 hS, lr_D_3 hS, lr_D_5 hS, lr_D_6 hS, lr_D_r hS, lr_31 hS, lr_32 hS, lr_G_2 hS, lr_G_3 hS, lr_G_4 hS, li_2 hS, li_3 hS, li_31 hS, li_32 hS, li_35 hS, li_36 hS, li_37 hS, li_88 hS, li_90 hS, li_91 hS, li_92 hS, li_93 hS, li_98 hS, li_99 hS, li_101 hS, li_122 hS, li_124 hS, li_145 hS, li_147 hS, li_149 hS, li_150 hS, li_151 hS, li_152 hS, li_169 hS, li_175 hS, li_177 hS, li_178 hS, li_179 hS, li_180 hS, li_181 hS, li_183 hS, li_265 hS, li_266 hS, li_267 hS, li_268 hS, li_269 hS, li_270 hS, li_271 hS, li_272 hS, li_273 hS, li_274 hS, li_275 hS, li_276 hS, li_38 hS, li_94 hS, li_102 hS, li_125 hS, li_153 hS, li_170 hS, li_D_1 hS, li_D_2 hS, li_D_3 hS, li_D_4 hS, li_D_5 hS, li_D_26 hS, li_D_r hS, li_G_1 hS, li_G_2 hS, li_G_3 hS, li_rA hS, li_rK hS, li_rX hS, il_0, il_1, il_2, il_3, il_4, il_5, il_6, il_7, il_8, il_9, il_10, il_11, il_12, il_13, il_15, il_16, il_17, il_18, il_19, il_20, il_21, il_22, il_23, il_24, il_26, il_27, il_28, il_30, il_32, il_34, il_36, il_38, il_40, il_43, il_44, il_46, il_47, il_48, il_49, il_50, il_51, il_60, il_64, il_100, il_108, il_111, il_127, il_971, il_972, il_999, il_1000, il_1024, il_1087, il_2500, il_5000, il_9999, il_60000, il_2147483647, nI_add, nI_mulI, nI_subI, nI_divI, nI_cl, nI_leJ, nI_ltJ, nI_eqJ, nI_neM, nI_neM', aw_sI_e, aw_sI_n, aw_sI_2, aw_sL_e, aw_sL_n, aw_sL_1, Option.bind_some, aw_chkT, ck_and0, ck_and1, bI_t, bI_f, nar_0, nar_1]
      rw [if_neg (by omega)]
      obtain ⟨l1, l2, l3⟩ := lrn_is hW (D := D) i (by omega)
      obtain ⟨b1, b2, b3, b4, b5⟩ := bst_some (D := D) (L := lrn A D i) hW (by omega)
      rw [if_neg (by omega)]
      have qn := C_nextSign hS hW hD hP l2
      simp (disch := first | assumption | omega) only [qn, w0, nI_L, jl_1, jl_63, nL_b1, nL_orL, lo_0 hS, lo_1 hS, lo_33 hS, lo_34 hS, lo_89 hS, lo_100 hS, lo_123 hS, lo_146 hS, lo_148 hS, lo_176 hS, lo_182 hS, lo_D hS, lo_G hS, lr_37 hS, lr_93 hS, lr_101 hS, lr_124 hS, lr_152 hS, lr_169 hS, lr_0_0 hS, lr_0_1 hS, lr_0_2 hS, lr_0_3 hS, lr_0_5 hS, lr_0_6 hS, lr_0_7 hS, lr_0_8 hS, lr_0_9 hS, lr_0_10 hS, lr_0_11 hS, lr_0_12 hS, lr_1_0 hS, lr_1_2 hS, lr_33_0 hS, lr_33_1 hS, lr_33_2 hS, lr_33_3 hS, lr_34_0 hS, lr_89_0 hS, lr_89_1 hS, lr_89_2 hS, lr_89_3 hS, lr_89_4 hS, lr_89_5 hS, lr_100_0 hS, lr_100_1 hS, lr_123_0 hS, lr_123_1 hS, lr_146_0 hS, lr_148_0 hS, lr_148_1 hS, lr_148_2 hS, lr_148_3 hS, lr_148_4 hS, lr_148_5 hS, lr_176_0 hS, lr_176_1 hS, lr_176_4 hS, lr_176_6 hS, lr_176_7 hS, lr_182_0 hS, lr_D_0 hS, lr_D_1 hS, lr_D_2 hS, lr_D_3 hS, lr_D_5 hS, lr_D_6 hS, lr_D_r hS, lr_31 hS, lr_32 hS, lr_G_2 hS, lr_G_3 hS, lr_G_4 hS, li_2 hS, li_3 hS, li_31 hS, li_32 hS, li_35 hS, li_36 hS, li_37 hS, li_88 hS, li_90 hS, li_91 hS, li_92 hS, li_93 hS, li_98 hS, li_99 hS, li_101 hS, li_122 hS, li_124 hS, li_145 hS, li_147 hS, li_149 hS, li_150 hS, li_151 hS, li_152 hS, li_169 hS, li_175 hS, li_177 hS, li_178 hS, li_179 hS, li_180 hS, li_181 hS, li_183 hS, li_265 hS, li_266 hS, li_267 hS, li_268 hS, li_269 hS, li_270 hS, li_271 hS, li_272 hS, li_273 hS, li_274 hS, li_275 hS, li_276 hS, li_38 hS, li_94 hS, li_102 hS, li_125 hS, li_153 hS, li_170 hS, li_D_1 hS, li_D_2 hS, li_D_3 hS, li_D_4 hS, li_D_5 hS, li_D_26 hS, li_D_r hS, li_G_1 hS, li_G_2 hS, li_G_3 hS, li_rA hS, li_rK hS, li_rX hS, il_0, il_1, il_2, il_3, il_4, il_5, il_6, il_7, il_8, il_9, il_10, il_11, il_12, il_13, il_15, il_16, il_17, il_18, il_19, il_20, il_21, il_22, il_23, il_24, il_26, il_27, il_28, il_30, il_32, il_34, il_36, il_38, il_40, il_43, il_44, il_46, il_47, il_48, il_49, il_50, il_51, il_60, il_64, il_100, il_108, il_111, il_127, il_971, il_972, il_999, il_1000, il_1024, il_1087, il_2500, il_5000, il_9999, il_60000, il_2147483647, nI_add, nI_mulI, nI_subI, nI_divI, nI_cl, nI_leJ, nI_ltJ, nI_eqJ, nI_neM, nI_neM', aw_sI_e, aw_sI_n, aw_sI_2, aw_sL_e, aw_sL_n, aw_sL_1, Option.bind_some, aw_chkT, ck_and0, ck_and1, bI_t, bI_f, nar_0, nar_1]
      refine ih (i + 1) f _ (by omega) (by omega) ⟨?_, ?_, fun w hw => ⟨?_, ?_⟩⟩ ?_ (fun j hj => ?_) ((F.w (by omega)).w (by omega))
      · rw [aw_sI_n (by omega), aw_sI_n (by omega)]; exact hP.1
      · exact hP.2.1
      · exact (hP.2.2 w hw).1
      · rw [aw_sI_n (by omega), aw_sI_n (by omega)]; exact (hP.2.2 w hw).2
      · exact aw_sI_e rfl rfl
      · rw [aw_sI_n (by omega)]
        by_cases e : j = i
        · subst e; rw [aw_sI_e rfl rfl]; rfl
        · rw [aw_sI_n (by omega)]; exact w1 j (by omega)

theorem C_putInOrder {A : St} {σ : Sg} {d : Dt} {D : Nat} (hS : Lay σ) (hW : WF A) (hD : D < A 11 0 0) (y1 : Prm A D d) : ok (f_X4_putInOrder σ 176 d) (fun z => Ord A D z.2 ∧ Fr 176 179 d z.2) := by
  have hl := usL_len (allS A D)
  have q1 := y1.2.1
  have hbc := C_bitCount (σ := σ) (d := d) (allS_lt hW hD)
  rw [← usL_cb] at hbc
  have hP' : Prm A D (aw_sI d 176 5 (nI 0)) := ⟨by rw [aw_sI_n (by omega)]; exact y1.1, y1.2.1, fun w hw => ⟨(y1.2.2 w hw).1, by rw [aw_sI_n (by omega)]; exact (y1.2.2 w hw).2⟩⟩
  unfold f_X4_putInOrder
  rw [lo_176 hS, q1]
  refine ok_bs hbc ?_
  exact C_or_L15 (d0 := aw_sI d 176 5 (nI 0)) (k := fun d_10 => f_X4_putInOrder_J70 σ d_10) (Q := fun w => Ord A D w.2 ∧ Fr 176 179 d w.2) hS hW hD hP' (fun d' o F => ok_some ⟨o, (Fr.rf.w (by omega)).tr F⟩) (usL (allS A D)).length 0 aw_FU (aw_sI d 176 5 (nI 0)) (by omega) (by show _ < 5000; omega) hP' (aw_sI_e rfl rfl) (fun j hj => by omega) Fr.rf
theorem C_quick {A : St} {σ : Sg} {d : Dt} {D : Nat} (hS : Lay σ) (hn : ly_n σ = A 11 0 0) (hW : WF A) (hC : RepC A d) (hD : D < A 11 0 0) : ok (f_X10_prepareQuickPrimer σ 0 (277 + 4 * D) d) (fun z => Ord A D z.2 ∧ FrK d z.2) := by
  have w2 := hW.words
  obtain ⟨z, hz, z1, z2⟩ := C_spellAll hS hn hW hC hD
  have hCz := hC.frK w2 (z2.x (by omega))
  obtain ⟨y, hy, y1, y2⟩ := C_primTake hS hW hCz hD z1
  obtain ⟨x, hx, x1, x2⟩ := C_putInOrder hS hW hD y1
  simp (disch := first | assumption | omega) only [f_X10_prepareQuickPrimer, hz, hy, hx, lo_0 hS, lo_1 hS, lo_33 hS, lo_34 hS, lo_89 hS, lo_100 hS, lo_123 hS, lo_146 hS, lo_148 hS, lo_176 hS, lo_182 hS, lo_D hS, lo_G hS, lr_37 hS, lr_93 hS, lr_101 hS, lr_124 hS, lr_152 hS, lr_169 hS, lr_0_0 hS, lr_0_1 hS, lr_0_2 hS, lr_0_3 hS, lr_0_5 hS, lr_0_6 hS, lr_0_7 hS, lr_0_8 hS, lr_0_9 hS, lr_0_10 hS, lr_0_11 hS, lr_0_12 hS, lr_1_0 hS, lr_1_2 hS, lr_33_0 hS, lr_33_1 hS, lr_33_2 hS, lr_33_3 hS, lr_34_0 hS, lr_89_0 hS, lr_89_1 hS, lr_89_2 hS, lr_89_3 hS, lr_89_4 hS, lr_89_5 hS, lr_100_0 hS, lr_100_1 hS, lr_123_0 hS, lr_123_1 hS, lr_146_0 hS, lr_148_0 hS, lr_148_1 hS, lr_148_2 hS, lr_148_3 hS, lr_148_4 hS, lr_148_5 hS, lr_176_0 hS, lr_176_1 hS, lr_176_4 hS, lr_176_6 hS, lr_176_7 hS, lr_182_0 hS, lr_D_0 hS, lr_D_1 hS, lr_D_2 hS, lr_D_3 hS, lr_D_5 hS, lr_D_6 hS, lr_D_r hS, lr_31 hS, lr_32 hS, lr_G_2 hS, lr_G_3 hS, lr_G_4 hS, li_2 hS, li_3 hS, li_31 hS, li_32 hS, li_35 hS, li_36 hS, li_37 hS, li_88 hS, li_90 hS, li_91 hS, li_92 hS, li_93 hS, li_98 hS, li_99 hS, li_101 hS, li_122 hS, li_124 hS, li_145 hS, li_147 hS, li_149 hS, li_150 hS, li_151 hS, li_152 hS, li_169 hS, li_175 hS, li_177 hS, li_178 hS, li_179 hS, li_180 hS, li_181 hS, li_183 hS, li_265 hS, li_266 hS, li_267 hS, li_268 hS, li_269 hS, li_270 hS, li_271 hS, li_272 hS, li_273 hS, li_274 hS, li_275 hS, li_276 hS, li_38 hS, li_94 hS, li_102 hS, li_125 hS, li_153 hS, li_170 hS, li_D_1 hS, li_D_2 hS, li_D_3 hS, li_D_4 hS, li_D_5 hS, li_D_26 hS, li_D_r hS, li_G_1 hS, li_G_2 hS, li_G_3 hS, li_rA hS, li_rK hS, li_rX hS, il_0, il_1, il_2, il_3, il_4, il_5, il_6, il_7, il_8, il_9, il_10, il_11, il_12, il_13, il_15, il_16, il_17, il_18, il_19, il_20, il_21, il_22, il_23, il_24, il_26, il_27, il_28, il_30, il_32, il_34, il_36, il_38, il_40, il_43, il_44, il_46, il_47, il_48, il_49, il_50, il_51, il_60, il_64, il_100, il_108, il_111, il_127, il_971, il_972, il_999, il_1000, il_1024, il_1087, il_2500, il_5000, il_9999, il_60000, il_2147483647, nI_add, nI_mulI, nI_subI, nI_divI, nI_cl, nI_leJ, nI_ltJ, nI_eqJ, nI_neM, nI_neM', aw_sI_e, aw_sI_n, aw_sI_2, aw_sL_e, aw_sL_n, aw_sL_1, Option.bind_some, aw_chkT, ck_and0, ck_and1, bI_t, bI_f, nar_0, nar_1]
  exact ok_some ⟨x1, ((z2.x (by omega)).tr (y2.x (by omega))).tr (x2.x (by omega))⟩
