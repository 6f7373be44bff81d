/-! the class: spellings compared -/
theorem C_sameRow_L {σ : Sg} {d : Dt} {r1 r2 n : Nat} {l1 l2 : List Nat} {k : Dt → Option (Int32 × Dt)} (c1 : Cap σ r1 n) (c2 : Cap σ r2 n) (hn : n ≤ 16) (n1 : l1.length ≤ n) (e : l1.length = l2.length) (h1 : ∀ i, i < l1.length → d.1 r1 i = nI (l1.getD i 0)) (h2 : ∀ i, i < l2.length → d.1 r2 i = nI (l2.getD i 0)) (b1 : ∀ i, l1.getD i 0 < 50) (b2 : ∀ i, l2.getD i 0 < 50) (hk : k d = some (nI 1, d)) : ∀ (m i f : Nat), i + m = l1.length → m < f → f_X7_sameRow_L10 σ f k r1 (nI l1.length) r2 (nI i) d = some (bI (decide (l1.drop i = l2.drop i)), d) := by
  intro m
  induction m with
  | zero =>
    intro i f hi hf
    cases f with
    | zero => omega
    | succ f =>
      show f_X7_sameRow_B10 σ (f_X7_sameRow_L10 σ f k r1 (nI l1.length) r2) k r1 (nI l1.length) r2 (nI i) d = _
      simp (disch := first | assumption | omega) only [f_X7_sameRow_B10, il_0, il_1, il_2, il_3, il_4, il_5, il_6, il_7, il_8, il_9, il_10, il_11, il_12, il_13, il_15, il_16, il_17, il_18, il_19, il_20, il_21, il_22, il_23, il_24, il_26, il_27, il_28, il_30, il_32, il_34, il_36, il_38, il_40, il_43, il_44, il_46, il_47, il_48, il_49, il_50, il_51, il_60, il_64, il_100, il_108, il_111, il_127, il_971, il_972, il_999, il_1000, il_1024, il_1087, il_2500, il_5000, il_9999, il_60000, il_2147483647, nI_add, nI_mulI, nI_subI, nI_divI, nI_cl, nI_leJ, nI_ltJ, nI_eqJ, nI_neM, nI_neM']
      rw [if_pos (by omega), hk, List.drop_eq_nil_of_le (by omega), List.drop_eq_nil_of_le (by omega)]
      rfl
  | succ m ih =>
    intro i f hi hf
    cases f with
    | zero => omega
    | succ f =>
      have q1 := h1 i (by omega)
      have q2 := h2 i (by omega)
      have t1 := b1 i
      have t2 := b2 i
      show f_X7_sameRow_B10 σ (f_X7_sameRow_L10 σ f k r1 (nI l1.length) r2) k r1 (nI l1.length) r2 (nI i) d = _
      simp (disch := first | assumption | omega) only [f_X7_sameRow_B10, q1, q2, cap_ck c1, cap_ck c2, il_0, il_1, il_2, il_3, il_4, il_5, il_6, il_7, il_8, il_9, il_10, il_11, il_12, il_13, il_15, il_16, il_17, il_18, il_19, il_20, il_21, il_22, il_23, il_24, il_26, il_27, il_28, il_30, il_32, il_34, il_36, il_38, il_40, il_43, il_44, il_46, il_47, il_48, il_49, il_50, il_51, il_60, il_64, il_100, il_108, il_111, il_127, il_971, il_972, il_999, il_1000, il_1024, il_1087, il_2500, il_5000, il_9999, il_60000, il_2147483647, nI_add, nI_mulI, nI_subI, nI_divI, nI_cl, nI_leJ, nI_ltJ, nI_eqJ, nI_neM, nI_neM', aw_sI_e, aw_sI_n, aw_sI_2, aw_sL_e, aw_sL_n, aw_sL_1, Option.bind_some, aw_chkT, ck_and0, ck_and1, bI_t, bI_f, nar_0, nar_1]
      rw [if_neg (by omega), drop_dec (by omega) (by omega)]
      by_cases e1 : l1.getD i 0 = l2.getD i 0
      · rw [if_pos e1, ih (i + 1) f (by omega) (by omega), decide_eq_true e1, Bool.true_and]
      · rw [if_neg e1, decide_eq_false e1, Bool.false_and]
        rfl
theorem C_sameRow {σ : Sg} {d : Dt} {r1 r2 n : Nat} {l1 l2 : List Nat} (c1 : Cap σ r1 n) (c2 : Cap σ r2 n) (hn : n ≤ 16) (n1 : l1.length ≤ n) (n2 : l2.length ≤ n) (h1 : ∀ i, i < l1.length → d.1 r1 i = nI (l1.getD i 0)) (h2 : ∀ i, i < l2.length → d.1 r2 i = nI (l2.getD i 0)) (b1 : ∀ i, l1.getD i 0 < 50) (b2 : ∀ i, l2.getD i 0 < 50) : f_X7_sameRow σ r1 (nI l1.length) r2 (nI l2.length) d = some (bI (decide (l1 = l2)), d) := by
  simp (disch := first | assumption | omega) only [f_X7_sameRow, il_0, il_1, il_2, il_3, il_4, il_5, il_6, il_7, il_8, il_9, il_10, il_11, il_12, il_13, il_15, il_16, il_17, il_18, il_19, il_20, il_21, il_22, il_23, il_24, il_26, il_27, il_28, il_30, il_32, il_34, il_36, il_38, il_40, il_43, il_44, il_46, il_47, il_48, il_49, il_50, il_51, il_60, il_64, il_100, il_108, il_111, il_127, il_971, il_972, il_999, il_1000, il_1024, il_1087, il_2500, il_5000, il_9999, il_60000, il_2147483647, nI_add, nI_mulI, nI_subI, nI_divI, nI_cl, nI_leJ, nI_ltJ, nI_eqJ, nI_neM, nI_neM', aw_sI_e, aw_sI_n, aw_sI_2, aw_sL_e, aw_sL_n, aw_sL_1, Option.bind_some, aw_chkT, ck_and0, ck_and1, bI_t, bI_f, nar_0, nar_1]
  by_cases e : l1.length = l2.length
  · rw [if_pos e, C_sameRow_L (l2 := l2) c1 c2 hn n1 e h1 h2 b1 b2 rfl l1.length 0 aw_FU (by omega) (by show _ < 5000; omega)]
    simp only [List.drop_zero]
  · rw [if_neg e, decide_eq_false (fun h => e (by rw [h]))]
    rfl
theorem C_alike {A : St} {σ : Sg} {d : Dt} {D b o w v : Nat} (hS : Lay σ) (hW : WF A) (hD : D < A 11 0 0) (hb : b < 4) (ho : o = 100 ∨ o = 123) (hs : Spc A D b o d) (hw : w < A 2 0 0) (hv : v < A 2 0 0) : f_X7_alike σ o (nI w) (nI v) d = some (bI (decide (sp A D b w = sp A D b v)), d) := by
  have w2 := hW.words
  obtain ⟨a1, a2⟩ := hs.2 w hw
  obtain ⟨b1, b2⟩ := hs.2 v hv
  have h := C_sameRow (d := d) (l1 := sp A D b w) (l2 := sp A D b v) (cap_r hS ho (show w < 20 by omega)) (cap_r hS ho (show v < 20 by omega)) (by omega) (sp_len hW D b hw).2 (sp_len hW D b hv).2 a2 b2 (sp_lt hW hD hb hw) (sp_lt hW hD hb hv)
  simp (disch := first | assumption | omega) only [f_X7_alike, a1, b1, h, bI_and, so_O hS ho, so_r hS ho, so_l hS ho, so_w hS ho, so_i hS ho, so_j hS ho, lo_0 hS, lo_1 hS, lo_33 hS, lo_34 hS, lo_89 hS, lo_100 hS, lo_123 hS, lo_146 hS, lo_148 hS, lo_176 hS, lo_182 hS, lo_D hS, lo_G hS, lr_37 hS, lr_93 hS, lr_101 hS, lr_124 hS, lr_152 hS, lr_169 hS, lr_0_0 hS, lr_0_1 hS, lr_0_2 hS, lr_0_3 hS, lr_0_5 hS, lr_0_6 hS, lr_0_7 hS, lr_0_8 hS, lr_0_9 hS, lr_0_10 hS, lr_0_11 hS, lr_0_12 hS, lr_1_0 hS, lr_1_2 hS, lr_33_0 hS, lr_33_1 hS, lr_33_2 hS, lr_33_3 hS, lr_34_0 hS, lr_89_0 hS, lr_89_1 hS, lr_89_2 hS, lr_89_3 hS, lr_89_4 hS, lr_89_5 hS, lr_100_0 hS, lr_100_1 hS, lr_123_0 hS, lr_123_1 hS, lr_146_0 hS, lr_148_0 hS, lr_148_1 hS, lr_148_2 hS, lr_148_3 hS, lr_148_4 hS, lr_148_5 hS, lr_176_0 hS, lr_176_1 hS, lr_176_4 hS, lr_176_6 hS, lr_176_7 hS, lr_182_0 hS, lr_D_0 hS, lr_D_1 hS, lr_D_2 hS, lr_D_3 hS, lr_D_5 hS, lr_D_6 hS, lr_D_r hS, lr_31 hS, lr_32 hS, lr_G_2 hS, lr_G_3 hS, lr_G_4 hS, li_2 hS, li_3 hS, li_31 hS, li_32 hS, li_35 hS, li_36 hS, li_37 hS, li_88 hS, li_90 hS, li_91 hS, li_92 hS, li_93 hS, li_98 hS, li_99 hS, li_101 hS, li_122 hS, li_124 hS, li_145 hS, li_147 hS, li_149 hS, li_150 hS, li_151 hS, li_152 hS, li_169 hS, li_175 hS, li_177 hS, li_178 hS, li_179 hS, li_180 hS, li_181 hS, li_183 hS, li_265 hS, li_266 hS, li_267 hS, li_268 hS, li_269 hS, li_270 hS, li_271 hS, li_272 hS, li_273 hS, li_274 hS, li_275 hS, li_276 hS, li_38 hS, li_94 hS, li_102 hS, li_125 hS, li_153 hS, li_170 hS, li_D_1 hS, li_D_2 hS, li_D_3 hS, li_D_4 hS, li_D_5 hS, li_D_26 hS, li_D_r hS, li_G_1 hS, li_G_2 hS, li_G_3 hS, li_rA hS, li_rK hS, li_rX hS, il_0, il_1, il_2, il_3, il_4, il_5, il_6, il_7, il_8, il_9, il_10, il_11, il_12, il_13, il_15, il_16, il_17, il_18, il_19, il_20, il_21, il_22, il_23, il_24, il_26, il_27, il_28, il_30, il_32, il_34, il_36, il_38, il_40, il_43, il_44, il_46, il_47, il_48, il_49, il_50, il_51, il_60, il_64, il_100, il_108, il_111, il_127, il_971, il_972, il_999, il_1000, il_1024, il_1087, il_2500, il_5000, il_9999, il_60000, il_2147483647, nI_add, nI_mulI, nI_subI, nI_divI, nI_cl, nI_leJ, nI_ltJ, nI_eqJ, nI_neM, nI_neM', aw_sI_e, aw_sI_n, aw_sI_2, aw_sL_e, aw_sL_n, aw_sL_1, Option.bind_some, aw_chkT, ck_and0, ck_and1, bI_t, bI_f, nar_0, nar_1]
theorem C_alikeIn {A : St} {σ : Sg} {d : Dt} {D b b2 w : Nat} (hS : Lay σ) (hW : WF A) (hD : D < A 11 0 0) (hb : b < 4) (hb2 : b2 < 4) (hs : Spc A D b 100 d) (hs2 : Spc A D b2 123 d) (hw : w < A 2 0 0) : f_X7_alikeIn σ 100 123 (nI w) d = some (bI (decide (sp A D b w = sp A D b2 w)), d) := by
  have w2 := hW.words
  obtain ⟨a1, a2⟩ := hs.2 w hw
  obtain ⟨b1, b2'⟩ := hs2.2 w hw
  have h := C_sameRow (d := d) (l1 := sp A D b w) (l2 := sp A D b2 w) (cap_r hS (Or.inl rfl) (show w < 20 by omega)) (cap_r hS (Or.inr rfl) (show w < 20 by omega)) (by omega) (sp_len hW D b hw).2 (sp_len hW D b2 hw).2 a2 b2' (sp_lt hW hD hb hw) (sp_lt hW hD hb2 hw)
  have a1' : d.1 122 w = nI (sp A D b w).length := a1
  have b1' : d.1 145 w = nI (sp A D b2 w).length := b1
  simp (disch := first | assumption | omega) only [f_X7_alikeIn, a1', b1', h, bI_and, lo_0 hS, lo_1 hS, lo_33 hS, lo_34 hS, lo_89 hS, lo_100 hS, lo_123 hS, lo_146 hS, lo_148 hS, lo_176 hS, lo_182 hS, lo_D hS, lo_G hS, lr_37 hS, lr_93 hS, lr_101 hS, lr_124 hS, lr_152 hS, lr_169 hS, lr_0_0 hS, lr_0_1 hS, lr_0_2 hS, lr_0_3 hS, lr_0_5 hS, lr_0_6 hS, lr_0_7 hS, lr_0_8 hS, lr_0_9 hS, lr_0_10 hS, lr_0_11 hS, lr_0_12 hS, lr_1_0 hS, lr_1_2 hS, lr_33_0 hS, lr_33_1 hS, lr_33_2 hS, lr_33_3 hS, lr_34_0 hS, lr_89_0 hS, lr_89_1 hS, lr_89_2 hS, lr_89_3 hS, lr_89_4 hS, lr_89_5 hS, lr_100_0 hS, lr_100_1 hS, lr_123_0 hS, lr_123_1 hS, lr_146_0 hS, lr_148_0 hS, lr_148_1 hS, lr_148_2 hS, lr_148_3 hS, lr_148_4 hS, lr_148_5 hS, lr_176_0 hS, lr_176_1 hS, lr_176_4 hS, lr_176_6 hS, lr_176_7 hS, lr_182_0 hS, lr_D_0 hS, lr_D_1 hS, lr_D_2 hS, lr_D_3 hS, lr_D_5 hS, lr_D_6 hS, lr_D_r hS, lr_31 hS, lr_32 hS, lr_G_2 hS, lr_G_3 hS, lr_G_4 hS, li_2 hS, li_3 hS, li_31 hS, li_32 hS, li_35 hS, li_36 hS, li_37 hS, li_88 hS, li_90 hS, li_91 hS, li_92 hS, li_93 hS, li_98 hS, li_99 hS, li_101 hS, li_122 hS, li_124 hS, li_145 hS, li_147 hS, li_149 hS, li_150 hS, li_151 hS, li_152 hS, li_169 hS, li_175 hS, li_177 hS, li_178 hS, li_179 hS, li_180 hS, li_181 hS, li_183 hS, li_265 hS, li_266 hS, li_267 hS, li_268 hS, li_269 hS, li_270 hS, li_271 hS, li_272 hS, li_273 hS, li_274 hS, li_275 hS, li_276 hS, li_38 hS, li_94 hS, li_102 hS, li_125 hS, li_153 hS, li_170 hS, li_D_1 hS, li_D_2 hS, li_D_3 hS, li_D_4 hS, li_D_5 hS, li_D_26 hS, li_D_r hS, li_G_1 hS, li_G_2 hS, li_G_3 hS, li_rA hS, li_rK hS, li_rX hS, il_0, il_1, il_2, il_3, il_4, il_5, il_6, il_7, il_8, il_9, il_10, il_11, il_12, il_13, il_15, il_16, il_17, il_18, il_19, il_20, il_21, il_22, il_23, il_24, il_26, il_27, il_28, il_30, il_32, il_34, il_36, il_38, il_40, il_43, il_44, il_46, il_47, il_48, il_49, il_50, il_51, il_60, il_64, il_100, il_108, il_111, il_127, il_971, il_972, il_999, il_1000, il_1024, il_1087, il_2500, il_5000, il_9999, il_60000, il_2147483647, nI_add, nI_mulI, nI_subI, nI_divI, nI_cl, nI_leJ, nI_ltJ, nI_eqJ, nI_neM, nI_neM', aw_sI_e, aw_sI_n, aw_sI_2, aw_sL_e, aw_sL_n, aw_sL_1, Option.bind_some, aw_chkT, ck_and0, ck_and1, bI_t, bI_f, nar_0, nar_1]
theorem C_al {A : St} {σ : Sg} {d : Dt} {D w v : Nat} (hS : Lay σ) (hW : WF A) (hD : D < A 11 0 0) (hs : Spc A D (A 13 0 D) 100 d) (hw : w < A 2 0 0) (hv : v < A 2 0 0) : f_X7_alike σ 100 (nI w) (nI v) d = some (bI (al A D w v), d) := C_alike hS hW hD (by have := (hW.G hD).2.1; omega) (Or.inl rfl) hs hw hv
theorem C_al2 {A : St} {σ : Sg} {d : Dt} {D w v : Nat} (hS : Lay σ) (hW : WF A) (hD : D < A 11 0 0) (hs : Spc A D (A 13 0 D) 123 d) (hw : w < A 2 0 0) (hv : v < A 2 0 0) : f_X7_alike σ 123 (nI w) (nI v) d = some (bI (al A D w v), d) := C_alike hS hW hD (by have := (hW.G hD).2.1; omega) (Or.inr rfl) hs hw hv

theorem C_heavy_L {A : St} {σ : Sg} {d : Dt} {D : Nat} (hS : Lay σ) (hW : WF A) (hwt : ∀ w, w < 20 → d.1 3 w = nI (A 5 0 w)) (hD : D < A 11 0 0) (hs : Spc A D (A 13 0 D) 100 d) {w : Nat} (hw : w < A 2 0 0) {k : Dt → Option (Int32 × Dt)} (hk : k d = some (nI 1, d)) : ∀ (m i f : Nat), i + m = A 2 0 0 → m < f → anyR (ahead A D w) i = false → f_X7_isHeaviest_L2 σ f k 100 (nI w) 3 (nI i) d = some (bI (!anyR (ahead A D w) (A 2 0 0)), d) := by
  have w2 := hW.words
  have q1 := hs.1
  intro m
  induction m with
  | zero =>
    intro i f hi hf hA
    cases f with
    | zero => omega
    | succ f =>
      have e : i = A 2 0 0 := by omega
      show f_X7_isHeaviest_B2 σ (f_X7_isHeaviest_L2 σ f k 100 (nI w) 3) k 100 (nI w) 3 (nI i) d = _
      simp (disch := first | assumption | omega) only [f_X7_isHeaviest_B2, q1, lo_0 hS, lo_1 hS, lo_33 hS, lo_34 hS, lo_89 hS, lo_100 hS, lo_123 hS, lo_146 hS, lo_148 hS, lo_176 hS, lo_182 hS, lo_D hS, lo_G hS, lr_37 hS, lr_93 hS, lr_101 hS, lr_124 hS, lr_152 hS, lr_169 hS, lr_0_0 hS, lr_0_1 hS, lr_0_2 hS, lr_0_3 hS, lr_0_5 hS, lr_0_6 hS, lr_0_7 hS, lr_0_8 hS, lr_0_9 hS, lr_0_10 hS, lr_0_11 hS, lr_0_12 hS, lr_1_0 hS, lr_1_2 hS, lr_33_0 hS, lr_33_1 hS, lr_33_2 hS, lr_33_3 hS, lr_34_0 hS, lr_89_0 hS, lr_89_1 hS, lr_89_2 hS, lr_89_3 hS, lr_89_4 hS, lr_89_5 hS, lr_100_0 hS, lr_100_1 hS, lr_123_0 hS, lr_123_1 hS, lr_146_0 hS, lr_148_0 hS, lr_148_1 hS, lr_148_2 hS, lr_148_3 hS, lr_148_4 hS, lr_148_5 hS, lr_176_0 hS, lr_176_1 hS, lr_176_4 hS, lr_176_6 hS, lr_176_7 hS, lr_182_0 hS, lr_D_0 hS, lr_D_1 hS, lr_D_2 hS, lr_D_3 hS, lr_D_5 hS, lr_D_6 hS, lr_D_r hS, lr_31 hS, lr_32 hS, lr_G_2 hS, lr_G_3 hS, lr_G_4 hS, li_2 hS, li_3 hS, li_31 hS, li_32 hS, li_35 hS, li_36 hS, li_37 hS, li_88 hS, li_90 hS, li_91 hS, li_92 hS, li_93 hS, li_98 hS, li_99 hS, li_101 hS, li_122 hS, li_124 hS, li_145 hS, li_147 hS, li_149 hS, li_150 hS, li_151 hS, li_152 hS, li_169 hS, li_175 hS, li_177 hS, li_178 hS, li_179 hS, li_180 hS, li_181 hS, li_183 hS, li_265 hS, li_266 hS, li_267 hS, li_268 hS, li_269 hS, li_270 hS, li_271 hS, li_272 hS, li_273 hS, li_274 hS, li_275 hS, li_276 hS, li_38 hS, li_94 hS, li_102 hS, li_125 hS, li_153 hS, li_170 hS, li_D_1 hS, li_D_2 hS, li_D_3 hS, li_D_4 hS, li_D_5 hS, li_D_26 hS, li_D_r hS, li_G_1 hS, li_G_2 hS, li_G_3 hS, li_rA hS, li_rK hS, li_rX hS, il_0, il_1, il_2, il_3, il_4, il_5, il_6, il_7, il_8, il_9, il_10, il_11, il_12, il_13, il_15, il_16, il_17, il_18, il_19, il_20, il_21, il_22, il_23, il_24, il_26, il_27, il_28, il_30, il_32, il_34, il_36, il_38, il_40, il_43, il_44, il_46, il_47, il_48, il_49, il_50, il_51, il_60, il_64, il_100, il_108, il_111, il_127, il_971, il_972, il_999, il_1000, il_1024, il_1087, il_2500, il_5000, il_9999, il_60000, il_2147483647, nI_add, nI_mulI, nI_subI, nI_divI, nI_cl, nI_leJ, nI_ltJ, nI_eqJ, nI_neM, nI_neM', aw_sI_e, aw_sI_n, aw_sI_2, aw_sL_e, aw_sL_n, aw_sL_1, Option.bind_some, aw_chkT, ck_and0, ck_and1, bI_t, bI_f, nar_0, nar_1]
      rw [if_pos (by omega), hk, ← e, hA]; rfl
  | succ m ih =>
    intro i f hi hf hA
    cases f with
    | zero => omega
    | succ f =>
      have hlt : i < A 2 0 0 := by omega
      have hw3 := wt_lt hW hw
      have hi3 := wt_lt hW hlt
      have q3 := hwt _ (show w < 20 by omega)
      have q4 := hwt _ (show i < 20 by omega)
      have qa := C_al hS hW hD hs hw hlt
      have IH : ahead A D w i = false → f_X7_isHeaviest_L2 σ f k 100 (nI w) 3 (nI (i + 1)) d = some (bI (!anyR (ahead A D w) (A 2 0 0)), d) := fun h => ih (i + 1) f (by omega) (by omega) (by simp only [anyR, hA, h, Bool.or_self])
      have OUT : ahead A D w i = true → (some (nI 0, d) : Option (Int32 × Dt)) = some (bI (!anyR (ahead A D w) (A 2 0 0)), d) := fun h => by
        rw [anyR_iff.mpr ⟨i, hlt, h⟩]; rfl
      show f_X7_isHeaviest_B2 σ (f_X7_isHeaviest_L2 σ f k 100 (nI w) 3) k 100 (nI w) 3 (nI i) d = _
      simp (disch := first | assumption | omega) only [f_X7_isHeaviest_B2, q1, f_X7_isHeaviest_J33, f_X7_isHeaviest_J37, f_X7_isHeaviest_J38, f_X7_isHeaviest_J56, q3, q4, qa, bI_0, ↓reduceIte, Nat.reduceEqDiff, Nat.one_ne_zero, if_true, if_false, lo_0 hS, lo_1 hS, lo_33 hS, lo_34 hS, lo_89 hS, lo_100 hS, lo_123 hS, lo_146 hS, lo_148 hS, lo_176 hS, lo_182 hS, lo_D hS, lo_G hS, lr_37 hS, lr_93 hS, lr_101 hS, lr_124 hS, lr_152 hS, lr_169 hS, lr_0_0 hS, lr_0_1 hS, lr_0_2 hS, lr_0_3 hS, lr_0_5 hS, lr_0_6 hS, lr_0_7 hS, lr_0_8 hS, lr_0_9 hS, lr_0_10 hS, lr_0_11 hS, lr_0_12 hS, lr_1_0 hS, lr_1_2 hS, lr_33_0 hS, lr_33_1 hS, lr_33_2 hS, lr_33_3 hS, lr_34_0 hS, lr_89_0 hS, lr_89_1 hS, lr_89_2 hS, lr_89_3 hS, lr_89_4 hS, lr_89_5 hS, lr_100_0 hS, lr_100_1 hS, lr_123_0 hS, lr_123_1 hS, lr_146_0 hS, lr_148_0 hS, lr_148_1 hS, lr_148_2 hS, lr_148_3 hS, lr_148_4 hS, lr_148_5 hS, lr_176_0 hS, lr_176_1 hS, lr_176_4 hS, lr_176_6 hS, lr_176_7 hS, lr_182_0 hS, lr_D_0 hS, lr_D_1 hS, lr_D_2 hS, lr_D_3 hS, lr_D_5 hS, lr_D_6 hS, lr_D_r hS, lr_31 hS, lr_32 hS, lr_G_2 hS, lr_G_3 hS, lr_G_4 hS, li_2 hS, li_3 hS, li_31 hS, li_32 hS, li_35 hS, li_36 hS, li_37 hS, li_88 hS, li_90 hS, li_91 hS, li_92 hS, li_93 hS, li_98 hS, li_99 hS, li_101 hS, li_122 hS, li_124 hS, li_145 hS, li_147 hS, li_149 hS, li_150 hS, li_151 hS, li_152 hS, li_169 hS, li_175 hS, li_177 hS, li_178 hS, li_179 hS, li_180 hS, li_181 hS, li_183 hS, li_265 hS, li_266 hS, li_267 hS, li_268 hS, li_269 hS, li_270 hS, li_271 hS, li_272 hS, li_273 hS, li_274 hS, li_275 hS, li_276 hS, li_38 hS, li_94 hS, li_102 hS, li_125 hS, li_153 hS, li_170 hS, li_D_1 hS, li_D_2 hS, li_D_3 hS, li_D_4 hS, li_D_5 hS, li_D_26 hS, li_D_r hS, li_G_1 hS, li_G_2 hS, li_G_3 hS, li_rA hS, li_rK hS, li_rX hS, il_0, il_1, il_2, il_3, il_4, il_5, il_6, il_7, il_8, il_9, il_10, il_11, il_12, il_13, il_15, il_16, il_17, il_18, il_19, il_20, il_21, il_22, il_23, il_24, il_26, il_27, il_28, il_30, il_32, il_34, il_36, il_38, il_40, il_43, il_44, il_46, il_47, il_48, il_49, il_50, il_51, il_60, il_64, il_100, il_108, il_111, il_127, il_971, il_972, il_999, il_1000, il_1024, il_1087, il_2500, il_5000, il_9999, il_60000, il_2147483647, nI_add, nI_mulI, nI_subI, nI_divI, nI_cl, nI_leJ, nI_ltJ, nI_eqJ, nI_neM, nI_neM', aw_sI_e, aw_sI_n, aw_sI_2, aw_sL_e, aw_sL_n, aw_sL_1, Option.bind_some, aw_chkT, ck_and0, ck_and1, bI_t, bI_f, nar_0, nar_1]
      rw [if_neg (by omega)]
      unfold ahead at IH OUT
      by_cases c1 : A 5 0 w < A 5 0 i
      · rw [if_pos c1]
        cases hal : al A D w i
        · simp only [if_true]; exact IH (by simp [hal])
        · simp only [Bool.true_eq_false, if_false]; exact OUT (by simp [hal, c1])
      · rw [if_neg c1]
        by_cases c2 : A 5 0 i = A 5 0 w
        · rw [if_pos c2]
          by_cases c3 : w ≤ i
          · rw [if_pos c3]; exact IH (by simp [c2]; intros; omega)
          · rw [if_neg c3]
            cases hal : al A D w i
            · simp only [if_true]; exact IH (by simp [hal])
            · simp only [Bool.true_eq_false, if_false]; exact OUT (by simp [hal, c2]; omega)
        · rw [if_neg c2]; exact IH (by simp [c1, c2])
theorem C_heavy {A : St} {σ : Sg} {d : Dt} {D : Nat} (hS : Lay σ) (hW : WF A) (hwt : ∀ w, w < 20 → d.1 3 w = nI (A 5 0 w)) (hD : D < A 11 0 0) (hs : Spc A D (A 13 0 D) 100 d) {w : Nat} (hw : w < A 2 0 0) : f_X7_isHeaviest σ 100 (nI w) 3 d = some (bI (!anyR (ahead A D w) (A 2 0 0)), d) := by
  have h := C_heavy_L hS hW hwt hD hs hw (k := fun d_8 => some (nI 1, d_8)) rfl (A 2 0 0) 0 aw_FU (by omega) (by show _ < 5000; have := hW.words; omega) rfl
  simp (disch := first | assumption | omega) only [f_X7_isHeaviest, il_0, il_1, il_2, il_3, il_4, il_5, il_6, il_7, il_8, il_9, il_10, il_11, il_12, il_13, il_15, il_16, il_17, il_18, il_19, il_20, il_21, il_22, il_23, il_24, il_26, il_27, il_28, il_30, il_32, il_34, il_36, il_38, il_40, il_43, il_44, il_46, il_47, il_48, il_49, il_50, il_51, il_60, il_64, il_100, il_108, il_111, il_127, il_971, il_972, il_999, il_1000, il_1024, il_1087, il_2500, il_5000, il_9999, il_60000, il_2147483647, nI_add, nI_mulI, nI_subI, nI_divI, nI_cl, nI_leJ, nI_ltJ, nI_eqJ, nI_neM, nI_neM', aw_sI_e, aw_sI_n, aw_sI_2, aw_sL_e, aw_sL_n, aw_sL_1, Option.bind_some, aw_chkT, ck_and0, ck_and1, bI_t, bI_f, nar_0, nar_1]
  exact h

theorem C_dw_L4 {A : St} {σ : Sg} {d : Dt} {D : Nat} (hS : Lay σ) (hW : WF A) (hwt : ∀ w, w < 20 → d.1 3 w = nI (A 5 0 w)) (hD : D < A 11 0 0) (hs : Spc A D (A 13 0 D) 100 d) {k : Int32 → Dt → Option (Int32 × Dt)} : ∀ (m i f : Nat), i + m = A 2 0 0 → m < f → f_X7_doubtfulWeight_L4 σ f k 100 3 (nI (sumR (fun w => if anyR (ahead A D w) (A 2 0 0) = true then A 5 0 w else 0) i)) (nI i) d = k (nI (loadS A D)) d := by
  intro m
  induction m with
  | zero =>
    intro i f hi hf
    cases f with
    | zero => omega
    | succ f =>
      have hiN : i = A 2 0 0 := by omega
      have w2 := hW.words
      have q1 := hs.1
      show f_X7_doubtfulWeight_B4 σ (f_X7_doubtfulWeight_L4 σ f k 100 3) k 100 3 (nI (sumR (fun w => if anyR (ahead A D w) (A 2 0 0) = true then A 5 0 w else 0) i)) (nI i) d = _
      simp (disch := first | assumption | omega) only [f_X7_doubtfulWeight_B4, q1, lo_0 hS, lo_1 hS, lo_33 hS, lo_34 hS, lo_89 hS, lo_100 hS, lo_123 hS, lo_146 hS, lo_148 hS, lo_176 hS, lo_182 hS, lo_D hS, lo_G hS, lr_37 hS, lr_93 hS, lr_101 hS, lr_124 hS, lr_152 hS, lr_169 hS, lr_0_0 hS, lr_0_1 hS, lr_0_2 hS, lr_0_3 hS, lr_0_5 hS, lr_0_6 hS, lr_0_7 hS, lr_0_8 hS, lr_0_9 hS, lr_0_10 hS, lr_0_11 hS, lr_0_12 hS, lr_1_0 hS, lr_1_2 hS, lr_33_0 hS, lr_33_1 hS, lr_33_2 hS, lr_33_3 hS, lr_34_0 hS, lr_89_0 hS, lr_89_1 hS, lr_89_2 hS, lr_89_3 hS, lr_89_4 hS, lr_89_5 hS, lr_100_0 hS, lr_100_1 hS, lr_123_0 hS, lr_123_1 hS, lr_146_0 hS, lr_148_0 hS, lr_148_1 hS, lr_148_2 hS, lr_148_3 hS, lr_148_4 hS, lr_148_5 hS, lr_176_0 hS, lr_176_1 hS, lr_176_4 hS, lr_176_6 hS, lr_176_7 hS, lr_182_0 hS, lr_D_0 hS, lr_D_1 hS, lr_D_2 hS, lr_D_3 hS, lr_D_5 hS, lr_D_6 hS, lr_D_r hS, lr_31 hS, lr_32 hS, lr_G_2 hS, lr_G_3 hS, lr_G_4 hS, li_2 hS, li_3 hS, li_31 hS, li_32 hS, li_35 hS, li_36 hS, li_37 hS, li_88 hS, li_90 hS, li_91 hS, li_92 hS, li_93 hS, li_98 hS, li_99 hS, li_101 hS, li_122 hS, li_124 hS, li_145 hS, li_147 hS, li_149 hS, li_150 hS, li_151 hS, li_152 hS, li_169 hS, li_175 hS, li_177 hS, li_178 hS, li_179 hS, li_180 hS, li_181 hS, li_183 hS, li_265 hS, li_266 hS, li_267 hS, li_268 hS, li_269 hS, li_270 hS, li_271 hS, li_272 hS, li_273 hS, li_274 hS, li_275 hS, li_276 hS, li_38 hS, li_94 hS, li_102 hS, li_125 hS, li_153 hS, li_170 hS, li_D_1 hS, li_D_2 hS, li_D_3 hS, li_D_4 hS, li_D_5 hS, li_D_26 hS, li_D_r hS, li_G_1 hS, li_G_2 hS, li_G_3 hS, li_rA hS, li_rK hS, li_rX hS, il_0, il_1, il_2, il_3, il_4, il_5, il_6, il_7, il_8, il_9, il_10, il_11, il_12, il_13, il_15, il_16, il_17, il_18, il_19, il_20, il_21, il_22, il_23, il_24, il_26, il_27, il_28, il_30, il_32, il_34, il_36, il_38, il_40, il_43, il_44, il_46, il_47, il_48, il_49, il_50, il_51, il_60, il_64, il_100, il_108, il_111, il_127, il_971, il_972, il_999, il_1000, il_1024, il_1087, il_2500, il_5000, il_9999, il_60000, il_2147483647, nI_add, nI_mulI, nI_subI, nI_divI, nI_cl, nI_leJ, nI_ltJ, nI_eqJ, nI_neM, nI_neM', aw_sI_e, aw_sI_n, aw_sI_2, aw_sL_e, aw_sL_n, aw_sL_1, Option.bind_some, aw_chkT, ck_and0, ck_and1, bI_t, bI_f, nar_0, nar_1]
      rw [if_pos (by omega)]
      rw [hiN]
      try rfl
  | succ m ih =>
    intro i f hi hf
    cases f with
    | zero => omega
    | succ f =>
      have hlt : i < A 2 0 0 := by omega
      have w2 := hW.words
      have q1 := hs.1
      show f_X7_doubtfulWeight_B4 σ (f_X7_doubtfulWeight_L4 σ f k 100 3) k 100 3 (nI (sumR (fun w => if anyR (ahead A D w) (A 2 0 0) = true then A 5 0 w else 0) i)) (nI i) d = _
      simp (disch := first | assumption | omega) only [f_X7_doubtfulWeight_B4, q1, lo_0 hS, lo_1 hS, lo_33 hS, lo_34 hS, lo_89 hS, lo_100 hS, lo_123 hS, lo_146 hS, lo_148 hS, lo_176 hS, lo_182 hS, lo_D hS, lo_G hS, lr_37 hS, lr_93 hS, lr_101 hS, lr_124 hS, lr_152 hS, lr_169 hS, lr_0_0 hS, lr_0_1 hS, lr_0_2 hS, lr_0_3 hS, lr_0_5 hS, lr_0_6 hS, lr_0_7 hS, lr_0_8 hS, lr_0_9 hS, lr_0_10 hS, lr_0_11 hS, lr_0_12 hS, lr_1_0 hS, lr_1_2 hS, lr_33_0 hS, lr_33_1 hS, lr_33_2 hS, lr_33_3 hS, lr_34_0 hS, lr_89_0 hS, lr_89_1 hS, lr_89_2 hS, lr_89_3 hS, lr_89_4 hS, lr_89_5 hS, lr_100_0 hS, lr_100_1 hS, lr_123_0 hS, lr_123_1 hS, lr_146_0 hS, lr_148_0 hS, lr_148_1 hS, lr_148_2 hS, lr_148_3 hS, lr_148_4 hS, lr_148_5 hS, lr_176_0 hS, lr_176_1 hS, lr_176_4 hS, lr_176_6 hS, lr_176_7 hS, lr_182_0 hS, lr_D_0 hS, lr_D_1 hS, lr_D_2 hS, lr_D_3 hS, lr_D_5 hS, lr_D_6 hS, lr_D_r hS, lr_31 hS, lr_32 hS, lr_G_2 hS, lr_G_3 hS, lr_G_4 hS, li_2 hS, li_3 hS, li_31 hS, li_32 hS, li_35 hS, li_36 hS, li_37 hS, li_88 hS, li_90 hS, li_91 hS, li_92 hS, li_93 hS, li_98 hS, li_99 hS, li_101 hS, li_122 hS, li_124 hS, li_145 hS, li_147 hS, li_149 hS, li_150 hS, li_151 hS, li_152 hS, li_169 hS, li_175 hS, li_177 hS, li_178 hS, li_179 hS, li_180 hS, li_181 hS, li_183 hS, li_265 hS, li_266 hS, li_267 hS, li_268 hS, li_269 hS, li_270 hS, li_271 hS, li_272 hS, li_273 hS, li_274 hS, li_275 hS, li_276 hS, li_38 hS, li_94 hS, li_102 hS, li_125 hS, li_153 hS, li_170 hS, li_D_1 hS, li_D_2 hS, li_D_3 hS, li_D_4 hS, li_D_5 hS, li_D_26 hS, li_D_r hS, li_G_1 hS, li_G_2 hS, li_G_3 hS, li_rA hS, li_rK hS, li_rX hS, il_0, il_1, il_2, il_3, il_4, il_5, il_6, il_7, il_8, il_9, il_10, il_11, il_12, il_13, il_15, il_16, il_17, il_18, il_19, il_20, il_21, il_22, il_23, il_24, il_26, il_27, il_28, il_30, il_32, il_34, il_36, il_38, il_40, il_43, il_44, il_46, il_47, il_48, il_49, il_50, il_51, il_60, il_64, il_100, il_108, il_111, il_127, il_971, il_972, il_999, il_1000, il_1024, il_1087, il_2500, il_5000, il_9999, il_60000, il_2147483647, nI_add, nI_mulI, nI_subI, nI_divI, nI_cl, nI_leJ, nI_ltJ, nI_eqJ, nI_neM, nI_neM', aw_sI_e, aw_sI_n, aw_sI_2, aw_sL_e, aw_sL_n, aw_sL_1, Option.bind_some, aw_chkT, ck_and0, ck_and1, bI_t, bI_f, nar_0, nar_1]
      rw [if_neg (by omega)]
      have q4 := hwt _ (show i < 20 by omega)
      rw [← ih (i + 1) f (by omega) (by omega)]
      simp (disch := first | assumption | omega) only [f_X7_doubtfulWeight_J27, C_heavy hS hW hwt hD hs hlt, q4, bI_0, sumR, lo_0 hS, lo_1 hS, lo_33 hS, lo_34 hS, lo_89 hS, lo_100 hS, lo_123 hS, lo_146 hS, lo_148 hS, lo_176 hS, lo_182 hS, lo_D hS, lo_G hS, lr_37 hS, lr_93 hS, lr_101 hS, lr_124 hS, lr_152 hS, lr_169 hS, lr_0_0 hS, lr_0_1 hS, lr_0_2 hS, lr_0_3 hS, lr_0_5 hS, lr_0_6 hS, lr_0_7 hS, lr_0_8 hS, lr_0_9 hS, lr_0_10 hS, lr_0_11 hS, lr_0_12 hS, lr_1_0 hS, lr_1_2 hS, lr_33_0 hS, lr_33_1 hS, lr_33_2 hS, lr_33_3 hS, lr_34_0 hS, lr_89_0 hS, lr_89_1 hS, lr_89_2 hS, lr_89_3 hS, lr_89_4 hS, lr_89_5 hS, lr_100_0 hS, lr_100_1 hS, lr_123_0 hS, lr_123_1 hS, lr_146_0 hS, lr_148_0 hS, lr_148_1 hS, lr_148_2 hS, lr_148_3 hS, lr_148_4 hS, lr_148_5 hS, lr_176_0 hS, lr_176_1 hS, lr_176_4 hS, lr_176_6 hS, lr_176_7 hS, lr_182_0 hS, lr_D_0 hS, lr_D_1 hS, lr_D_2 hS, lr_D_3 hS, lr_D_5 hS, lr_D_6 hS, lr_D_r hS, lr_31 hS, lr_32 hS, lr_G_2 hS, lr_G_3 hS, lr_G_4 hS, li_2 hS, li_3 hS, li_31 hS, li_32 hS, li_35 hS, li_36 hS, li_37 hS, li_88 hS, li_90 hS, li_91 hS, li_92 hS, li_93 hS, li_98 hS, li_99 hS, li_101 hS, li_122 hS, li_124 hS, li_145 hS, li_147 hS, li_149 hS, li_150 hS, li_151 hS, li_152 hS, li_169 hS, li_175 hS, li_177 hS, li_178 hS, li_179 hS, li_180 hS, li_181 hS, li_183 hS, li_265 hS, li_266 hS, li_267 hS, li_268 hS, li_269 hS, li_270 hS, li_271 hS, li_272 hS, li_273 hS, li_274 hS, li_275 hS, li_276 hS, li_38 hS, li_94 hS, li_102 hS, li_125 hS, li_153 hS, li_170 hS, li_D_1 hS, li_D_2 hS, li_D_3 hS, li_D_4 hS, li_D_5 hS, li_D_26 hS, li_D_r hS, li_G_1 hS, li_G_2 hS, li_G_3 hS, li_rA hS, li_rK hS, li_rX hS, il_0, il_1, il_2, il_3, il_4, il_5, il_6, il_7, il_8, il_9, il_10, il_11, il_12, il_13, il_15, il_16, il_17, il_18, il_19, il_20, il_21, il_22, il_23, il_24, il_26, il_27, il_28, il_30, il_32, il_34, il_36, il_38, il_40, il_43, il_44, il_46, il_47, il_48, il_49, il_50, il_51, il_60, il_64, il_100, il_108, il_111, il_127, il_971, il_972, il_999, il_1000, il_1024, il_1087, il_2500, il_5000, il_9999, il_60000, il_2147483647, nI_add, nI_mulI, nI_subI, nI_divI, nI_cl, nI_leJ, nI_ltJ, nI_eqJ, nI_neM, nI_neM', aw_sI_e, aw_sI_n, aw_sI_2, aw_sL_e, aw_sL_n, aw_sL_1, Option.bind_some, aw_chkT, ck_and0, ck_and1, bI_t, bI_f, nar_0, nar_1]
      cases hA : anyR (ahead A D i) (A 2 0 0)
      · simp only [Bool.not_false, Bool.true_eq_false, Bool.false_eq_true, if_false, Nat.add_zero]
      · simp only [Bool.not_true, if_true]

theorem C_dw {A : St} {σ : Sg} {d : Dt} {D : Nat} (hS : Lay σ) (hW : WF A) (hwt : ∀ w, w < 20 → d.1 3 w = nI (A 5 0 w)) (hD : D < A 11 0 0) (hs : Spc A D (A 13 0 D) 100 d) : f_X7_doubtfulWeight σ 100 3 d = some (nI (loadS A D), d) := by
  have h := C_dw_L4 (k := fun x d => some (x, d)) hS hW hwt hD hs (A 2 0 0) 0 aw_FU (by omega) (by show _ < 5000; have := hW.words; omega)
  exact h
/-- a question to the class -/
def QX (d : Dt) (r : Nat ⊕ Int32) (z : (Nat ⊕ Int32) × Dt) : Prop := z.1 = r ∧ FrK d z.2
theorem wrapQ {c : Nat → Nat} {A : St} {d : Dt} {v : Int32} {f : Option ((Nat ⊕ Int32) × Dt)} (hC : RepC A d) (h20 : A 2 0 0 ≤ 20) (h : ok f (QX d (Sum.inr v))) : ok f (PX c d (0, v, A)) := by
  obtain ⟨z, hz, h1, h2⟩ := h
  exact ⟨z, hz, h1, hC.frK h20 h2, h2.c⟩
theorem wrapT {c : Nat → Nat} {A : St} {d : Dt} {t e : Nat} {f : Option ((Nat ⊕ Int32) × Dt)} (he : PXr c (t, nI 0, A) = Sum.inl e) (hC : RepC A d) (h20 : A 2 0 0 ≤ 20) (h : ok f (QX d (Sum.inl e))) : ok f (PX c d (t, nI 0, A)) := by
  obtain ⟨z, hz, h1, h2⟩ := h
  exact ⟨z, hz, h1.trans he.symm, hC.frK h20 h2, h2.c⟩
