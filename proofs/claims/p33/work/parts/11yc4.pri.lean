/-! the quick primer as the law finds it -/
theorem allS_any (A : St) (D s : Nat) : anyR (fun w => (hasW A D w).testBit s) (A 2 0 0) = (allS A D).testBit s := by
  rw [Bool.eq_iff_iff, anyR_iff, allS_bit]
theorem P_L51 {A : St} {σ : Sg} {d : Dt} {D x : Nat} (hS : Lay σ) (hW : WF A) (hQ : RepQ A d) (hD : D < A 11 0 0) (hx : x = 275 ∨ x = 276) (hsp : Spx A D (A 13 0 D) x d) {L s : Nat} (hL : L < 9223372036854775808) (hs : s < 50) {x4 x7 x8 x10 x11 x12 : Int32} {k : Int32 → Int32 → Dt → Option (Int32 × Dt)} : ∀ (m i f : Nat), i + m = A 2 0 0 → m < f → f_L_isPrimer_L51 σ f k 0 x 266 274 x4 (nL L) x7 x8 x10 x11 x12 (nI s) (bI (anyR (fun w => (hasW A D w).testBit s) i)) (nI (sumR (fun w => if ((hasW A D w).testBit s && !sub (hasW A D w) L) = true then A 5 0 w else 0) i)) (nI i) d = k (bI ((allS A D).testBit s)) (nI (unS A D L s)) d := by
  have hw6 := hQ.w6
  have qn := rq_words hQ
  intro m
  induction m with
  | zero =>
    intro i f hi hf
    cases f with
    | zero => omega
    | succ f =>
      have hiN : i = A 2 0 0 := by omega
      show f_L_isPrimer_B51 σ (f_L_isPrimer_L51 σ f k 0 x 266 274 x4 (nL L) x7 x8 x10 x11 x12 (nI s)) k 0 x 266 274 x4 (nL L) x7 x8 x10 x11 x12 (nI s) (bI (anyR (fun w => (hasW A D w).testBit s) i)) (nI (sumR (fun w => if ((hasW A D w).testBit s && !sub (hasW A D w) L) = true then A 5 0 w else 0) i)) (nI i) d = _
      simp (disch := first | assumption | omega) only [f_L_isPrimer_B51, qn, lo_0 hS, lo_1 hS, lo_33 hS, lo_34 hS, lo_89 hS, lo_100 hS, lo_123 hS, lo_146 hS, lo_148 hS, lo_176 hS, lo_182 hS, lo_D hS, lo_G hS, lr_37 hS, lr_93 hS, lr_101 hS, lr_124 hS, lr_152 hS, lr_169 hS, lr_0_0 hS, lr_0_1 hS, lr_0_2 hS, lr_0_3 hS, lr_0_5 hS, lr_0_6 hS, lr_0_7 hS, lr_0_8 hS, lr_0_9 hS, lr_0_10 hS, lr_0_11 hS, lr_0_12 hS, lr_1_0 hS, lr_1_2 hS, lr_33_0 hS, lr_33_1 hS, lr_33_2 hS, lr_33_3 hS, lr_34_0 hS, lr_89_0 hS, lr_89_1 hS, lr_89_2 hS, lr_89_3 hS, lr_89_4 hS, lr_89_5 hS, lr_100_0 hS, lr_100_1 hS, lr_123_0 hS, lr_123_1 hS, lr_146_0 hS, lr_148_0 hS, lr_148_1 hS, lr_148_2 hS, lr_148_3 hS, lr_148_4 hS, lr_148_5 hS, lr_176_0 hS, lr_176_1 hS, lr_176_4 hS, lr_176_6 hS, lr_176_7 hS, lr_182_0 hS, lr_D_0 hS, lr_D_1 hS, lr_D_2 hS, lr_D_3 hS, lr_D_5 hS, lr_D_6 hS, lr_D_r hS, lr_31 hS, lr_32 hS, lr_G_2 hS, lr_G_3 hS, lr_G_4 hS, li_2 hS, li_3 hS, li_31 hS, li_32 hS, li_35 hS, li_36 hS, li_37 hS, li_88 hS, li_90 hS, li_91 hS, li_92 hS, li_93 hS, li_98 hS, li_99 hS, li_101 hS, li_122 hS, li_124 hS, li_145 hS, li_147 hS, li_149 hS, li_150 hS, li_151 hS, li_152 hS, li_169 hS, li_175 hS, li_177 hS, li_178 hS, li_179 hS, li_180 hS, li_181 hS, li_183 hS, li_265 hS, li_266 hS, li_267 hS, li_268 hS, li_269 hS, li_270 hS, li_271 hS, li_272 hS, li_273 hS, li_274 hS, li_275 hS, li_276 hS, li_38 hS, li_94 hS, li_102 hS, li_125 hS, li_153 hS, li_170 hS, li_D_1 hS, li_D_2 hS, li_D_3 hS, li_D_4 hS, li_D_5 hS, li_D_26 hS, li_D_r hS, li_G_1 hS, li_G_2 hS, li_G_3 hS, li_rA hS, li_rK hS, li_rX hS, il_0, il_1, il_2, il_3, il_4, il_5, il_6, il_7, il_8, il_9, il_10, il_11, il_12, il_13, il_15, il_16, il_17, il_18, il_19, il_20, il_21, il_22, il_23, il_24, il_26, il_27, il_28, il_30, il_32, il_34, il_36, il_38, il_40, il_43, il_44, il_46, il_47, il_48, il_49, il_50, il_51, il_60, il_64, il_100, il_108, il_111, il_127, il_971, il_972, il_999, il_1000, il_1024, il_1087, il_2500, il_5000, il_9999, il_60000, il_2147483647, nI_add, nI_mulI, nI_subI, nI_divI, nI_cl, nI_leJ, nI_ltJ, nI_eqJ, nI_neM, nI_neM', il_31, aw_sI_e, aw_sI_n, aw_sI_2, aw_sL_e, aw_sL_n, aw_sL_1, Option.bind_some, aw_chkT, ck_and0, ck_and1, bI_t, bI_f, nar_0, nar_1]
      rw [if_pos (by omega)]
      rw [hiN, allS_any]
      rfl
  | succ m ih =>
    intro i f hi hf
    cases f with
    | zero => omega
    | succ f =>
      have hlt : i < A 2 0 0 := by omega
      have hwr := own_wrd hW hD hlt
      have es : sp A D (A 13 0 D) i = own A D i := rfl
      have hh := L_hasSign (mm := 0) hS hx (show i < 6 by omega) (hsp i hlt) hwr (by omega) hs
      have ha := L_hasAll (mm := L) hS hx (show i < 6 by omega) (hsp i hlt) hwr hL
      rw [es, has_bit] at hh
      rw [es, all_sub] at ha
      rw [← jl_0] at hh
      have qw := rq_wt hQ hlt
      have e1 : anyR (fun w => (hasW A D w).testBit s) (i + 1) = (anyR (fun w => (hasW A D w).testBit s) i || (hasW A D i).testBit s) := rfl
      have e2 : sumR (fun w => if ((hasW A D w).testBit s && !sub (hasW A D w) L) = true then A 5 0 w else 0) (i + 1) = sumR (fun w => if ((hasW A D w).testBit s && !sub (hasW A D w) L) = true then A 5 0 w else 0) i + (if ((hasW A D i).testBit s && !sub (hasW A D i) L) = true then A 5 0 i else 0) := rfl
      rw [← ih (i + 1) f (by omega) (by omega), e1, e2]
      show f_L_isPrimer_B51 σ (f_L_isPrimer_L51 σ f k 0 x 266 274 x4 (nL L) x7 x8 x10 x11 x12 (nI s)) k 0 x 266 274 x4 (nL L) x7 x8 x10 x11 x12 (nI s) (bI (anyR (fun w => (hasW A D w).testBit s) i)) (nI (sumR (fun w => if ((hasW A D w).testBit s && !sub (hasW A D w) L) = true then A 5 0 w else 0) i)) (nI i) d = _
      simp (disch := first | assumption | omega) only [f_L_isPrimer_B51, qn, hh, lo_0 hS, lo_1 hS, lo_33 hS, lo_34 hS, lo_89 hS, lo_100 hS, lo_123 hS, lo_146 hS, lo_148 hS, lo_176 hS, lo_182 hS, lo_D hS, lo_G hS, lr_37 hS, lr_93 hS, lr_101 hS, lr_124 hS, lr_152 hS, lr_169 hS, lr_0_0 hS, lr_0_1 hS, lr_0_2 hS, lr_0_3 hS, lr_0_5 hS, lr_0_6 hS, lr_0_7 hS, lr_0_8 hS, lr_0_9 hS, lr_0_10 hS, lr_0_11 hS, lr_0_12 hS, lr_1_0 hS, lr_1_2 hS, lr_33_0 hS, lr_33_1 hS, lr_33_2 hS, lr_33_3 hS, lr_34_0 hS, lr_89_0 hS, lr_89_1 hS, lr_89_2 hS, lr_89_3 hS, lr_89_4 hS, lr_89_5 hS, lr_100_0 hS, lr_100_1 hS, lr_123_0 hS, lr_123_1 hS, lr_146_0 hS, lr_148_0 hS, lr_148_1 hS, lr_148_2 hS, lr_148_3 hS, lr_148_4 hS, lr_148_5 hS, lr_176_0 hS, lr_176_1 hS, lr_176_4 hS, lr_176_6 hS, lr_176_7 hS, lr_182_0 hS, lr_D_0 hS, lr_D_1 hS, lr_D_2 hS, lr_D_3 hS, lr_D_5 hS, lr_D_6 hS, lr_D_r hS, lr_31 hS, lr_32 hS, lr_G_2 hS, lr_G_3 hS, lr_G_4 hS, li_2 hS, li_3 hS, li_31 hS, li_32 hS, li_35 hS, li_36 hS, li_37 hS, li_88 hS, li_90 hS, li_91 hS, li_92 hS, li_93 hS, li_98 hS, li_99 hS, li_101 hS, li_122 hS, li_124 hS, li_145 hS, li_147 hS, li_149 hS, li_150 hS, li_151 hS, li_152 hS, li_169 hS, li_175 hS, li_177 hS, li_178 hS, li_179 hS, li_180 hS, li_181 hS, li_183 hS, li_265 hS, li_266 hS, li_267 hS, li_268 hS, li_269 hS, li_270 hS, li_271 hS, li_272 hS, li_273 hS, li_274 hS, li_275 hS, li_276 hS, li_38 hS, li_94 hS, li_102 hS, li_125 hS, li_153 hS, li_170 hS, li_D_1 hS, li_D_2 hS, li_D_3 hS, li_D_4 hS, li_D_5 hS, li_D_26 hS, li_D_r hS, li_G_1 hS, li_G_2 hS, li_G_3 hS, li_rA hS, li_rK hS, li_rX hS, il_0, il_1, il_2, il_3, il_4, il_5, il_6, il_7, il_8, il_9, il_10, il_11, il_12, il_13, il_15, il_16, il_17, il_18, il_19, il_20, il_21, il_22, il_23, il_24, il_26, il_27, il_28, il_30, il_32, il_34, il_36, il_38, il_40, il_43, il_44, il_46, il_47, il_48, il_49, il_50, il_51, il_60, il_64, il_100, il_108, il_111, il_127, il_971, il_972, il_999, il_1000, il_1024, il_1087, il_2500, il_5000, il_9999, il_60000, il_2147483647, nI_add, nI_mulI, nI_subI, nI_divI, nI_cl, nI_leJ, nI_ltJ, nI_eqJ, nI_neM, nI_neM', il_31, aw_sI_e, aw_sI_n, aw_sI_2, aw_sL_e, aw_sL_n, aw_sL_1, Option.bind_some, aw_chkT, ck_and0, ck_and1, bI_t, bI_f, nar_0, nar_1]
      rw [if_neg (by omega)]
      generalize anyR (fun w => (hasW A D w).testBit s) i = b1
      generalize (hasW A D i).testBit s = b2
      generalize sub (hasW A D i) L = b3 at ha ⊢
      have hw14 : 8 + i < 64 := by omega
      cases b1 <;> cases b2 <;> cases b3 <;> simp (disch := first | assumption | omega) [f_L_isPrimer_J85, f_L_isPrimer_J80, f_L_isPrimer_J116, f_L_isPrimer_J117, ha, qw, ↓reduceIte, Nat.reduceEqDiff, Nat.one_ne_zero, if_true, if_false, nno, NO_n, NO_n2, NO_lt, NO_le, NO_lt2, NO_le2, lo_0 hS, lo_1 hS, lo_33 hS, lo_34 hS, lo_89 hS, lo_100 hS, lo_123 hS, lo_146 hS, lo_148 hS, lo_176 hS, lo_182 hS, lo_D hS, lo_G hS, lr_37 hS, lr_93 hS, lr_101 hS, lr_124 hS, lr_152 hS, lr_169 hS, lr_0_0 hS, lr_0_1 hS, lr_0_2 hS, lr_0_3 hS, lr_0_5 hS, lr_0_6 hS, lr_0_7 hS, lr_0_8 hS, lr_0_9 hS, lr_0_10 hS, lr_0_11 hS, lr_0_12 hS, lr_1_0 hS, lr_1_2 hS, lr_33_0 hS, lr_33_1 hS, lr_33_2 hS, lr_33_3 hS, lr_34_0 hS, lr_89_0 hS, lr_89_1 hS, lr_89_2 hS, lr_89_3 hS, lr_89_4 hS, lr_89_5 hS, lr_100_0 hS, lr_100_1 hS, lr_123_0 hS, lr_123_1 hS, lr_146_0 hS, lr_148_0 hS, lr_148_1 hS, lr_148_2 hS, lr_148_3 hS, lr_148_4 hS, lr_148_5 hS, lr_176_0 hS, lr_176_1 hS, lr_176_4 hS, lr_176_6 hS, lr_176_7 hS, lr_182_0 hS, lr_D_0 hS, lr_D_1 hS, lr_D_2 hS, lr_D_3 hS, lr_D_5 hS, lr_D_6 hS, lr_D_r hS, lr_31 hS, lr_32 hS, lr_G_2 hS, lr_G_3 hS, lr_G_4 hS, li_2 hS, li_3 hS, li_31 hS, li_32 hS, li_35 hS, li_36 hS, li_37 hS, li_88 hS, li_90 hS, li_91 hS, li_92 hS, li_93 hS, li_98 hS, li_99 hS, li_101 hS, li_122 hS, li_124 hS, li_145 hS, li_147 hS, li_149 hS, li_150 hS, li_151 hS, li_152 hS, li_169 hS, li_175 hS, li_177 hS, li_178 hS, li_179 hS, li_180 hS, li_181 hS, li_183 hS, li_265 hS, li_266 hS, li_267 hS, li_268 hS, li_269 hS, li_270 hS, li_271 hS, li_272 hS, li_273 hS, li_274 hS, li_275 hS, li_276 hS, li_38 hS, li_94 hS, li_102 hS, li_125 hS, li_153 hS, li_170 hS, li_D_1 hS, li_D_2 hS, li_D_3 hS, li_D_4 hS, li_D_5 hS, li_D_26 hS, li_D_r hS, li_G_1 hS, li_G_2 hS, li_G_3 hS, li_rA hS, li_rK hS, li_rX hS, il_0, il_1, il_2, il_3, il_4, il_5, il_6, il_7, il_8, il_9, il_10, il_11, il_12, il_13, il_15, il_16, il_17, il_18, il_19, il_20, il_21, il_22, il_23, il_24, il_26, il_27, il_28, il_30, il_32, il_34, il_36, il_38, il_40, il_43, il_44, il_46, il_47, il_48, il_49, il_50, il_51, il_60, il_64, il_100, il_108, il_111, il_127, il_971, il_972, il_999, il_1000, il_1024, il_1087, il_2500, il_5000, il_9999, il_60000, il_2147483647, nI_add, nI_mulI, nI_subI, nI_divI, nI_cl, nI_leJ, nI_ltJ, nI_eqJ, nI_neM, nI_neM', il_31, aw_sI_e, aw_sI_n, aw_sI_2, aw_sL_e, aw_sL_n, aw_sL_1, Option.bind_some, aw_chkT, ck_and0, ck_and1, bI_t, bI_f, nar_0, nar_1]

theorem dI_m (s : Nat) : nI s + NO = dI s := by unfold dI; rw [Int32.sub_eq_add_neg]; rfl
theorem dI_50 : nI 49 = dI 50 := rfl
theorem dI_neg {q : Nat} (h : q < 2147483648) : (dI q < nI 0) = (q = 0) := dI_lt0 q h
theorem P_L37 {A : St} {σ : Sg} {d : Dt} {D x : Nat} (hS : Lay σ) (hW : WF A) (hQ : RepQ A d) (hD : D < A 11 0 0) (hx : x = 275 ∨ x = 276) (hsp : Spx A D (A 13 0 D) x d) {L : Nat} (hL : L < L50) {x4 x7 x8 : Int32} {k : Int32 → Int32 → Dt → Option (Int32 × Dt)} : ∀ (m i f : Nat), i + m = 50 → m < f → f_L_isPrimer_L37 σ f k 0 x 266 274 x4 (nL L) x7 x8 (dI (lwK A D L i).1) (nI (lwK A D L i).2.1) (nI (lwK A D L i).2.2) (dI (50 - i)) d = k (dI (bst A D L).1) (nI (bst A D L).2.1) d := by
  intro m
  induction m with
  | zero =>
    intro i f hi hf
    cases f with
    | zero => omega
    | succ f =>
      obtain rfl : i = 50 := by omega
      show f_L_isPrimer_B37 σ (f_L_isPrimer_L37 σ f k 0 x 266 274 x4 (nL L) x7 x8) k 0 x 266 274 x4 (nL L) x7 x8 (dI (lwK A D L 50).1) (nI (lwK A D L 50).2.1) (nI (lwK A D L 50).2.2) (dI 0) d = _
      unfold f_L_isPrimer_B37
      rw [if_pos (show dI 0 < 0 by decide), lwK_bst]
  | succ m ih =>
    intro i f hi hf
    cases f with
    | zero => omega
    | succ f =>
      have e49 : dI (50 - i) = nI (49 - i) := by rw [dI_s _ (by omega)]; congr 1; omega
      have e50 : dI (50 - (i + 1)) = dI (49 - i) := by congr 1; omega
      have es : lwK A D L (i + 1) = lwI A D L (lwK A D L i) (49 - i) := rfl
      have hle := lwK_le hW D L i (by omega)
      rw [← ih (i + 1) f (by omega) (by omega), es, e50]
      generalize hs : 49 - i = s at *
      have hs50 : s < 50 := by omega
      have hL63 := L50_63 hL
      have hLs : L ||| 2 ^ s < 9223372036854775808 := L50_63 (or50 hL (pow50 hs50))
      show f_L_isPrimer_B37 σ (f_L_isPrimer_L37 σ f k 0 x 266 274 x4 (nL L) x7 x8) k 0 x 266 274 x4 (nL L) x7 x8 (dI (lwK A D L i).1) (nI (lwK A D L i).2.1) (nI (lwK A D L i).2.2) (dI (50 - i)) d = _
      rw [e49]
      generalize lwK A D L i = acc at hle ⊢
      obtain ⟨a, r, u⟩ := acc
      dsimp only at hle ⊢
      have hrd := rdW_le hW D (L ||| 2 ^ s)
      have hun := unS_le hW D L s
      have hlow : ¬ nI s < nI 0 := by rw [nI_ltJ (by omega) (by omega)]; omega
      unfold f_L_isPrimer_B37
      rw [if_neg (by rw [il_0]; exact hlow)]
      have h51 := fun kk => P_L51 (f := aw_FU) hS hW hQ hD hx hsp hL63 hs50 (x4 := x4) (x7 := x7) (x8 := x8) (x10 := dI a) (x11 := nI r) (x12 := nI u) (k := kk) (A 2 0 0) 0 (by omega) (by have := hQ.w6; show _ < 5000; omega)
      have e0 : ∀ g : Nat → Nat, sumR g 0 = 0 := fun _ => rfl
      simp only [anyR0, e0] at h51
      rw [il_0, h51]
      have hJ : ∀ b : Bool, f_L_isPrimer_J189 σ (f_L_isPrimer_L37 σ f k 0 x 266 274 x4 (nL L) x7 x8) (bI b) 0 x 266 274 x4 (nL L) x7 x8 (dI a) (nI r) (nI u) (nI s) (nI (unS A D L s)) (nI (rdW A D (L ||| 2 ^ s))) d = f_L_isPrimer_L37 σ f k 0 x 266 274 x4 (nL L) x7 x8 (dI (if b = true then (s + 1, rdW A D (L ||| 2 ^ s), unS A D L s) else (a, r, u)).1) (nI (if b = true then (s + 1, rdW A D (L ||| 2 ^ s), unS A D L s) else (a, r, u)).2.1) (nI (if b = true then (s + 1, rdW A D (L ||| 2 ^ s), unS A D L s) else (a, r, u)).2.2) (dI s) d := by
        intro b
        have es1 : nI s = dI (s + 1) := (dI_s (s + 1) (by omega)).symm
        cases b <;> simp (disch := first | assumption | omega) only [f_L_isPrimer_J189, f_L_isPrimer_J203, f_L_isPrimer_J217, f_L_isPrimer_J231, f_L_isPrimer_J233, dI_m, ↓reduceIte, Nat.reduceEqDiff, Nat.one_ne_zero, if_true, if_false, nno, NO_n, NO_n2, NO_lt, NO_le, NO_lt2, NO_le2, il_0, il_1, il_2, il_3, il_4, il_5, il_6, il_7, il_8, il_9, il_10, il_11, il_12, il_13, il_15, il_16, il_17, il_18, il_19, il_20, il_21, il_22, il_23, il_24, il_26, il_27, il_28, il_30, il_32, il_34, il_36, il_38, il_40, il_43, il_44, il_46, il_47, il_48, il_49, il_50, il_51, il_60, il_64, il_100, il_108, il_111, il_127, il_971, il_972, il_999, il_1000, il_1024, il_1087, il_2500, il_5000, il_9999, il_60000, il_2147483647, nI_add, nI_mulI, nI_subI, nI_divI, nI_cl, nI_leJ, nI_ltJ, nI_eqJ, nI_neM, nI_neM', il_31, aw_sI_e, aw_sI_n, aw_sI_2, aw_sL_e, aw_sL_n, aw_sL_1, Option.bind_some, aw_chkT, ck_and0, ck_and1, bI_t, bI_f, nar_0, nar_1]
        · rfl
        · rw [es1]
      unfold lwI
      rw [if_bI]
      cases hA : (allS A D).testBit s
      · rw [if_neg (by decide), Bool.false_and, if_neg (by decide)]
        simp (disch := first | assumption | omega) only [f_L_isPrimer_J233, dI_m, nno, NO_n, NO_n2, NO_lt, NO_le, NO_lt2, NO_le2, il_0, il_1, il_2, il_3, il_4, il_5, il_6, il_7, il_8, il_9, il_10, il_11, il_12, il_13, il_15, il_16, il_17, il_18, il_19, il_20, il_21, il_22, il_23, il_24, il_26, il_27, il_28, il_30, il_32, il_34, il_36, il_38, il_40, il_43, il_44, il_46, il_47, il_48, il_49, il_50, il_51, il_60, il_64, il_100, il_108, il_111, il_127, il_971, il_972, il_999, il_1000, il_1024, il_1087, il_2500, il_5000, il_9999, il_60000, il_2147483647, nI_add, nI_mulI, nI_subI, nI_divI, nI_cl, nI_leJ, nI_ltJ, nI_eqJ, nI_neM, nI_neM', il_31]
      · rw [if_pos rfl, Bool.true_and]
        have hh := nL_has (m := L) (s := s) hL63 (by omega)
        have hb1 := nL_b1 (s := s) (by omega)
        have hr := L_read (mm := L ||| 2 ^ s) hS hW hQ hD hx hsp hLs
        simp (disch := first | assumption | omega) only [nI_L (show s < 2147483648 by omega), jl_63, jl_1, jl_0, hh, hb1, nL_orL, lgc0, nL_eqJ (bitlt L s) (show 0 < 9223372036854775808 by omega)]
        cases hB : L.testBit s
        · rw [if_pos (by decide)]
          simp only [hr, Option.bind_some, Bool.not_false, if_true]
          have g1 := hJ true
          have g0 := hJ false
          simp only [if_true, Bool.false_eq_true, if_false, bI_t, bI_f] at g1 g0
          unfold f_L_isPrimer_J184 f_L_isPrimer_J188
          simp (disch := first | assumption | omega) only [dI_neg, g1, g0, il_0, il_1, il_2, il_3, il_4, il_5, il_6, il_7, il_8, il_9, il_10, il_11, il_12, il_13, il_15, il_16, il_17, il_18, il_19, il_20, il_21, il_22, il_23, il_24, il_26, il_27, il_28, il_30, il_32, il_34, il_36, il_38, il_40, il_43, il_44, il_46, il_47, il_48, il_49, il_50, il_51, il_60, il_64, il_100, il_108, il_111, il_127, il_971, il_972, il_999, il_1000, il_1024, il_1087, il_2500, il_5000, il_9999, il_60000, il_2147483647, nI_add, nI_mulI, nI_subI, nI_divI, nI_cl, nI_leJ, nI_ltJ, nI_eqJ, nI_neM, nI_neM', il_31]
          unfold lwC
          dsimp only
          by_cases c1 : a = 0
          · rw [if_pos c1, decide_eq_true c1, Bool.true_or, Bool.true_or, if_pos rfl]
          · rw [if_neg c1, decide_eq_false c1, Bool.false_or]
            by_cases c2 : r < rdW A D (L ||| 2 ^ s)
            · rw [if_pos c2, decide_eq_true c2, Bool.true_or, if_pos rfl]
            · rw [if_neg c2, decide_eq_false c2, Bool.false_or]
              by_cases c3 : rdW A D (L ||| 2 ^ s) = r
              · rw [if_pos c3, decide_eq_true c3, Bool.true_and]
                by_cases c4 : unS A D L s < u
                · rw [if_pos c4, decide_eq_false (by omega), if_neg (by decide)]
                · rw [if_neg c4, decide_eq_true (by omega), if_pos rfl]
              · rw [if_neg c3, decide_eq_false c3, Bool.false_and, if_neg (by decide)]
        · rw [if_neg (by decide), Bool.not_true, if_neg (by decide)]
          simp (disch := first | assumption | omega) only [f_L_isPrimer_J233, dI_m, nno, NO_n, NO_n2, NO_lt, NO_le, NO_lt2, NO_le2, il_0, il_1, il_2, il_3, il_4, il_5, il_6, il_7, il_8, il_9, il_10, il_11, il_12, il_13, il_15, il_16, il_17, il_18, il_19, il_20, il_21, il_22, il_23, il_24, il_26, il_27, il_28, il_30, il_32, il_34, il_36, il_38, il_40, il_43, il_44, il_46, il_47, il_48, il_49, il_50, il_51, il_60, il_64, il_100, il_108, il_111, il_127, il_971, il_972, il_999, il_1000, il_1024, il_1087, il_2500, il_5000, il_9999, il_60000, il_2147483647, nI_add, nI_mulI, nI_subI, nI_divI, nI_cl, nI_leJ, nI_ltJ, nI_eqJ, nI_neM, nI_neM', il_31]
theorem o_primer_is {A : St} {D n : Nat} (hD : D < A 11 0 0) (h5 : A 11 0 0 ≤ 5) (hn : n < 2147483648) : o_primer A (nI D) (nI n) = (0, (if n < (usL (allS A D)).length then nI (pick A D n) else NO), A) := by
  unfold o_primer
  have e1 : ix (nI D) (A 11 0 0) = true := ix_t hD (by omega)
  have e2 : ¬ nI n < nI 0 := by rw [nI_ltJ hn (by omega)]; omega
  rw [if_pos ⟨e1, e2⟩, nI_cl hn, nI_cl (by omega)]
theorem o_cost_is {A : St} {D : Nat} (hW : WF A) (hD : D < A 11 0 0) (h5 : A 11 0 0 ≤ 5) : o_cost A (nI D) = (0, nI (costN A D (usL (allS A D)).length), A) := by
  unfold o_cost
  rw [if_pos (ix_t hD (by omega)), nI_cl (by omega), costI_N hW]
theorem dv_least {A : St} {D : Nat} (hD : D < A 11 0 0) (h5 : A 11 0 0 ≤ 5) : dvI (PXr cc_L (o_leastCost A (nI D))) = (if 10 < (usL (allS A D)).length then -1000000 else nI (lcA A D)) ∧ (o_leastCost A (nI D)).2.2 = A := by
  unfold o_leastCost
  rw [if_neg (by rw [ix_t hD (by omega)]; decide), nI_cl (by omega)]
  split <;> exact ⟨rfl, rfl⟩
theorem P_J301 {A : St} {σ : Sg} {d : Dt} {D : Nat} (hS : Lay σ) (hn : ly_n σ = A 11 0 0) (hW : WF A) (hC : RepC A d) (hD : D < A 11 0 0) : ok (f_L_isPrimer_J301 σ 0 (nI D) (nI (usL (allS A D)).length) (nI (costN A D (usL (allS A D)).length)) (nI 1) d) (fun z => z.1 = nI 1 ∧ RepC A z.2 ∧ FrC d z.2) := by
  have h5 := hW.des
  have hN := usL_len (allS A D)
  have hcl := costN_le hW D _ hN
  have hdv := dv_least hD h5
  have h10 := lcA_le hW D
  have h1 := lcA_1 (D := D) hW
  unfold f_L_isPrimer_J301
  refine ok_bind (D_leastCost hS hn hW hC (nI D) 0 0 0 0) (fun z hz => ?_)
  obtain ⟨z1, z2, z3⟩ := hz
  rw [hdv.2] at z2
  rw [hdv.1] at z1
  rw [if_neg (by decide)]
  refine ok_chk (ly_O hS (by decide) (by decide)) ?_
  have hc := C_cost hS hn hW z2 (nI D)
  rw [o_cost_is hW hD h5] at hc
  refine nt_of hc (fun y y1 y2 => ?_)
  rw [if_pos rfl]
  have F := z3.tr y2
  have fin : ok (f_L_isPrimer_J373 σ y.2) (fun z => z.1 = nI 1 ∧ RepC A z.2 ∧ FrC d z.2) := ok_some ⟨rfl, y1, F⟩
  by_cases c10 : 10 < (usL (allS A D)).length
  · rw [if_pos c10] at z1
    rw [if_neg (by rw [il_10, nI_leJ (by omega) (by omega)]; omega), if_pos z1]
    exact fin
  · rw [if_neg c10] at z1
    rw [if_pos (by rw [il_10, nI_leJ (by omega) (by omega)]; omega), z1, if_neg (by rw [il_0, nI_ltJ (by omega) (by omega)]; omega), if_neg (by rw [nI_ltJ (by omega) (by omega)]; omega)]
    by_cases c1 : (usL (allS A D)).length ≤ 1
    · rw [if_neg (by rw [il_1, nI_ltJ (by omega) (by omega)]; omega), if_pos (by rw [h1 c1])]
      exact fin
    · rw [if_pos (by rw [il_1, nI_ltJ (by omega) (by omega)]; omega)]
      exact fin
theorem P_L12 {A : St} {σ : Sg} {d0 : Dt} {D x : Nat} (hS : Lay σ) (hn : ly_n σ = A 11 0 0) (hW : WF A) (hL0 : RepL A d0) (hD : D < A 11 0 0) (hx : x = 275 ∨ x = 276) (hsp0 : Spx A D (A 13 0 D) x d0) {k : Int32 → Int32 → Int32 → Dt → Option (Int32 × Dt)} : ∀ (m n f : Nat) (d : Dt), n + m = (usL (allS A D)).length → m < f → RepC A d → FrC d0 d → ok (f_L_isPrimer_L12 σ f k 0 x 266 274 (nI D) (nL (lrn A D n)) (nI n) (nI (costN A D n)) (nI 1) d) (fun z => z.1 = nI 1 ∧ RepC A z.2 ∧ FrC d0 z.2) := by
  have h5 := hW.des
  have hN := usL_len (allS A D)
  intro m
  induction m with
  | zero =>
    intro n f d hi hf hC F
    cases f with
    | zero => omega
    | succ f =>
      have hl50 := (lrn_is (D := D) hW n (by omega)).2.1
      have hsp : Spx A D (A 13 0 D) x d := hsp0.e (F x (by omega) (by omega)).2
      show ok (f_L_isPrimer_B12 σ (f_L_isPrimer_L12 σ f k 0 x 266 274 (nI D)) k 0 x 266 274 (nI D) (nL (lrn A D n)) (nI n) (nI (costN A D n)) (nI 1) d) _
      unfold f_L_isPrimer_B12
      rw [if_neg (by decide), if_neg (by rw [il_51, nI_leJ (by omega) (by omega)]; omega)]
      have h37 := fun kk => P_L37 (f := aw_FU) hS hW (hL0.c F).1 hD hx hsp hl50 (x4 := nI D) (x7 := nI n) (x8 := nI (costN A D n)) (k := kk) 50 0 (by omega) (by show _ < 5000; omega)
      have e0 : lwK A D (lrn A D n) 0 = (0, 0, 0) := rfl
      simp only [e0] at h37
      refine (congrArg (fun t => ok t _) (h37 _)).mpr ?_
      obtain rfl : n = (usL (allS A D)).length := by omega
      rw [bst_none hW]
      refine ok_chk (ly_O hS (by decide) (by decide)) ?_
      have hc := C_primer hS hn hW hC (nI D) (nI (usL (allS A D)).length)
      rw [o_primer_is hD h5 (by omega), if_neg (by omega)] at hc
      refine nt_of hc (fun y y1 y2 => ?_)
      rw [if_pos (show NO = dI 0 from rfl)]
      unfold f_L_isPrimer_J257
      rw [if_neg (show ¬ (0 : Int32) ≤ dI 0 by decide)]
      exact ok_w (P_J301 hS hn hW y1 hD) (fun z hz => ⟨hz.1, hz.2.1, (F.tr y2).tr hz.2.2⟩)
  | succ m ih =>
    intro n f d hi hf hC F
    cases f with
    | zero => omega
    | succ f =>
      have hnN : n < (usL (allS A D)).length := by omega
      have hl50 := (lrn_is (D := D) hW n (by omega)).2.1
      have hl51 := (lrn_is (D := D) hW (n + 1) (by omega)).2.1
      have hsp : Spx A D (A 13 0 D) x d := hsp0.e (F x (by omega) (by omega)).2
      show ok (f_L_isPrimer_B12 σ (f_L_isPrimer_L12 σ f k 0 x 266 274 (nI D)) k 0 x 266 274 (nI D) (nL (lrn A D n)) (nI n) (nI (costN A D n)) (nI 1) d) _
      unfold f_L_isPrimer_B12
      rw [if_neg (by decide), if_neg (by rw [il_51, nI_leJ (by omega) (by omega)]; omega)]
      have h37 := fun kk => P_L37 (f := aw_FU) hS hW (hL0.c F).1 hD hx hsp hl50 (x4 := nI D) (x7 := nI n) (x8 := nI (costN A D n)) (k := kk) 50 0 (by omega) (by show _ < 5000; omega)
      have e0 : lwK A D (lrn A D n) 0 = (0, 0, 0) := rfl
      simp only [e0] at h37
      refine (congrArg (fun t => ok t _) (h37 _)).mpr ?_
      obtain ⟨b1, b2, b3⟩ := bst_next (D := D) hW hnN
      rw [b1, b3]
      refine ok_chk (ly_O hS (by decide) (by decide)) ?_
      have hc := C_primer hS hn hW hC (nI D) (nI n)
      rw [o_primer_is hD h5 (by omega), if_pos hnN] at hc
      refine nt_of hc (fun y y1 y2 => ?_)
      have ep : dI (pick A D n + 1) = nI (pick A D n) := dI_s _ (by omega)
      rw [ep, if_pos rfl]
      unfold f_L_isPrimer_J257
      rw [if_pos (by rw [il_0, nI_leJ (by omega) (by omega)]; omega)]
      have F2 := F.tr y2
      have hsp2 : Spx A D (A 13 0 D) x y.2 := hsp0.e (F2 x (by omega) (by omega)).2
      have hr := L_read (mm := lrn A D n) hS hW (hL0.c F2).1 hD hx hsp2 (L50_63 hl50)
      have hb1 := nL_b1 (s := pick A D n) (by omega)
      refine ok_bs hr ?_
      have h := ih (n + 1) f y.2 (by omega) (by omega) y1 F2
      have es : costN A D (n + 1) = costN A D n + (n + 1) * (rdW A D (lrn A D (n + 1)) - rdW A D (lrn A D n)) := rfl
      dsimp only
      simp (disch := first | assumption | omega) only [nI_L (show pick A D n < 2147483648 by omega), jl_63, jl_1, hb1, nL_orL, il_0, il_1, il_2, il_3, il_4, il_5, il_6, il_7, il_8, il_9, il_10, il_11, il_12, il_13, il_15, il_16, il_17, il_18, il_19, il_20, il_21, il_22, il_23, il_24, il_26, il_27, il_28, il_30, il_32, il_34, il_36, il_38, il_40, il_43, il_44, il_46, il_47, il_48, il_49, il_50, il_51, il_60, il_64, il_100, il_108, il_111, il_127, il_971, il_972, il_999, il_1000, il_1024, il_1087, il_2500, il_5000, il_9999, il_60000, il_2147483647, nI_add, nI_mulI, nI_subI, nI_divI, nI_cl, nI_leJ, nI_ltJ, nI_eqJ, nI_neM, nI_neM', il_31]
      rw [nI_subI (rd_lrn A D n), nI_mulI, nI_add, ← lrn_s, ← es]
      exact h
theorem L_isPrimer {A : St} {σ : Sg} {d : Dt} {D x : Nat} (hS : Lay σ) (hn : ly_n σ = A 11 0 0) (hW : WF A) (hC : RepC A d) (hL : RepL A d) (hD : D < A 11 0 0) (hx : x = 275 ∨ x = 276) (hsp : Spx A D (A 13 0 D) x d) : ok (f_L_isPrimer σ 0 x 266 274 (nI D) d) (fun z => z.1 = nI 1 ∧ RepC A z.2 ∧ FrC d z.2) := by
  have hN := usL_len (allS A D)
  exact P_L12 hS hn hW hL hD hx hsp (usL (allS A D)).length 0 53 d (by omega) (by omega) hC FrC.rf
