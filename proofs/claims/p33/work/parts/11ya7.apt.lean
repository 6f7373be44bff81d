/-! two shapes: how far they are apart, as the law works it out in its row of lengths from 20 on -/
theorem L_apart_L40 {σ : Sg} {d : Dt} {x0 : Nat} {x1 x2 x4 x5 x6 x8 : Int32} {mm : Nat} (hmm : mm ≤ 4) {k : Int32 → Dt → Option (Int32 × Dt)} : ∀ (r t f q : Nat), t + r = mm → r < f → q < 2147483648 → f_L_apart_L40 σ f k x0 x1 x2 (nI mm) x4 x5 x6 x8 (nI q) (nI t) d = k (nI (q / 10 ^ r)) d := by
  intro r
  induction r with
  | zero =>
    intro t f q ht hf hq
    cases f with
    | zero => omega
    | succ f =>
      show f_L_apart_B40 σ (f_L_apart_L40 σ f k x0 x1 x2 (nI mm) x4 x5 x6 x8) k x0 x1 x2 (nI mm) x4 x5 x6 x8 (nI q) (nI t) d = _
      simp (disch := first | assumption | omega) only [f_L_apart_B40, il_0, il_1, il_2, il_3, il_4, il_5, il_6, il_7, il_8, il_9, il_10, il_11, il_12, il_13, il_15, il_16, il_17, il_18, il_19, il_20, il_21, il_22, il_23, il_24, il_26, il_27, il_28, il_30, il_32, il_34, il_36, il_38, il_40, il_43, il_44, il_46, il_47, il_48, il_49, il_50, il_51, il_60, il_64, il_100, il_108, il_111, il_127, il_971, il_972, il_999, il_1000, il_1024, il_1087, il_2500, il_5000, il_9999, il_60000, il_2147483647, nI_add, nI_mulI, nI_subI, nI_divI, nI_cl, nI_leJ, nI_ltJ, nI_eqJ, nI_neM, nI_neM', il_31]
      rw [if_pos (by omega), Nat.pow_zero, Nat.div_one]
  | succ r ih =>
    intro t f q ht hf hq
    cases f with
    | zero => omega
    | succ f =>
      show f_L_apart_B40 σ (f_L_apart_L40 σ f k x0 x1 x2 (nI mm) x4 x5 x6 x8) k x0 x1 x2 (nI mm) x4 x5 x6 x8 (nI q) (nI t) d = _
      simp (disch := first | assumption | omega) only [f_L_apart_B40, il_0, il_1, il_2, il_3, il_4, il_5, il_6, il_7, il_8, il_9, il_10, il_11, il_12, il_13, il_15, il_16, il_17, il_18, il_19, il_20, il_21, il_22, il_23, il_24, il_26, il_27, il_28, il_30, il_32, il_34, il_36, il_38, il_40, il_43, il_44, il_46, il_47, il_48, il_49, il_50, il_51, il_60, il_64, il_100, il_108, il_111, il_127, il_971, il_972, il_999, il_1000, il_1024, il_1087, il_2500, il_5000, il_9999, il_60000, il_2147483647, nI_add, nI_mulI, nI_subI, nI_divI, nI_cl, nI_leJ, nI_ltJ, nI_eqJ, nI_neM, nI_neM', il_31]
      rw [if_neg (by omega), ih (t + 1) f (q / 10) (by omega) (by omega) (by omega), Nat.pow_succ', Nat.div_div_eq_div_mul]
theorem L_apart_L63 {σ : Sg} {d : Dt} {x0 : Nat} {x1 x2 x3 x5 x6 x7 : Int32} {mm : Nat} (hmm : mm ≤ 4) {k : Int32 → Dt → Option (Int32 × Dt)} : ∀ (r t f q : Nat), t + r = mm → r < f → q < 2147483648 → f_L_apart_L63 σ f k x0 x1 x2 x3 (nI mm) x5 x6 x7 (nI q) (nI t) d = k (nI (q / 10 ^ r)) d := by
  intro r
  induction r with
  | zero =>
    intro t f q ht hf hq
    cases f with
    | zero => omega
    | succ f =>
      show f_L_apart_B63 σ (f_L_apart_L63 σ f k x0 x1 x2 x3 (nI mm) x5 x6 x7) k x0 x1 x2 x3 (nI mm) x5 x6 x7 (nI q) (nI t) d = _
      simp (disch := first | assumption | omega) only [f_L_apart_B63, il_0, il_1, il_2, il_3, il_4, il_5, il_6, il_7, il_8, il_9, il_10, il_11, il_12, il_13, il_15, il_16, il_17, il_18, il_19, il_20, il_21, il_22, il_23, il_24, il_26, il_27, il_28, il_30, il_32, il_34, il_36, il_38, il_40, il_43, il_44, il_46, il_47, il_48, il_49, il_50, il_51, il_60, il_64, il_100, il_108, il_111, il_127, il_971, il_972, il_999, il_1000, il_1024, il_1087, il_2500, il_5000, il_9999, il_60000, il_2147483647, nI_add, nI_mulI, nI_subI, nI_divI, nI_cl, nI_leJ, nI_ltJ, nI_eqJ, nI_neM, nI_neM', il_31]
      rw [if_pos (by omega), Nat.pow_zero, Nat.div_one]
  | succ r ih =>
    intro t f q ht hf hq
    cases f with
    | zero => omega
    | succ f =>
      show f_L_apart_B63 σ (f_L_apart_L63 σ f k x0 x1 x2 x3 (nI mm) x5 x6 x7) k x0 x1 x2 x3 (nI mm) x5 x6 x7 (nI q) (nI t) d = _
      simp (disch := first | assumption | omega) only [f_L_apart_B63, il_0, il_1, il_2, il_3, il_4, il_5, il_6, il_7, il_8, il_9, il_10, il_11, il_12, il_13, il_15, il_16, il_17, il_18, il_19, il_20, il_21, il_22, il_23, il_24, il_26, il_27, il_28, il_30, il_32, il_34, il_36, il_38, il_40, il_43, il_44, il_46, il_47, il_48, il_49, il_50, il_51, il_60, il_64, il_100, il_108, il_111, il_127, il_971, il_972, il_999, il_1000, il_1024, il_1087, il_2500, il_5000, il_9999, il_60000, il_2147483647, nI_add, nI_mulI, nI_subI, nI_divI, nI_cl, nI_leJ, nI_ltJ, nI_eqJ, nI_neM, nI_neM', il_31]
      rw [if_neg (by omega), ih (t + 1) f (q / 10) (by omega) (by omega) (by omega), Nat.pow_succ', Nat.div_div_eq_div_mul]
theorem dig_e {a i : Nat} (hi : i < figs a) : a / 10 ^ (figs a - (i + 1)) - a / 10 ^ (figs a - (i + 1)) / 10 * 10 = dig a i := by
  unfold dig
  rw [show figs a - 1 - i = figs a - (i + 1) by omega]
  omega
theorem min_c {s l v : Nat} (hv : v = min s (l + 1)) (h : s ≤ l + 1) : v = s := by omega
/-- the table has row i up to k -/
def Tb (a b i k : Nat) (d : Dt) : Prop := (∀ i', i = i' + 1 → ∀ j, j ≤ figs b → d.1 266 (20 + 5 * i' + j) = nI (ed (dig a) (dig b) i' j)) ∧ ∀ j, j < k → d.1 266 (20 + 5 * i + j) = nI (ed (dig a) (dig b) i j)
theorem Tb.st {a b i k v : Nat} {d : Dt} (h : Tb a b i k d) (hb : figs b ≤ 4) (hk : k ≤ figs b) (hv : v = ed (dig a) (dig b) i k) : Tb a b i (k + 1) (aw_sI d 266 (20 + 5 * i + k) (nI v)) := by
  refine ⟨fun i' e j hj => by rw [aw_sI_n (by omega)]; exact h.1 i' e j hj, fun j hj => ?_⟩
  by_cases e : j = k
  · subst e; rw [aw_sI_e rfl rfl, hv]
  · rw [aw_sI_n (by omega)]; exact h.2 j (by omega)
theorem L_apart_L23 {σ : Sg} {d0 : Dt} {a b i : Nat} {Q : Int32 × Dt → Prop} {k : Dt → Option (Int32 × Dt)} (hS : Lay σ) (ha : a < 10000) (hb : b < 10000) (hi : i ≤ figs a) (hk : ∀ d, Tb a b i (figs b + 1) d → FZ d0 d → ok (k d) Q) : ∀ (m kk f : Nat) (d : Dt), kk + m = figs b + 1 → m < f → Tb a b i kk d → FZ d0 d → ok (f_L_apart_L23 σ f k 266 (nI a) (nI b) (nI (figs a)) (nI (figs b)) (nI i) (nI kk) d) Q := by
  have fa := figs_b a
  have fb := figs_b b
  intro m
  induction m with
  | zero =>
    intro kk f d hm hf h1 h2
    cases f with
    | zero => omega
    | succ f =>
      show ok (f_L_apart_B23 σ (f_L_apart_L23 σ f k 266 (nI a) (nI b) (nI (figs a)) (nI (figs b)) (nI i)) k 266 (nI a) (nI b) (nI (figs a)) (nI (figs b)) (nI i) (nI kk) d) Q
      simp (disch := first | assumption | omega) only [f_L_apart_B23, il_0, il_1, il_2, il_3, il_4, il_5, il_6, il_7, il_8, il_9, il_10, il_11, il_12, il_13, il_15, il_16, il_17, il_18, il_19, il_20, il_21, il_22, il_23, il_24, il_26, il_27, il_28, il_30, il_32, il_34, il_36, il_38, il_40, il_43, il_44, il_46, il_47, il_48, il_49, il_50, il_51, il_60, il_64, il_100, il_108, il_111, il_127, il_971, il_972, il_999, il_1000, il_1024, il_1087, il_2500, il_5000, il_9999, il_60000, il_2147483647, nI_add, nI_mulI, nI_subI, nI_divI, nI_cl, nI_leJ, nI_ltJ, nI_eqJ, nI_neM, nI_neM', il_31]
      rw [if_pos (by omega)]
      obtain rfl : kk = figs b + 1 := by omega
      exact hk d h1 h2
  | succ m ih =>
    intro kk f d hm hf h1 h2
    cases f with
    | zero => omega
    | succ f =>
      have hkb : kk ≤ figs b := by omega
      have IH : ∀ v, v = ed (dig a) (dig b) i kk → ok (f_L_apart_L23 σ f k 266 (nI a) (nI b) (nI (figs a)) (nI (figs b)) (nI i) (nI (kk + 1)) (aw_sI d 266 (20 + 5 * i + kk) (nI v))) Q := fun v hv => ih (kk + 1) f _ (by omega) (by omega) (h1.st fb.2 hkb hv) (h2.w (by omega))
      have bnd : ∀ i' j, i' ≤ 4 → j ≤ 4 → ed (dig a) (dig b) i' j ≤ 8 := fun i' j h1 h2 => by have := ed_le (dig a) (dig b) i' j; omega
      show ok (f_L_apart_B23 σ (f_L_apart_L23 σ f k 266 (nI a) (nI b) (nI (figs a)) (nI (figs b)) (nI i)) k 266 (nI a) (nI b) (nI (figs a)) (nI (figs b)) (nI i) (nI kk) d) Q
      unfold f_L_apart_B23
      rw [if_neg (by rw [nI_ltJ (by omega) (by omega)]; omega), L_apart_L40 fa.2 (figs a - i) i aw_FU a (by omega) (by show _ < 5000; omega) (by omega), L_apart_L63 fb.2 (figs b - kk) kk aw_FU b (by omega) (by show _ < 5000; omega) (by omega)]
      cases i with
      | zero =>
        cases kk with
        | zero =>
          simp (disch := first | assumption | omega) only [f_L_apart_J141, f_L_apart_J172, f_L_apart_J174, f_L_apart_J208, f_L_apart_J210, Nat.le_refl, if_true, lo_0 hS, lo_1 hS, lo_33 hS, lo_34 hS, lo_89 hS, lo_100 hS, lo_123 hS, lo_146 hS, lo_148 hS, lo_176 hS, lo_182 hS, lo_D hS, lo_G hS, lr_37 hS, lr_93 hS, lr_101 hS, lr_124 hS, lr_152 hS, lr_169 hS, lr_0_0 hS, lr_0_1 hS, lr_0_2 hS, lr_0_3 hS, lr_0_5 hS, lr_0_6 hS, lr_0_7 hS, lr_0_8 hS, lr_0_9 hS, lr_0_10 hS, lr_0_11 hS, lr_0_12 hS, lr_1_0 hS, lr_1_2 hS, lr_33_0 hS, lr_33_1 hS, lr_33_2 hS, lr_33_3 hS, lr_34_0 hS, lr_89_0 hS, lr_89_1 hS, lr_89_2 hS, lr_89_3 hS, lr_89_4 hS, lr_89_5 hS, lr_100_0 hS, lr_100_1 hS, lr_123_0 hS, lr_123_1 hS, lr_146_0 hS, lr_148_0 hS, lr_148_1 hS, lr_148_2 hS, lr_148_3 hS, lr_148_4 hS, lr_148_5 hS, lr_176_0 hS, lr_176_1 hS, lr_176_4 hS, lr_176_6 hS, lr_176_7 hS, lr_182_0 hS, lr_D_0 hS, lr_D_1 hS, lr_D_2 hS, lr_D_3 hS, lr_D_5 hS, lr_D_6 hS, lr_D_r hS, lr_31 hS, lr_32 hS, lr_G_2 hS, lr_G_3 hS, lr_G_4 hS, li_2 hS, li_3 hS, li_31 hS, li_32 hS, li_35 hS, li_36 hS, li_37 hS, li_88 hS, li_90 hS, li_91 hS, li_92 hS, li_93 hS, li_98 hS, li_99 hS, li_101 hS, li_122 hS, li_124 hS, li_145 hS, li_147 hS, li_149 hS, li_150 hS, li_151 hS, li_152 hS, li_169 hS, li_175 hS, li_177 hS, li_178 hS, li_179 hS, li_180 hS, li_181 hS, li_183 hS, li_265 hS, li_266 hS, li_267 hS, li_268 hS, li_269 hS, li_270 hS, li_271 hS, li_272 hS, li_273 hS, li_274 hS, li_275 hS, li_276 hS, li_38 hS, li_94 hS, li_102 hS, li_125 hS, li_153 hS, li_170 hS, li_D_1 hS, li_D_2 hS, li_D_3 hS, li_D_4 hS, li_D_5 hS, li_D_26 hS, li_D_r hS, li_G_1 hS, li_G_2 hS, li_G_3 hS, li_rA hS, li_rK hS, li_rX hS, il_0, il_1, il_2, il_3, il_4, il_5, il_6, il_7, il_8, il_9, il_10, il_11, il_12, il_13, il_15, il_16, il_17, il_18, il_19, il_20, il_21, il_22, il_23, il_24, il_26, il_27, il_28, il_30, il_32, il_34, il_36, il_38, il_40, il_43, il_44, il_46, il_47, il_48, il_49, il_50, il_51, il_60, il_64, il_100, il_108, il_111, il_127, il_971, il_972, il_999, il_1000, il_1024, il_1087, il_2500, il_5000, il_9999, il_60000, il_2147483647, nI_add, nI_mulI, nI_subI, nI_divI, nI_cl, nI_leJ, nI_ltJ, nI_eqJ, nI_neM, nI_neM', il_31, aw_sI_e, aw_sI_n, aw_sI_2, aw_sL_e, aw_sL_n, aw_sL_1, Option.bind_some, aw_chkT, ck_and0, ck_and1, bI_t, bI_f, nar_0, nar_1]
          exact IH 0 rfl
        | succ kk =>
          have ql := h1.2 kk (by omega)
          rw [ed_0j] at ql
          have e1 : 20 + 5 * 0 + (kk + 1) - 1 = 20 + 5 * 0 + kk := by omega
          have e2 : ¬ kk + 1 ≤ 0 := by omega
          simp (disch := first | assumption | omega) only [f_L_apart_J141, f_L_apart_J172, f_L_apart_J174, f_L_apart_J208, f_L_apart_J210, Nat.le_refl, e1, e2, ql, if_true, if_false, lo_0 hS, lo_1 hS, lo_33 hS, lo_34 hS, lo_89 hS, lo_100 hS, lo_123 hS, lo_146 hS, lo_148 hS, lo_176 hS, lo_182 hS, lo_D hS, lo_G hS, lr_37 hS, lr_93 hS, lr_101 hS, lr_124 hS, lr_152 hS, lr_169 hS, lr_0_0 hS, lr_0_1 hS, lr_0_2 hS, lr_0_3 hS, lr_0_5 hS, lr_0_6 hS, lr_0_7 hS, lr_0_8 hS, lr_0_9 hS, lr_0_10 hS, lr_0_11 hS, lr_0_12 hS, lr_1_0 hS, lr_1_2 hS, lr_33_0 hS, lr_33_1 hS, lr_33_2 hS, lr_33_3 hS, lr_34_0 hS, lr_89_0 hS, lr_89_1 hS, lr_89_2 hS, lr_89_3 hS, lr_89_4 hS, lr_89_5 hS, lr_100_0 hS, lr_100_1 hS, lr_123_0 hS, lr_123_1 hS, lr_146_0 hS, lr_148_0 hS, lr_148_1 hS, lr_148_2 hS, lr_148_3 hS, lr_148_4 hS, lr_148_5 hS, lr_176_0 hS, lr_176_1 hS, lr_176_4 hS, lr_176_6 hS, lr_176_7 hS, lr_182_0 hS, lr_D_0 hS, lr_D_1 hS, lr_D_2 hS, lr_D_3 hS, lr_D_5 hS, lr_D_6 hS, lr_D_r hS, lr_31 hS, lr_32 hS, lr_G_2 hS, lr_G_3 hS, lr_G_4 hS, li_2 hS, li_3 hS, li_31 hS, li_32 hS, li_35 hS, li_36 hS, li_37 hS, li_88 hS, li_90 hS, li_91 hS, li_92 hS, li_93 hS, li_98 hS, li_99 hS, li_101 hS, li_122 hS, li_124 hS, li_145 hS, li_147 hS, li_149 hS, li_150 hS, li_151 hS, li_152 hS, li_169 hS, li_175 hS, li_177 hS, li_178 hS, li_179 hS, li_180 hS, li_181 hS, li_183 hS, li_265 hS, li_266 hS, li_267 hS, li_268 hS, li_269 hS, li_270 hS, li_271 hS, li_272 hS, li_273 hS, li_274 hS, li_275 hS, li_276 hS, li_38 hS, li_94 hS, li_102 hS, li_125 hS, li_153 hS, li_170 hS, li_D_1 hS, li_D_2 hS, li_D_3 hS, li_D_4 hS, li_D_5 hS, li_D_26 hS, li_D_r hS, li_G_1 hS, li_G_2 hS, li_G_3 hS, li_rA hS, li_rK hS, li_rX hS, il_0, il_1, il_2, il_3, il_4, il_5, il_6, il_7, il_8, il_9, il_10, il_11, il_12, il_13, il_15, il_16, il_17, il_18, il_19, il_20, il_21, il_22, il_23, il_24, il_26, il_27, il_28, il_30, il_32, il_34, il_36, il_38, il_40, il_43, il_44, il_46, il_47, il_48, il_49, il_50, il_51, il_60, il_64, il_100, il_108, il_111, il_127, il_971, il_972, il_999, il_1000, il_1024, il_1087, il_2500, il_5000, il_9999, il_60000, il_2147483647, nI_add, nI_mulI, nI_subI, nI_divI, nI_cl, nI_leJ, nI_ltJ, nI_eqJ, nI_neM, nI_neM', il_31, aw_sI_e, aw_sI_n, aw_sI_2, aw_sL_e, aw_sL_n, aw_sL_1, Option.bind_some, aw_chkT, ck_and0, ck_and1, bI_t, bI_f, nar_0, nar_1]
          exact IH (kk + 1) rfl
      | succ i =>
        have qu := h1.1 i rfl
        cases kk with
        | zero =>
          have q0 := qu 0 (by omega)
          rw [ed_i0] at q0
          have e1 : 20 + 5 * (i + 1) + 0 - 5 = 20 + 5 * i + 0 := by omega
          have e2 : ¬ i + 1 ≤ 0 := by omega
          have e3 : ¬ i + 1 = 0 := by omega
          simp (disch := first | assumption | omega) only [f_L_apart_J141, f_L_apart_J172, f_L_apart_J174, f_L_apart_J208, f_L_apart_J210, Nat.le_refl, e1, e2, e3, q0, if_true, if_false, lo_0 hS, lo_1 hS, lo_33 hS, lo_34 hS, lo_89 hS, lo_100 hS, lo_123 hS, lo_146 hS, lo_148 hS, lo_176 hS, lo_182 hS, lo_D hS, lo_G hS, lr_37 hS, lr_93 hS, lr_101 hS, lr_124 hS, lr_152 hS, lr_169 hS, lr_0_0 hS, lr_0_1 hS, lr_0_2 hS, lr_0_3 hS, lr_0_5 hS, lr_0_6 hS, lr_0_7 hS, lr_0_8 hS, lr_0_9 hS, lr_0_10 hS, lr_0_11 hS, lr_0_12 hS, lr_1_0 hS, lr_1_2 hS, lr_33_0 hS, lr_33_1 hS, lr_33_2 hS, lr_33_3 hS, lr_34_0 hS, lr_89_0 hS, lr_89_1 hS, lr_89_2 hS, lr_89_3 hS, lr_89_4 hS, lr_89_5 hS, lr_100_0 hS, lr_100_1 hS, lr_123_0 hS, lr_123_1 hS, lr_146_0 hS, lr_148_0 hS, lr_148_1 hS, lr_148_2 hS, lr_148_3 hS, lr_148_4 hS, lr_148_5 hS, lr_176_0 hS, lr_176_1 hS, lr_176_4 hS, lr_176_6 hS, lr_176_7 hS, lr_182_0 hS, lr_D_0 hS, lr_D_1 hS, lr_D_2 hS, lr_D_3 hS, lr_D_5 hS, lr_D_6 hS, lr_D_r hS, lr_31 hS, lr_32 hS, lr_G_2 hS, lr_G_3 hS, lr_G_4 hS, li_2 hS, li_3 hS, li_31 hS, li_32 hS, li_35 hS, li_36 hS, li_37 hS, li_88 hS, li_90 hS, li_91 hS, li_92 hS, li_93 hS, li_98 hS, li_99 hS, li_101 hS, li_122 hS, li_124 hS, li_145 hS, li_147 hS, li_149 hS, li_150 hS, li_151 hS, li_152 hS, li_169 hS, li_175 hS, li_177 hS, li_178 hS, li_179 hS, li_180 hS, li_181 hS, li_183 hS, li_265 hS, li_266 hS, li_267 hS, li_268 hS, li_269 hS, li_270 hS, li_271 hS, li_272 hS, li_273 hS, li_274 hS, li_275 hS, li_276 hS, li_38 hS, li_94 hS, li_102 hS, li_125 hS, li_153 hS, li_170 hS, li_D_1 hS, li_D_2 hS, li_D_3 hS, li_D_4 hS, li_D_5 hS, li_D_26 hS, li_D_r hS, li_G_1 hS, li_G_2 hS, li_G_3 hS, li_rA hS, li_rK hS, li_rX hS, il_0, il_1, il_2, il_3, il_4, il_5, il_6, il_7, il_8, il_9, il_10, il_11, il_12, il_13, il_15, il_16, il_17, il_18, il_19, il_20, il_21, il_22, il_23, il_24, il_26, il_27, il_28, il_30, il_32, il_34, il_36, il_38, il_40, il_43, il_44, il_46, il_47, il_48, il_49, il_50, il_51, il_60, il_64, il_100, il_108, il_111, il_127, il_971, il_972, il_999, il_1000, il_1024, il_1087, il_2500, il_5000, il_9999, il_60000, il_2147483647, nI_add, nI_mulI, nI_subI, nI_divI, nI_cl, nI_leJ, nI_ltJ, nI_eqJ, nI_neM, nI_neM', il_31, aw_sI_e, aw_sI_n, aw_sI_2, aw_sL_e, aw_sL_n, aw_sL_1, Option.bind_some, aw_chkT, ck_and0, ck_and1, bI_t, bI_f, nar_0, nar_1]
          exact IH (i + 1) rfl
        | succ kk =>
          have ql := h1.2 kk (by omega)
          have q1 := qu kk (by omega)
          have q2 := qu (kk + 1) (by omega)
          have b1 := bnd i kk (by omega) (by omega)
          have b2 := bnd i (kk + 1) (by omega) (by omega)
          have b3 := bnd (i + 1) kk (by omega) (by omega)
          have e1 : 20 + 5 * (i + 1) + (kk + 1) - 6 = 20 + 5 * i + kk := by omega
          have e2 : 20 + 5 * (i + 1) + (kk + 1) - 5 = 20 + 5 * i + (kk + 1) := by omega
          have e3 : 20 + 5 * (i + 1) + (kk + 1) - 1 = 20 + 5 * (i + 1) + kk := by omega
          have e4 : ¬ i + 1 ≤ 0 := by omega
          have e5 : ¬ kk + 1 ≤ 0 := by omega
          have e6 : ¬ i + 1 = 0 := by omega
          have e7 : ¬ kk + 1 = 0 := by omega
          have da := dig_e (a := a) (i := i) (by omega)
          have db := dig_e (a := b) (i := kk) (by omega)
          have ba : a / 10 ^ (figs a - (i + 1)) < 2147483648 := Nat.lt_of_le_of_lt (Nat.div_le_self _ _) (by omega)
          have bb : b / 10 ^ (figs b - (kk + 1)) < 2147483648 := Nat.lt_of_le_of_lt (Nat.div_le_self _ _) (by omega)
          have la := dig_lt a i
          have lb := dig_lt b kk
          have es := ed_ss (dig a) (dig b) i kk
          have hJ : ∀ s, s ≤ 20 → s = ed (dig a) (dig b) i kk + (if dig a i = dig b kk then 0 else 1) → ok (f_L_apart_J141 σ (f_L_apart_L23 σ f k 266 (nI a) (nI b) (nI (figs a)) (nI (figs b)) (nI (i + 1))) (nI s) 266 (nI a) (nI b) (nI (figs a)) (nI (figs b)) (nI (i + 1)) (nI (kk + 1)) (nI (20 + 5 * (i + 1) + (kk + 1))) d) Q := by
            intro s hs20 hs
            rw [← hs] at es
            simp (disch := first | assumption | omega) only [f_L_apart_J141, f_L_apart_J172, f_L_apart_J174, f_L_apart_J208, f_L_apart_J210, e2, e3, e4, e5, q2, ql, if_false, lo_0 hS, lo_1 hS, lo_33 hS, lo_34 hS, lo_89 hS, lo_100 hS, lo_123 hS, lo_146 hS, lo_148 hS, lo_176 hS, lo_182 hS, lo_D hS, lo_G hS, lr_37 hS, lr_93 hS, lr_101 hS, lr_124 hS, lr_152 hS, lr_169 hS, lr_0_0 hS, lr_0_1 hS, lr_0_2 hS, lr_0_3 hS, lr_0_5 hS, lr_0_6 hS, lr_0_7 hS, lr_0_8 hS, lr_0_9 hS, lr_0_10 hS, lr_0_11 hS, lr_0_12 hS, lr_1_0 hS, lr_1_2 hS, lr_33_0 hS, lr_33_1 hS, lr_33_2 hS, lr_33_3 hS, lr_34_0 hS, lr_89_0 hS, lr_89_1 hS, lr_89_2 hS, lr_89_3 hS, lr_89_4 hS, lr_89_5 hS, lr_100_0 hS, lr_100_1 hS, lr_123_0 hS, lr_123_1 hS, lr_146_0 hS, lr_148_0 hS, lr_148_1 hS, lr_148_2 hS, lr_148_3 hS, lr_148_4 hS, lr_148_5 hS, lr_176_0 hS, lr_176_1 hS, lr_176_4 hS, lr_176_6 hS, lr_176_7 hS, lr_182_0 hS, lr_D_0 hS, lr_D_1 hS, lr_D_2 hS, lr_D_3 hS, lr_D_5 hS, lr_D_6 hS, lr_D_r hS, lr_31 hS, lr_32 hS, lr_G_2 hS, lr_G_3 hS, lr_G_4 hS, li_2 hS, li_3 hS, li_31 hS, li_32 hS, li_35 hS, li_36 hS, li_37 hS, li_88 hS, li_90 hS, li_91 hS, li_92 hS, li_93 hS, li_98 hS, li_99 hS, li_101 hS, li_122 hS, li_124 hS, li_145 hS, li_147 hS, li_149 hS, li_150 hS, li_151 hS, li_152 hS, li_169 hS, li_175 hS, li_177 hS, li_178 hS, li_179 hS, li_180 hS, li_181 hS, li_183 hS, li_265 hS, li_266 hS, li_267 hS, li_268 hS, li_269 hS, li_270 hS, li_271 hS, li_272 hS, li_273 hS, li_274 hS, li_275 hS, li_276 hS, li_38 hS, li_94 hS, li_102 hS, li_125 hS, li_153 hS, li_170 hS, li_D_1 hS, li_D_2 hS, li_D_3 hS, li_D_4 hS, li_D_5 hS, li_D_26 hS, li_D_r hS, li_G_1 hS, li_G_2 hS, li_G_3 hS, li_rA hS, li_rK hS, li_rX hS, il_0, il_1, il_2, il_3, il_4, il_5, il_6, il_7, il_8, il_9, il_10, il_11, il_12, il_13, il_15, il_16, il_17, il_18, il_19, il_20, il_21, il_22, il_23, il_24, il_26, il_27, il_28, il_30, il_32, il_34, il_36, il_38, il_40, il_43, il_44, il_46, il_47, il_48, il_49, il_50, il_51, il_60, il_64, il_100, il_108, il_111, il_127, il_971, il_972, il_999, il_1000, il_1024, il_1087, il_2500, il_5000, il_9999, il_60000, il_2147483647, nI_add, nI_mulI, nI_subI, nI_divI, nI_cl, nI_leJ, nI_ltJ, nI_eqJ, nI_neM, nI_neM', il_31, aw_sI_e, aw_sI_n, aw_sI_2, aw_sL_e, aw_sL_n, aw_sL_1, Option.bind_some, aw_chkT, ck_and0, ck_and1, bI_t, bI_f, nar_0, nar_1]
            by_cases c1 : s ≤ ed (dig a) (dig b) i (kk + 1) + 1
            · rw [if_pos c1]
              by_cases c2 : s ≤ ed (dig a) (dig b) (i + 1) kk + 1
              · rw [if_pos c2]; exact IH _ (by omega)
              · rw [if_neg c2]; exact IH _ (by omega)
            · rw [if_neg c1]
              by_cases c2 : ed (dig a) (dig b) i (kk + 1) + 1 ≤ ed (dig a) (dig b) (i + 1) kk + 1
              · rw [if_pos c2]; exact IH _ (by omega)
              · rw [if_neg c2]; exact IH _ (by omega)
          simp (disch := first | assumption | omega) only [f_L_apart_J140, e1, e6, e7, q1, da, db, if_false, lo_0 hS, lo_1 hS, lo_33 hS, lo_34 hS, lo_89 hS, lo_100 hS, lo_123 hS, lo_146 hS, lo_148 hS, lo_176 hS, lo_182 hS, lo_D hS, lo_G hS, lr_37 hS, lr_93 hS, lr_101 hS, lr_124 hS, lr_152 hS, lr_169 hS, lr_0_0 hS, lr_0_1 hS, lr_0_2 hS, lr_0_3 hS, lr_0_5 hS, lr_0_6 hS, lr_0_7 hS, lr_0_8 hS, lr_0_9 hS, lr_0_10 hS, lr_0_11 hS, lr_0_12 hS, lr_1_0 hS, lr_1_2 hS, lr_33_0 hS, lr_33_1 hS, lr_33_2 hS, lr_33_3 hS, lr_34_0 hS, lr_89_0 hS, lr_89_1 hS, lr_89_2 hS, lr_89_3 hS, lr_89_4 hS, lr_89_5 hS, lr_100_0 hS, lr_100_1 hS, lr_123_0 hS, lr_123_1 hS, lr_146_0 hS, lr_148_0 hS, lr_148_1 hS, lr_148_2 hS, lr_148_3 hS, lr_148_4 hS, lr_148_5 hS, lr_176_0 hS, lr_176_1 hS, lr_176_4 hS, lr_176_6 hS, lr_176_7 hS, lr_182_0 hS, lr_D_0 hS, lr_D_1 hS, lr_D_2 hS, lr_D_3 hS, lr_D_5 hS, lr_D_6 hS, lr_D_r hS, lr_31 hS, lr_32 hS, lr_G_2 hS, lr_G_3 hS, lr_G_4 hS, li_2 hS, li_3 hS, li_31 hS, li_32 hS, li_35 hS, li_36 hS, li_37 hS, li_88 hS, li_90 hS, li_91 hS, li_92 hS, li_93 hS, li_98 hS, li_99 hS, li_101 hS, li_122 hS, li_124 hS, li_145 hS, li_147 hS, li_149 hS, li_150 hS, li_151 hS, li_152 hS, li_169 hS, li_175 hS, li_177 hS, li_178 hS, li_179 hS, li_180 hS, li_181 hS, li_183 hS, li_265 hS, li_266 hS, li_267 hS, li_268 hS, li_269 hS, li_270 hS, li_271 hS, li_272 hS, li_273 hS, li_274 hS, li_275 hS, li_276 hS, li_38 hS, li_94 hS, li_102 hS, li_125 hS, li_153 hS, li_170 hS, li_D_1 hS, li_D_2 hS, li_D_3 hS, li_D_4 hS, li_D_5 hS, li_D_26 hS, li_D_r hS, li_G_1 hS, li_G_2 hS, li_G_3 hS, li_rA hS, li_rK hS, li_rX hS, il_0, il_1, il_2, il_3, il_4, il_5, il_6, il_7, il_8, il_9, il_10, il_11, il_12, il_13, il_15, il_16, il_17, il_18, il_19, il_20, il_21, il_22, il_23, il_24, il_26, il_27, il_28, il_30, il_32, il_34, il_36, il_38, il_40, il_43, il_44, il_46, il_47, il_48, il_49, il_50, il_51, il_60, il_64, il_100, il_108, il_111, il_127, il_971, il_972, il_999, il_1000, il_1024, il_1087, il_2500, il_5000, il_9999, il_60000, il_2147483647, nI_add, nI_mulI, nI_subI, nI_divI, nI_cl, nI_leJ, nI_ltJ, nI_eqJ, nI_neM, nI_neM', il_31, aw_sI_e, aw_sI_n, aw_sI_2, aw_sL_e, aw_sL_n, aw_sL_1, Option.bind_some, aw_chkT, ck_and0, ck_and1, bI_t, bI_f, nar_0, nar_1]
          by_cases c0 : dig a i = dig b kk
          · rw [if_pos c0]
            exact hJ _ (by omega) (by rw [if_pos c0])
          · rw [if_neg c0]
            exact hJ _ (by omega) (by rw [if_neg c0])
theorem L_apart_L14 {σ : Sg} {d0 : Dt} {a b : Nat} {Q : Int32 × Dt → Prop} {k : Dt → Option (Int32 × Dt)} (hS : Lay σ) (ha : a < 10000) (hb : b < 10000) (hk : ∀ d, d.1 266 (20 + 5 * figs a + figs b) = nI (edN a b) → FZ d0 d → ok (k d) Q) : ∀ (m i f : Nat) (d : Dt), i + m = figs a + 1 → m < f → Tb a b i 0 d → FZ d0 d → ok (f_L_apart_L14 σ f k 266 (nI a) (nI b) (nI (figs a)) (nI (figs b)) (nI i) d) Q := by
  have fa := figs_b a
  have fb := figs_b b
  intro m
  induction m with
  | zero =>
    intro i f d hm hf h1 h2
    cases f with
    | zero => omega
    | succ f =>
      show ok (f_L_apart_B14 σ (f_L_apart_L14 σ f k 266 (nI a) (nI b) (nI (figs a)) (nI (figs b))) k 266 (nI a) (nI b) (nI (figs a)) (nI (figs b)) (nI i) d) Q
      simp (disch := first | assumption | omega) only [f_L_apart_B14, il_0, il_1, il_2, il_3, il_4, il_5, il_6, il_7, il_8, il_9, il_10, il_11, il_12, il_13, il_15, il_16, il_17, il_18, il_19, il_20, il_21, il_22, il_23, il_24, il_26, il_27, il_28, il_30, il_32, il_34, il_36, il_38, il_40, il_43, il_44, il_46, il_47, il_48, il_49, il_50, il_51, il_60, il_64, il_100, il_108, il_111, il_127, il_971, il_972, il_999, il_1000, il_1024, il_1087, il_2500, il_5000, il_9999, il_60000, il_2147483647, nI_add, nI_mulI, nI_subI, nI_divI, nI_cl, nI_leJ, nI_ltJ, nI_eqJ, nI_neM, nI_neM', il_31]
      rw [if_pos (by omega)]
      exact hk d (h1.1 (figs a) (by omega) (figs b) (Nat.le_refl _)) h2
  | succ m ih =>
    intro i f d hm hf h1 h2
    cases f with
    | zero => omega
    | succ f =>
      show ok (f_L_apart_B14 σ (f_L_apart_L14 σ f k 266 (nI a) (nI b) (nI (figs a)) (nI (figs b))) k 266 (nI a) (nI b) (nI (figs a)) (nI (figs b)) (nI i) d) Q
      simp (disch := first | assumption | omega) only [f_L_apart_B14, il_0, il_1, il_2, il_3, il_4, il_5, il_6, il_7, il_8, il_9, il_10, il_11, il_12, il_13, il_15, il_16, il_17, il_18, il_19, il_20, il_21, il_22, il_23, il_24, il_26, il_27, il_28, il_30, il_32, il_34, il_36, il_38, il_40, il_43, il_44, il_46, il_47, il_48, il_49, il_50, il_51, il_60, il_64, il_100, il_108, il_111, il_127, il_971, il_972, il_999, il_1000, il_1024, il_1087, il_2500, il_5000, il_9999, il_60000, il_2147483647, nI_add, nI_mulI, nI_subI, nI_divI, nI_cl, nI_leJ, nI_ltJ, nI_eqJ, nI_neM, nI_neM', il_31]
      rw [if_neg (by omega)]
      refine L_apart_L23 (d0 := d0) (k := fun d_13 => f_L_apart_L14 σ f k 266 (nI a) (nI b) (nI (figs a)) (nI (figs b)) (nI (i + 1)) d_13) hS ha hb (show i ≤ figs a by omega) (fun d' g1 g2 => ?_) (figs b + 1) 0 aw_FU d (by omega) (by show _ < 5000; omega) h1 h2
      refine ih (i + 1) f d' (by omega) (by omega) ⟨fun i' e j hj => ?_, fun j hj => by omega⟩ g2
      obtain rfl : i = i' := by omega
      exact g1.2 j (by omega)
theorem L_apart {σ : Sg} {d : Dt} {a b : Nat} (hS : Lay σ) (ha : 1 ≤ a ∧ a < 10000) (hb : 1 ≤ b ∧ b < 10000) : ok (f_L_apart σ 266 (nI a) (nI b) d) (fun z => z.1 = nI (edN a b) ∧ FZ d z.2) := by
  have fa := figs_b a
  have fb := figs_b b
  unfold f_L_apart
  refine ok_bs (L_length ha.1 ha.2) ?_
  refine ok_bs (L_length hb.1 hb.2) ?_
  show ok (f_L_apart_L14 σ aw_FU _ 266 (nI a) (nI b) (nI (figs a)) (nI (figs b)) (nI 0) d) _
  refine L_apart_L14 (d0 := d) (k := _) hS ha.2 hb.2 (fun d' g1 g2 => ?_) (figs a + 1) 0 aw_FU d (by omega) (by show _ < 5000; omega) ⟨fun i' e => by omega, fun j hj => by omega⟩ FZ.rf
  simp (disch := first | assumption | omega) only [g1, lo_0 hS, lo_1 hS, lo_33 hS, lo_34 hS, lo_89 hS, lo_100 hS, lo_123 hS, lo_146 hS, lo_148 hS, lo_176 hS, lo_182 hS, lo_D hS, lo_G hS, lr_37 hS, lr_93 hS, lr_101 hS, lr_124 hS, lr_152 hS, lr_169 hS, lr_0_0 hS, lr_0_1 hS, lr_0_2 hS, lr_0_3 hS, lr_0_5 hS, lr_0_6 hS, lr_0_7 hS, lr_0_8 hS, lr_0_9 hS, lr_0_10 hS, lr_0_11 hS, lr_0_12 hS, lr_1_0 hS, lr_1_2 hS, lr_33_0 hS, lr_33_1 hS, lr_33_2 hS, lr_33_3 hS, lr_34_0 hS, lr_89_0 hS, lr_89_1 hS, lr_89_2 hS, lr_89_3 hS, lr_89_4 hS, lr_89_5 hS, lr_100_0 hS, lr_100_1 hS, lr_123_0 hS, lr_123_1 hS, lr_146_0 hS, lr_148_0 hS, lr_148_1 hS, lr_148_2 hS, lr_148_3 hS, lr_148_4 hS, lr_148_5 hS, lr_176_0 hS, lr_176_1 hS, lr_176_4 hS, lr_176_6 hS, lr_176_7 hS, lr_182_0 hS, lr_D_0 hS, lr_D_1 hS, lr_D_2 hS, lr_D_3 hS, lr_D_5 hS, lr_D_6 hS, lr_D_r hS, lr_31 hS, lr_32 hS, lr_G_2 hS, lr_G_3 hS, lr_G_4 hS, li_2 hS, li_3 hS, li_31 hS, li_32 hS, li_35 hS, li_36 hS, li_37 hS, li_88 hS, li_90 hS, li_91 hS, li_92 hS, li_93 hS, li_98 hS, li_99 hS, li_101 hS, li_122 hS, li_124 hS, li_145 hS, li_147 hS, li_149 hS, li_150 hS, li_151 hS, li_152 hS, li_169 hS, li_175 hS, li_177 hS, li_178 hS, li_179 hS, li_180 hS, li_181 hS, li_183 hS, li_265 hS, li_266 hS, li_267 hS, li_268 hS, li_269 hS, li_270 hS, li_271 hS, li_272 hS, li_273 hS, li_274 hS, li_275 hS, li_276 hS, li_38 hS, li_94 hS, li_102 hS, li_125 hS, li_153 hS, li_170 hS, li_D_1 hS, li_D_2 hS, li_D_3 hS, li_D_4 hS, li_D_5 hS, li_D_26 hS, li_D_r hS, li_G_1 hS, li_G_2 hS, li_G_3 hS, li_rA hS, li_rK hS, li_rX hS, il_0, il_1, il_2, il_3, il_4, il_5, il_6, il_7, il_8, il_9, il_10, il_11, il_12, il_13, il_15, il_16, il_17, il_18, il_19, il_20, il_21, il_22, il_23, il_24, il_26, il_27, il_28, il_30, il_32, il_34, il_36, il_38, il_40, il_43, il_44, il_46, il_47, il_48, il_49, il_50, il_51, il_60, il_64, il_100, il_108, il_111, il_127, il_971, il_972, il_999, il_1000, il_1024, il_1087, il_2500, il_5000, il_9999, il_60000, il_2147483647, nI_add, nI_mulI, nI_subI, nI_divI, nI_cl, nI_leJ, nI_ltJ, nI_eqJ, nI_neM, nI_neM', il_31, aw_sI_e, aw_sI_n, aw_sI_2, aw_sL_e, aw_sL_n, aw_sL_1, Option.bind_some, aw_chkT, ck_and0, ck_and1, bI_t, bI_f, nar_0, nar_1]
  exact ok_some ⟨rfl, g2⟩
/-! errors -/
theorem shp_rng {A : St} (hW : WF A) {s : Nat} (hs : s < 50) : 1 ≤ A 17 0 s ∧ A 17 0 s < 10000 := by
  have h := hW.s hs
  exact ⟨h.1, by have := h.2.1; omega⟩
theorem L_err_L89 {A : St} {σ : Sg} {d0 : Dt} {D a x far s P : Nat} {x6 : Int32} {Q : Int32 × Dt → Prop} {k : Int32 → Dt → Option (Int32 × Dt)} (hS : Lay σ) (hW : WF A) (hD : D < A 11 0 0) (ha : a = 268 ∨ a = 269) (hA : RepA A D a d0) (hz : ∀ s, s < 50 → d0.1 272 s = nI (A 17 0 s)) (hs : s < 50) (hfar : far < 5) (hP : 0 < P) (hP2 : P < 2147483648) (hk : ∀ (b : Bool) d, b = anyR (takS A D far s) 50 → FZ d0 d → ok (k (bI b) d) Q) : ∀ (m i f : Nat) (d : Dt), i + m = 50 → m < f → anyR (takS A D far s) i = false → FZ d0 d → ok (f_L_errors_L89 σ f k a 272 x 266 274 (nI far) x6 (nI s) (nI P) (nI 0) (nI i) d) Q := by
  have hG := hW.G hD
  intro m
  induction m with
  | zero =>
    intro i f d hi hf h1 h2
    cases f with
    | zero => omega
    | succ f =>
      show ok (f_L_errors_B89 σ (f_L_errors_L89 σ f k a 272 x 266 274 (nI far) x6 (nI s) (nI P)) k a 272 x 266 274 (nI far) x6 (nI s) (nI P) (nI 0) (nI i) d) Q
      simp (disch := first | assumption | omega) only [f_L_errors_B89, il_0, il_1, il_2, il_3, il_4, il_5, il_6, il_7, il_8, il_9, il_10, il_11, il_12, il_13, il_15, il_16, il_17, il_18, il_19, il_20, il_21, il_22, il_23, il_24, il_26, il_27, il_28, il_30, il_32, il_34, il_36, il_38, il_40, il_43, il_44, il_46, il_47, il_48, il_49, il_50, il_51, il_60, il_64, il_100, il_108, il_111, il_127, il_971, il_972, il_999, il_1000, il_1024, il_1087, il_2500, il_5000, il_9999, il_60000, il_2147483647, nI_add, nI_mulI, nI_subI, nI_divI, nI_cl, nI_leJ, nI_ltJ, nI_eqJ, nI_neM, nI_neM', il_31]
      rw [if_pos (by omega)]
      obtain rfl : i = 50 := by omega
      exact hk false d h1.symm h2
  | succ m ih =>
    intro i f d hi hf h1 h2
    cases f with
    | zero => omega
    | succ f =>
      have hlt : i < 50 := by omega
      have en : anyR (takS A D far s) (i + 1) = (anyR (takS A D far s) i || takS A D far s i) := rfl
      rw [h1, Bool.false_or] at en
      have NO_ : takS A D far s i = false → ∀ d', FZ d0 d' → ok (f_L_errors_L89 σ f k a 272 x 266 274 (nI far) x6 (nI s) (nI P) (nI 0) (nI (i + 1)) d') Q := fun e d' F => ih (i + 1) f d' (by omega) (by omega) (by rw [en, e]) F
      have qh := L_has (s := i) hS ha (hA.lf (h2.1 a (by omega))) hG.1 hG.2.2.1 hlt
      have qz1 : d.1 272 s = nI (A 17 0 s) := by rw [h2.1 272 (by omega)]; exact hz s hs
      have qz2 : d.1 272 i = nI (A 17 0 i) := by rw [h2.1 272 (by omega)]; exact hz i hlt
      show ok (f_L_errors_B89 σ (f_L_errors_L89 σ f k a 272 x 266 274 (nI far) x6 (nI s) (nI P)) k a 272 x 266 274 (nI far) x6 (nI s) (nI P) (nI 0) (nI i) d) Q
      simp (disch := first | assumption | omega) only [f_L_errors_B89, qh, qz1, qz2, if_true, lo_0 hS, lo_1 hS, lo_33 hS, lo_34 hS, lo_89 hS, lo_100 hS, lo_123 hS, lo_146 hS, lo_148 hS, lo_176 hS, lo_182 hS, lo_D hS, lo_G hS, lr_37 hS, lr_93 hS, lr_101 hS, lr_124 hS, lr_152 hS, lr_169 hS, lr_0_0 hS, lr_0_1 hS, lr_0_2 hS, lr_0_3 hS, lr_0_5 hS, lr_0_6 hS, lr_0_7 hS, lr_0_8 hS, lr_0_9 hS, lr_0_10 hS, lr_0_11 hS, lr_0_12 hS, lr_1_0 hS, lr_1_2 hS, lr_33_0 hS, lr_33_1 hS, lr_33_2 hS, lr_33_3 hS, lr_34_0 hS, lr_89_0 hS, lr_89_1 hS, lr_89_2 hS, lr_89_3 hS, lr_89_4 hS, lr_89_5 hS, lr_100_0 hS, lr_100_1 hS, lr_123_0 hS, lr_123_1 hS, lr_146_0 hS, lr_148_0 hS, lr_148_1 hS, lr_148_2 hS, lr_148_3 hS, lr_148_4 hS, lr_148_5 hS, lr_176_0 hS, lr_176_1 hS, lr_176_4 hS, lr_176_6 hS, lr_176_7 hS, lr_182_0 hS, lr_D_0 hS, lr_D_1 hS, lr_D_2 hS, lr_D_3 hS, lr_D_5 hS, lr_D_6 hS, lr_D_r hS, lr_31 hS, lr_32 hS, lr_G_2 hS, lr_G_3 hS, lr_G_4 hS, li_2 hS, li_3 hS, li_31 hS, li_32 hS, li_35 hS, li_36 hS, li_37 hS, li_88 hS, li_90 hS, li_91 hS, li_92 hS, li_93 hS, li_98 hS, li_99 hS, li_101 hS, li_122 hS, li_124 hS, li_145 hS, li_147 hS, li_149 hS, li_150 hS, li_151 hS, li_152 hS, li_169 hS, li_175 hS, li_177 hS, li_178 hS, li_179 hS, li_180 hS, li_181 hS, li_183 hS, li_265 hS, li_266 hS, li_267 hS, li_268 hS, li_269 hS, li_270 hS, li_271 hS, li_272 hS, li_273 hS, li_274 hS, li_275 hS, li_276 hS, li_38 hS, li_94 hS, li_102 hS, li_125 hS, li_153 hS, li_170 hS, li_D_1 hS, li_D_2 hS, li_D_3 hS, li_D_4 hS, li_D_5 hS, li_D_26 hS, li_D_r hS, li_G_1 hS, li_G_2 hS, li_G_3 hS, li_rA hS, li_rK hS, li_rX hS, il_0, il_1, il_2, il_3, il_4, il_5, il_6, il_7, il_8, il_9, il_10, il_11, il_12, il_13, il_15, il_16, il_17, il_18, il_19, il_20, il_21, il_22, il_23, il_24, il_26, il_27, il_28, il_30, il_32, il_34, il_36, il_38, il_40, il_43, il_44, il_46, il_47, il_48, il_49, il_50, il_51, il_60, il_64, il_100, il_108, il_111, il_127, il_971, il_972, il_999, il_1000, il_1024, il_1087, il_2500, il_5000, il_9999, il_60000, il_2147483647, nI_add, nI_mulI, nI_subI, nI_divI, nI_cl, nI_leJ, nI_ltJ, nI_eqJ, nI_neM, nI_neM', il_31, aw_sI_e, aw_sI_n, aw_sI_2, aw_sL_e, aw_sL_n, aw_sL_1, Option.bind_some, aw_chkT, ck_and0, ck_and1, bI_t, bI_f, nar_0, nar_1]
      rw [if_neg (by omega), if_neg (by omega)]
      by_cases e : i = s
      · rw [if_pos e]
        simp only [f_L_errors_J143, f_L_errors_J144, il_0, il_1, nI_add]
        exact NO_ (by simp [takS, e]) d h2
      · rw [if_neg e, if_bI]
        cases hh : isOfS A D i
        · rw [if_neg (by decide)]
          simp only [f_L_errors_J143, f_L_errors_J144, il_0, il_1, nI_add]
          exact NO_ (by simp [takS, hh]) d h2
        · rw [if_pos rfl]
          refine ok_bind (L_apart hS (shp_rng hW hs) (shp_rng hW hlt)) (fun z hz9 => ?_)
          obtain ⟨z1, z2⟩ := hz9
          have hb : edN (A 17 0 s) (A 17 0 i) ≤ 8 := by
            have := ed_le (dig (A 17 0 s)) (dig (A 17 0 i)) (figs (A 17 0 s)) (figs (A 17 0 i))
            have := figs_b (A 17 0 s); have := figs_b (A 17 0 i)
            unfold edN; omega
          simp (disch := first | assumption | omega) only [z1, il_0, il_1, il_2, il_3, il_4, il_5, il_6, il_7, il_8, il_9, il_10, il_11, il_12, il_13, il_15, il_16, il_17, il_18, il_19, il_20, il_21, il_22, il_23, il_24, il_26, il_27, il_28, il_30, il_32, il_34, il_36, il_38, il_40, il_43, il_44, il_46, il_47, il_48, il_49, il_50, il_51, il_60, il_64, il_100, il_108, il_111, il_127, il_971, il_972, il_999, il_1000, il_1024, il_1087, il_2500, il_5000, il_9999, il_60000, il_2147483647, nI_add, nI_mulI, nI_subI, nI_divI, nI_cl, nI_leJ, nI_ltJ, nI_eqJ, nI_neM, nI_neM', il_31]
          by_cases e2 : far < edN (A 17 0 s) (A 17 0 i)
          · rw [if_pos e2]
            simp only [f_L_errors_J143, f_L_errors_J144, il_0, il_1, nI_add]
            refine NO_ ?_ z.2 (h2.tr z2)
            show (decide (i ≠ s) && isOfS A D i && decide (farS A s i ≤ far)) = false
            rw [decide_eq_false (show ¬ farS A s i ≤ far from by show ¬ edN _ _ ≤ far; omega), Bool.and_false]
          · rw [if_neg e2]
            simp only [f_L_errors_J144, il_1, nI_add]
            have ht : takS A D far s i = true := by
              show (decide (i ≠ s) && isOfS A D i && decide (farS A s i ≤ far)) = true
              rw [decide_eq_true (show i ≠ s from e), hh, decide_eq_true (show farS A s i ≤ far from by show edN _ _ ≤ far; omega)]; rfl
            have hall : anyR (takS A D far s) 50 = true := anyR_iff.mpr ⟨i, hlt, ht⟩
            cases f with
            | zero => omega
            | succ f =>
              show ok (f_L_errors_B89 σ (f_L_errors_L89 σ f k a 272 x 266 274 (nI far) x6 (nI s) (nI P)) k a 272 x 266 274 (nI far) x6 (nI s) (nI P) (nI 1) (nI (i + 1)) z.2) Q
              have hgo := hk true z.2 hall.symm (h2.tr z2)
              have e9 : ¬ 1 = 0 := by omega
              simp (disch := first | assumption | omega) only [f_L_errors_B89, e9, if_false, il_0, il_1, il_2, il_3, il_4, il_5, il_6, il_7, il_8, il_9, il_10, il_11, il_12, il_13, il_15, il_16, il_17, il_18, il_19, il_20, il_21, il_22, il_23, il_24, il_26, il_27, il_28, il_30, il_32, il_34, il_36, il_38, il_40, il_43, il_44, il_46, il_47, il_48, il_49, il_50, il_51, il_60, il_64, il_100, il_108, il_111, il_127, il_971, il_972, il_999, il_1000, il_1024, il_1087, il_2500, il_5000, il_9999, il_60000, il_2147483647, nI_add, nI_mulI, nI_subI, nI_divI, nI_cl, nI_leJ, nI_ltJ, nI_eqJ, nI_neM, nI_neM', il_31]
              split
              · exact hgo
              · rw [if_neg (by omega)]; exact hgo
