/-! the class: shapes -/
/-- g digits from the last on are strokes -/
def dgs : Nat → Nat → Bool
  | 0, _ => true
  | g + 1, n => (decide (1 ≤ n % 10) && decide (n % 10 ≤ 4)) && dgs g (n / 10)
def shpB (n : Nat) : Bool := decide (1 ≤ n) && decide (n ≤ 4444) && (List.range (figs n)).all (fun p => decide (1 ≤ dig n p) && decide (dig n p ≤ 4))
def shfB (n : Nat) : Bool := (dgs (figs n) n == dok 4 n || n == 0) && (!(dok 4 n && decide (1 ≤ n)) || shpB n)
set_option maxRecDepth 100000 in
theorem shf_all : ∀ a, a < 100 → ∀ b, b < 100 → shfB (100 * a + b) = true := by decide +kernel
theorem shf {n : Nat} (h : n < 10000) : shfB n = true := by
  have h1 := shf_all (n / 100) (by omega) (n % 100) (by omega)
  rwa [show 100 * (n / 100) + n % 100 = n by omega] at h1
theorem shpB_is {n : Nat} (h : shpB n = true) : isShape n := by
  simp only [shpB, Bool.and_eq_true, decide_eq_true_eq, List.all_eq_true, List.mem_range] at h
  exact ⟨h.1.1, h.1.2, fun p hp => h.2 p hp⟩
theorem dgs_dok {n : Nat} (h : n < 10000) (h0 : 1 ≤ n) : dgs (figs n) n = dok 4 n := by
  have h1 := shf h
  simp only [shfB, Bool.and_eq_true, Bool.or_eq_true, beq_iff_eq] at h1
  rcases h1.1 with h2 | h2
  · exact h2
  · omega
theorem dok_is {n : Nat} (h : n < 10000) (h0 : 1 ≤ n) (hd : dok 4 n = true) : isShape n := by
  have h1 := shf h
  simp only [shfB, Bool.and_eq_true, Bool.or_eq_true, beq_iff_eq, hd, h0, decide_true, Bool.true_and, Bool.not_true] at h1
  rcases h1.2 with h2 | h2
  · cases h2
  · exact shpB_is h2
theorem shB_is {x : Int32} (h : shB x = true) : ∃ n, x = nI n ∧ isShape n := by
  rcases ix_or x 4445 (by decide) with ⟨n, hn, rfl, -⟩ | ⟨hi, -⟩
  · refine ⟨n, rfl, ?_⟩
    simp only [shB, Bool.and_eq_true, nI_cl (show n < 2147483648 by omega), ix1 (show n < 2147483648 by omega) (show 1 < 2147483648 by omega)] at h
    have h0 : 1 ≤ n := by
      have := h.1.2; simp at this; omega
    exact dok_is (by omega) h0 h.2
  · simp [shB, hi] at h
theorem figs_b (n : Nat) : 1 ≤ figs n ∧ figs n ≤ 4 := by unfold figs; repeat (first | split | omega)
theorem C_figures {σ : Sg} {d : Dt} {n : Nat} (hn : n < 2147483648) : f_X6_figuresOf σ (nI n) d = some (nI (figs n), d) := by
  by_cases h1 : n < 10
  · have e : figs n = 1 := by simp [figs, h1]
    have h1' : ¬ 10 ≤ n := by omega
    rw [e]; simp (disch := first | assumption | omega) [f_X6_figuresOf_J32, f_X6_figuresOf, h1', il_0, il_1, il_2, il_3, il_4, il_5, il_6, il_7, il_8, il_9, il_10, il_11, il_12, il_13, il_15, il_16, il_17, il_18, il_19, il_20, il_21, il_22, il_23, il_24, il_26, il_27, il_28, il_30, il_32, il_34, il_36, il_38, il_40, il_43, il_44, il_46, il_47, il_48, il_49, il_50, il_51, il_60, il_64, il_100, il_108, il_111, il_127, il_971, il_972, il_999, il_1000, il_1024, il_1087, il_2500, il_5000, il_9999, il_60000, il_2147483647, nI_add, nI_mulI, nI_subI, nI_divI, nI_cl, nI_leJ, nI_ltJ, nI_eqJ, nI_neM, nI_neM']
  · have h1' : 10 ≤ n := by omega
    by_cases h2 : n < 100
    · have e : figs n = 2 := by simp [figs, h1, h2]
      have h2' : ¬ 100 ≤ n := by omega
      rw [e]; simp (disch := first | assumption | omega) [f_X6_figuresOf_J32, f_X6_figuresOf, h1', h2', il_0, il_1, il_2, il_3, il_4, il_5, il_6, il_7, il_8, il_9, il_10, il_11, il_12, il_13, il_15, il_16, il_17, il_18, il_19, il_20, il_21, il_22, il_23, il_24, il_26, il_27, il_28, il_30, il_32, il_34, il_36, il_38, il_40, il_43, il_44, il_46, il_47, il_48, il_49, il_50, il_51, il_60, il_64, il_100, il_108, il_111, il_127, il_971, il_972, il_999, il_1000, il_1024, il_1087, il_2500, il_5000, il_9999, il_60000, il_2147483647, nI_add, nI_mulI, nI_subI, nI_divI, nI_cl, nI_leJ, nI_ltJ, nI_eqJ, nI_neM, nI_neM']
    · have h2' : 100 ≤ n := by omega
      by_cases h3 : n < 1000
      · have e : figs n = 3 := by simp [figs, h1, h2, h3]
        have h3' : ¬ 1000 ≤ n := by omega
        rw [e]; simp (disch := first | assumption | omega) [f_X6_figuresOf_J32, f_X6_figuresOf, h1', h2', h3', il_0, il_1, il_2, il_3, il_4, il_5, il_6, il_7, il_8, il_9, il_10, il_11, il_12, il_13, il_15, il_16, il_17, il_18, il_19, il_20, il_21, il_22, il_23, il_24, il_26, il_27, il_28, il_30, il_32, il_34, il_36, il_38, il_40, il_43, il_44, il_46, il_47, il_48, il_49, il_50, il_51, il_60, il_64, il_100, il_108, il_111, il_127, il_971, il_972, il_999, il_1000, il_1024, il_1087, il_2500, il_5000, il_9999, il_60000, il_2147483647, nI_add, nI_mulI, nI_subI, nI_divI, nI_cl, nI_leJ, nI_ltJ, nI_eqJ, nI_neM, nI_neM']
      · have e : figs n = 4 := by simp [figs, h1, h2, h3]
        have h3' : 1000 ≤ n := by omega
        rw [e]; simp (disch := first | assumption | omega) [f_X6_figuresOf_J32, f_X6_figuresOf, h1', h2', h3', il_0, il_1, il_2, il_3, il_4, il_5, il_6, il_7, il_8, il_9, il_10, il_11, il_12, il_13, il_15, il_16, il_17, il_18, il_19, il_20, il_21, il_22, il_23, il_24, il_26, il_27, il_28, il_30, il_32, il_34, il_36, il_38, il_40, il_43, il_44, il_46, il_47, il_48, il_49, il_50, il_51, il_60, il_64, il_100, il_108, il_111, il_127, il_971, il_972, il_999, il_1000, il_1024, il_1087, il_2500, il_5000, il_9999, il_60000, il_2147483647, nI_add, nI_mulI, nI_subI, nI_divI, nI_cl, nI_leJ, nI_ltJ, nI_eqJ, nI_neM, nI_neM']
theorem nI_addm {a : Nat} (h : 1 ≤ a) : nI a + -nI 1 = nI (a - 1) := by
  rw [← Int32.sub_eq_add_neg, nI_subI h]
theorem C_isOne_L {σ : Sg} {d : Dt} {k : Dt → Option (Int32 × Dt)} : ∀ (g f n : Nat), g ≤ 4 → g < f → n < 10000 → f_X6_isOne_L21 σ f k (nI n) (nI g) d = if dgs g n = true then k d else some (nI 0, d) := by
  intro g
  induction g with
  | zero =>
    intro f n hg hf hn
    cases f with
    | zero => omega
    | succ f =>
      show f_X6_isOne_B21 σ (f_X6_isOne_L21 σ f k) k (nI n) (nI 0) d = _
      simp (disch := first | assumption | omega) only [f_X6_isOne_B21, il_0, il_1, il_2, il_3, il_4, il_5, il_6, il_7, il_8, il_9, il_10, il_11, il_12, il_13, il_15, il_16, il_17, il_18, il_19, il_20, il_21, il_22, il_23, il_24, il_26, il_27, il_28, il_30, il_32, il_34, il_36, il_38, il_40, il_43, il_44, il_46, il_47, il_48, il_49, il_50, il_51, il_60, il_64, il_100, il_108, il_111, il_127, il_971, il_972, il_999, il_1000, il_1024, il_1087, il_2500, il_5000, il_9999, il_60000, il_2147483647, nI_add, nI_mulI, nI_subI, nI_divI, nI_cl, nI_leJ, nI_ltJ, nI_eqJ, nI_neM, nI_neM', aw_sI_e, aw_sI_n, aw_sI_2, aw_sL_e, aw_sL_n, aw_sL_1, Option.bind_some, aw_chkT, ck_and0, ck_and1, bI_t, bI_f, nar_0, nar_1]
      rw [if_pos (by omega)]
      rfl
  | succ g ih =>
    intro f n hg hf hn
    cases f with
    | zero => omega
    | succ f =>
      have IH := ih f (n / 10) (by omega) (by omega) (by omega)
      show f_X6_isOne_B21 σ (f_X6_isOne_L21 σ f k) k (nI n) (nI (g + 1)) d = _
      have h3 : n - n / 10 * 10 = n % 10 := by omega
      have hg0 : ¬ g + 1 ≤ 0 := by omega
      simp (disch := first | assumption | omega) only [f_X6_isOne_J12, f_X6_isOne_J41, f_X6_isOne, f_X6_isOne_B21, h3, nI_addm, Nat.add_sub_cancel, il_0, il_1, il_2, il_3, il_4, il_5, il_6, il_7, il_8, il_9, il_10, il_11, il_12, il_13, il_15, il_16, il_17, il_18, il_19, il_20, il_21, il_22, il_23, il_24, il_26, il_27, il_28, il_30, il_32, il_34, il_36, il_38, il_40, il_43, il_44, il_46, il_47, il_48, il_49, il_50, il_51, il_60, il_64, il_100, il_108, il_111, il_127, il_971, il_972, il_999, il_1000, il_1024, il_1087, il_2500, il_5000, il_9999, il_60000, il_2147483647, nI_add, nI_mulI, nI_subI, nI_divI, nI_cl, nI_leJ, nI_ltJ, nI_eqJ, nI_neM, nI_neM', aw_sI_e, aw_sI_n, aw_sI_2, aw_sL_e, aw_sL_n, aw_sL_1, Option.bind_some, aw_chkT, ck_and0, ck_and1, bI_t, bI_f, nar_0, nar_1]
      rw [if_neg hg0]
      by_cases g1 : n % 10 < 1
      · have e : dgs (g + 1) n = false := by simp [dgs]; omega
        rw [if_pos g1, e]; rfl
      · rw [if_neg g1]
        by_cases g2 : n % 10 ≤ 4
        · have e : dgs (g + 1) n = dgs g (n / 10) := by
            have g3 : 1 ≤ n % 10 := by omega
            simp only [dgs, g3, g2, decide_true, Bool.true_and, Bool.and_true]
          rw [if_pos g2, e, ← IH]
        · have e : dgs (g + 1) n = false := by simp [dgs, g2]
          rw [if_neg g2, e]; rfl
theorem C_isOne {σ : Sg} {d : Dt} (x : Int32) : f_X6_isOne σ x d = some (bI (shB x), d) := by
  cases hi : (ix x 10000 && !ix x 1)
  · have e : shB x = false := by
      cases h : shB x
      · rfl
      · obtain ⟨n, rfl, h1, h2, -⟩ := shB_is h
        rw [ix1 (by omega) (by omega), ix1 (by omega) (by omega)] at hi
        simp at hi; omega
    rw [e]
    simp (disch := first | assumption | omega) [f_X6_isOne_J12, f_X6_isOne_J41, f_X6_isOne, ixi_4, hi, il_0, il_1, il_2, il_3, il_4, il_5, il_6, il_7, il_8, il_9, il_10, il_11, il_12, il_13, il_15, il_16, il_17, il_18, il_19, il_20, il_21, il_22, il_23, il_24, il_26, il_27, il_28, il_30, il_32, il_34, il_36, il_38, il_40, il_43, il_44, il_46, il_47, il_48, il_49, il_50, il_51, il_60, il_64, il_100, il_108, il_111, il_127, il_971, il_972, il_999, il_1000, il_1024, il_1087, il_2500, il_5000, il_9999, il_60000, il_2147483647, nI_add, nI_mulI, nI_subI, nI_divI, nI_cl, nI_leJ, nI_ltJ, nI_eqJ, nI_neM, nI_neM', aw_sI_e, aw_sI_n, aw_sI_2, aw_sL_e, aw_sL_n, aw_sL_1, Option.bind_some, aw_chkT, ck_and0, ck_and1, bI_t, bI_f, nar_0, nar_1]
  · have hx : ∃ n, 1 ≤ n ∧ n < 10000 ∧ x = nI n := by
      rcases ix_or x 10000 (by decide) with ⟨n, hn, rfl, -⟩ | ⟨h, -⟩
      · rw [ix1 (by omega) (by omega), ix1 (by omega) (by omega)] at hi
        simp at hi
        exact ⟨n, by omega, hn, rfl⟩
      · rw [h] at hi; cases hi
    obtain ⟨n, hn1, hn2, rfl⟩ := hx
    have e1 : f_X6_isOne σ (nI n) d = f_X6_isOne_L21 σ aw_FU (fun d_5 => aw_chk (((1 : Int32)) &&& 1 = ((1 : Int32))) (some ((1 : Int32), d_5))) (nI n) (nI (figs n)) d := by
      have hi2 := hi
      simp (disch := first | assumption | omega) only [f_X6_isOne, C_figures, ixi_4, Nat.reduceAdd, hi, if_true, il_0, il_1, il_2, il_3, il_4, il_5, il_6, il_7, il_8, il_9, il_10, il_11, il_12, il_13, il_15, il_16, il_17, il_18, il_19, il_20, il_21, il_22, il_23, il_24, il_26, il_27, il_28, il_30, il_32, il_34, il_36, il_38, il_40, il_43, il_44, il_46, il_47, il_48, il_49, il_50, il_51, il_60, il_64, il_100, il_108, il_111, il_127, il_971, il_972, il_999, il_1000, il_1024, il_1087, il_2500, il_5000, il_9999, il_60000, il_2147483647, nI_add, nI_mulI, nI_subI, nI_divI, nI_cl, nI_leJ, nI_ltJ, nI_eqJ, nI_neM, nI_neM', aw_sI_e, aw_sI_n, aw_sI_2, aw_sL_e, aw_sL_n, aw_sL_1, Option.bind_some, aw_chkT, ck_and0, ck_and1, bI_t, bI_f, nar_0, nar_1]
      rw [if_neg (by omega), if_pos (by omega)]
    have hf := figs_b n
    rw [e1, C_isOne_L (figs n) aw_FU n hf.2 (by show _ < 5000; omega) hn2, dgs_dok hn2 hn1]
    refine Eq.trans (b := some (bI (dok 4 n), d)) (by cases dok 4 n <;> rfl) ?_
    congr 3
    cases h : dok 4 n
    · cases h2 : shB (nI n)
      · rfl
      · simp only [shB, Bool.and_eq_true, nI_cl (show n < 2147483648 by omega), h] at h2
        exact absurd h2.2 (by simp)
    · have h2 := dok_is hn2 hn1 h
      have h3 : n < 4445 := by have := h2.2.1; omega
      simp only [shB, nI_cl (show n < 2147483648 by omega), h, ix1 (show n < 2147483648 by omega) (show 1 < 2147483648 by omega), ix1 (show n < 2147483648 by omega) (show 4445 < 2147483648 by omega), h3]
      have h4 : ¬ n < 1 := by omega
      simp [h4]
/-- the strokes put, from the last one on -/
theorem C_put_L {σ : Sg} {s n N : Nat} {d0 : Dt} {Q : Unit × Dt → Prop} {k : Dt → Option (Unit × Dt)} (hS : Lay σ) (hs : s < 50) (hN : N ≤ 4) (hnb : n < 10000) (hk : ∀ d', (∀ p, p < N → d'.1 (38 + s) p = nI (n / 10 ^ (N - 1 - p) % 10)) → (∀ c, c ≠ 38 + s → d'.1 c = d0.1 c) → d'.2 = d0.2 → ok (k d') Q) :
    ∀ (m f : Nat) (d : Dt), m ≤ N → m < f → (∀ p, m ≤ p → p < N → d.1 (38 + s) p = nI (n / 10 ^ (N - 1 - p) % 10)) → (∀ c, c ≠ 38 + s → d.1 c = d0.1 c) → d.2 = d0.2 → ok (f_X6_put_L29 σ f k 33 (nI s) (nI (n / 10 ^ (N - m))) (nI m + -nI 1) d) Q := by
  intro m
  induction m with
  | zero =>
    intro f d hm hf h1 h2 h3
    cases f with
    | zero => omega
    | succ f =>
      show ok (f_X6_put_B29 σ _ k 33 (nI s) _ (nI 0 + -nI 1) d) Q
      unfold f_X6_put_B29
      rw [if_pos (by decide)]
      exact hk d (fun p hp => h1 p (by omega) hp) h2 h3
  | succ m ih =>
    intro f d hm hf h1 h2 h3
    cases f with
    | zero => omega
    | succ f =>
      have hq : n / 10 ^ (N - (m + 1)) ≤ n := Nat.div_le_self _ _
      have e10 : n / 10 ^ (N - (m + 1)) / 10 = n / 10 ^ (N - m) := by
        rw [Nat.div_div_eq_div_mul, ← Nat.pow_succ]
        congr 2; omega
      have em : n / 10 ^ (N - (m + 1)) - n / 10 ^ (N - m) * 10 = n / 10 ^ (N - 1 - m) % 10 := by
        rw [← e10, show N - 1 - m = N - (m + 1) by omega]; omega
      show ok (f_X6_put_B29 σ (f_X6_put_L29 σ f k 33 (nI s)) k 33 (nI s) (nI (n / 10 ^ (N - (m + 1)))) (nI (m + 1) + -nI 1) d) Q
      rw [nI_addm (by omega), Nat.add_sub_cancel]
      generalize n / 10 ^ (N - (m + 1)) = q at *
      have hlt : ¬ m < 0 := by omega
      simp (disch := first | assumption | omega) only [f_X6_put_B29, e10, em, lo_0 hS, lo_1 hS, lo_33 hS, lo_34 hS, lo_89 hS, lo_100 hS, lo_123 hS, lo_146 hS, lo_148 hS, lo_176 hS, lo_182 hS, lo_D hS, lo_G hS, lr_37 hS, lr_93 hS, lr_101 hS, lr_124 hS, lr_152 hS, lr_169 hS, lr_0_0 hS, lr_0_1 hS, lr_0_2 hS, lr_0_3 hS, lr_0_5 hS, lr_0_6 hS, lr_0_7 hS, lr_0_8 hS, lr_0_9 hS, lr_0_10 hS, lr_0_11 hS, lr_0_12 hS, lr_1_0 hS, lr_1_2 hS, lr_33_0 hS, lr_33_1 hS, lr_33_2 hS, lr_33_3 hS, lr_34_0 hS, lr_89_0 hS, lr_89_1 hS, lr_89_2 hS, lr_89_3 hS, lr_89_4 hS, lr_89_5 hS, lr_100_0 hS, lr_100_1 hS, lr_123_0 hS, lr_123_1 hS, lr_146_0 hS, lr_148_0 hS, lr_148_1 hS, lr_148_2 hS, lr_148_3 hS, lr_148_4 hS, lr_148_5 hS, lr_176_0 hS, lr_176_1 hS, lr_176_4 hS, lr_176_6 hS, lr_176_7 hS, lr_182_0 hS, lr_D_0 hS, lr_D_1 hS, lr_D_2 hS, lr_D_3 hS, lr_D_5 hS, lr_D_6 hS, lr_D_r hS, lr_31 hS, lr_32 hS, lr_G_2 hS, lr_G_3 hS, lr_G_4 hS, li_2 hS, li_3 hS, li_31 hS, li_32 hS, li_35 hS, li_36 hS, li_37 hS, li_88 hS, li_90 hS, li_91 hS, li_92 hS, li_93 hS, li_98 hS, li_99 hS, li_101 hS, li_122 hS, li_124 hS, li_145 hS, li_147 hS, li_149 hS, li_150 hS, li_151 hS, li_152 hS, li_169 hS, li_175 hS, li_177 hS, li_178 hS, li_179 hS, li_180 hS, li_181 hS, li_183 hS, li_265 hS, li_266 hS, li_267 hS, li_268 hS, li_269 hS, li_270 hS, li_271 hS, li_272 hS, li_273 hS, li_274 hS, li_275 hS, li_276 hS, li_38 hS, li_94 hS, li_102 hS, li_125 hS, li_153 hS, li_170 hS, li_D_1 hS, li_D_2 hS, li_D_3 hS, li_D_4 hS, li_D_5 hS, li_D_26 hS, li_D_r hS, li_G_1 hS, li_G_2 hS, li_G_3 hS, li_rA hS, li_rK hS, li_rX hS, il_0, il_1, il_2, il_3, il_4, il_5, il_6, il_7, il_8, il_9, il_10, il_11, il_12, il_13, il_15, il_16, il_17, il_18, il_19, il_20, il_21, il_22, il_23, il_24, il_26, il_27, il_28, il_30, il_32, il_34, il_36, il_38, il_40, il_43, il_44, il_46, il_47, il_48, il_49, il_50, il_51, il_60, il_64, il_100, il_108, il_111, il_127, il_971, il_972, il_999, il_1000, il_1024, il_1087, il_2500, il_5000, il_9999, il_60000, il_2147483647, nI_add, nI_mulI, nI_subI, nI_divI, nI_cl, nI_leJ, nI_ltJ, nI_eqJ, nI_neM, nI_neM', aw_sI_e, aw_sI_n, aw_sI_2, aw_sL_e, aw_sL_n, aw_sL_1, Option.bind_some, aw_chkT, ck_and0, ck_and1, bI_t, bI_f, nar_0, nar_1]
      rw [if_neg hlt]
      have IH := fun d' => ih f d' (by omega) (by omega)
      refine IH _ (fun p hp1 hp2 => ?_) (fun c hc => ?_) h3
      · by_cases e : p = m
        · subst e; rw [aw_sI_e rfl rfl]
        · rw [aw_sI_n (by omega)]; exact h1 p (by omega) hp2
      · rw [← h2 c hc]; funext j; exact aw_sI_n (by omega)
theorem RepC.w_shape {A : St} {d d' : Dt} {s n : Nat} (hs : s < 50) (h20 : A 2 0 0 ≤ 20) (h : RepC A d) (h1 : d'.1 36 = (aw_sI d 36 s (nI n)).1 36) (h2 : d'.1 88 = (aw_sI d 88 s (nI (figs n))).1 88) (h3 : ∀ p, p < figs n → d'.1 (38 + s) p = nI (dig n p)) (h4 : ∀ c, c ≠ 36 → c ≠ 88 → c ≠ 38 + s → d'.1 c = d.1 c) : RepC (stU A 17 0 s n) d' := by
  refine h.cg h20 ?_ (fun k hk => ?_) (fun k hk => ?_) ?_ ?_ ⟨fun f hf i k => stU_n (by omega), fun c hc => h4 c (by omega) (by omega) (by omega)⟩ (fun t ht => ?_) (fun g hg => ?_) (fun E hE => ?_)
  · rw [h4 1 (by omega) (by omega) (by omega), stU_n (by omega)]; exact rc_dr h
  · rw [h4 2 (by omega) (by omega) (by omega), stU_n (by omega)]; exact rc_draft h hk
  · rw [h4 3 (by omega) (by omega) (by omega), stU_n (by omega)]; exact rc_wt h hk
  · rw [h4 1 (by omega) (by omega) (by omega), stU_n (by omega)]; exact rc_words h
  · rw [h4 0 (by omega) (by omega) (by omega), stU_n (by omega)]; exact rc_des h
  · by_cases e : t = s
    · subst e
      rw [stU_e rfl rfl rfl, h1, h2, aw_sI_e rfl rfl, aw_sI_e rfl rfl]
      exact ⟨rfl, rfl, h3⟩
    · rw [stU_n (by omega), h1, h2, aw_sI_n (by omega), aw_sI_n (by omega), h4 (38 + t) (by omega) (by omega) (by omega)]
      exact h.s ht
  · rw [h4 90 (by omega) (by omega) (by omega), h4 91 (by omega) (by omega) (by omega), h4 92 (by omega) (by omega) (by omega), stU_n (by omega), stU_n (by omega), stU_n (by omega)]
    exact h.g hg
  · rw [stU_n (by omega)] at hE
    exact (h.G hE).cg (fun f hf k => stU_n (by omega)) (fun f hf => stU_n (by omega)) (fun c hc1 hc2 => h4 c (by omega) (by omega) (by omega))
theorem C_shape {A : St} {σ : Sg} {d : Dt} (hS : Lay σ) (hn : ly_n σ = A 11 0 0) (hW : WF A) (hC : RepC A d) (s x : Int32) : ok (f_X10_shape σ 0 s x d) (PX cc_I d (o_shape A s x)) := by
  cases g1 : ix s 50
  · have eo : o_shape A s x = (1, nI 0, A) := by simp [o_shape, g1]
    rw [eo]
    simp (disch := first | assumption | omega) [f_X10_shape, C_reqSign, aw_th_L, rq_f, g1, lo_0 hS, lo_1 hS, lo_33 hS, lo_34 hS, lo_89 hS, lo_100 hS, lo_123 hS, lo_146 hS, lo_148 hS, lo_176 hS, lo_182 hS, lo_D hS, lo_G hS, lr_37 hS, lr_93 hS, lr_101 hS, lr_124 hS, lr_152 hS, lr_169 hS, lr_0_0 hS, lr_0_1 hS, lr_0_2 hS, lr_0_3 hS, lr_0_5 hS, lr_0_6 hS, lr_0_7 hS, lr_0_8 hS, lr_0_9 hS, lr_0_10 hS, lr_0_11 hS, lr_0_12 hS, lr_1_0 hS, lr_1_2 hS, lr_33_0 hS, lr_33_1 hS, lr_33_2 hS, lr_33_3 hS, lr_34_0 hS, lr_89_0 hS, lr_89_1 hS, lr_89_2 hS, lr_89_3 hS, lr_89_4 hS, lr_89_5 hS, lr_100_0 hS, lr_100_1 hS, lr_123_0 hS, lr_123_1 hS, lr_146_0 hS, lr_148_0 hS, lr_148_1 hS, lr_148_2 hS, lr_148_3 hS, lr_148_4 hS, lr_148_5 hS, lr_176_0 hS, lr_176_1 hS, lr_176_4 hS, lr_176_6 hS, lr_176_7 hS, lr_182_0 hS, lr_D_0 hS, lr_D_1 hS, lr_D_2 hS, lr_D_3 hS, lr_D_5 hS, lr_D_6 hS, lr_D_r hS, lr_31 hS, lr_32 hS, lr_G_2 hS, lr_G_3 hS, lr_G_4 hS, li_2 hS, li_3 hS, li_31 hS, li_32 hS, li_35 hS, li_36 hS, li_37 hS, li_88 hS, li_90 hS, li_91 hS, li_92 hS, li_93 hS, li_98 hS, li_99 hS, li_101 hS, li_122 hS, li_124 hS, li_145 hS, li_147 hS, li_149 hS, li_150 hS, li_151 hS, li_152 hS, li_169 hS, li_175 hS, li_177 hS, li_178 hS, li_179 hS, li_180 hS, li_181 hS, li_183 hS, li_265 hS, li_266 hS, li_267 hS, li_268 hS, li_269 hS, li_270 hS, li_271 hS, li_272 hS, li_273 hS, li_274 hS, li_275 hS, li_276 hS, li_38 hS, li_94 hS, li_102 hS, li_125 hS, li_153 hS, li_170 hS, li_D_1 hS, li_D_2 hS, li_D_3 hS, li_D_4 hS, li_D_5 hS, li_D_26 hS, li_D_r hS, li_G_1 hS, li_G_2 hS, li_G_3 hS, li_rA hS, li_rK hS, li_rX hS, il_0, il_1, il_2, il_3, il_4, il_5, il_6, il_7, il_8, il_9, il_10, il_11, il_12, il_13, il_15, il_16, il_17, il_18, il_19, il_20, il_21, il_22, il_23, il_24, il_26, il_27, il_28, il_30, il_32, il_34, il_36, il_38, il_40, il_43, il_44, il_46, il_47, il_48, il_49, il_50, il_51, il_60, il_64, il_100, il_108, il_111, il_127, il_971, il_972, il_999, il_1000, il_1024, il_1087, il_2500, il_5000, il_9999, il_60000, il_2147483647, nI_add, nI_mulI, nI_subI, nI_divI, nI_cl, nI_leJ, nI_ltJ, nI_eqJ, nI_neM, nI_neM', aw_sI_e, aw_sI_n, aw_sI_2, aw_sL_e, aw_sL_n, aw_sL_1, Option.bind_some, aw_chkT, ck_and0, ck_and1, bI_t, bI_f, nar_0, nar_1]
    exact ok_some (PX.thr rfl hC)
  · cases g2 : shB x
    · have eo : o_shape A s x = (2, nI 0, A) := by simp [o_shape, g1, g2]
      rw [eo]
      simp (disch := first | assumption | omega) [f_X10_shape, C_reqSign, C_isOne, aw_th_R, rq_t, g1, g2, lo_0 hS, lo_1 hS, lo_33 hS, lo_34 hS, lo_89 hS, lo_100 hS, lo_123 hS, lo_146 hS, lo_148 hS, lo_176 hS, lo_182 hS, lo_D hS, lo_G hS, lr_37 hS, lr_93 hS, lr_101 hS, lr_124 hS, lr_152 hS, lr_169 hS, lr_0_0 hS, lr_0_1 hS, lr_0_2 hS, lr_0_3 hS, lr_0_5 hS, lr_0_6 hS, lr_0_7 hS, lr_0_8 hS, lr_0_9 hS, lr_0_10 hS, lr_0_11 hS, lr_0_12 hS, lr_1_0 hS, lr_1_2 hS, lr_33_0 hS, lr_33_1 hS, lr_33_2 hS, lr_33_3 hS, lr_34_0 hS, lr_89_0 hS, lr_89_1 hS, lr_89_2 hS, lr_89_3 hS, lr_89_4 hS, lr_89_5 hS, lr_100_0 hS, lr_100_1 hS, lr_123_0 hS, lr_123_1 hS, lr_146_0 hS, lr_148_0 hS, lr_148_1 hS, lr_148_2 hS, lr_148_3 hS, lr_148_4 hS, lr_148_5 hS, lr_176_0 hS, lr_176_1 hS, lr_176_4 hS, lr_176_6 hS, lr_176_7 hS, lr_182_0 hS, lr_D_0 hS, lr_D_1 hS, lr_D_2 hS, lr_D_3 hS, lr_D_5 hS, lr_D_6 hS, lr_D_r hS, lr_31 hS, lr_32 hS, lr_G_2 hS, lr_G_3 hS, lr_G_4 hS, li_2 hS, li_3 hS, li_31 hS, li_32 hS, li_35 hS, li_36 hS, li_37 hS, li_88 hS, li_90 hS, li_91 hS, li_92 hS, li_93 hS, li_98 hS, li_99 hS, li_101 hS, li_122 hS, li_124 hS, li_145 hS, li_147 hS, li_149 hS, li_150 hS, li_151 hS, li_152 hS, li_169 hS, li_175 hS, li_177 hS, li_178 hS, li_179 hS, li_180 hS, li_181 hS, li_183 hS, li_265 hS, li_266 hS, li_267 hS, li_268 hS, li_269 hS, li_270 hS, li_271 hS, li_272 hS, li_273 hS, li_274 hS, li_275 hS, li_276 hS, li_38 hS, li_94 hS, li_102 hS, li_125 hS, li_153 hS, li_170 hS, li_D_1 hS, li_D_2 hS, li_D_3 hS, li_D_4 hS, li_D_5 hS, li_D_26 hS, li_D_r hS, li_G_1 hS, li_G_2 hS, li_G_3 hS, li_rA hS, li_rK hS, li_rX hS, il_0, il_1, il_2, il_3, il_4, il_5, il_6, il_7, il_8, il_9, il_10, il_11, il_12, il_13, il_15, il_16, il_17, il_18, il_19, il_20, il_21, il_22, il_23, il_24, il_26, il_27, il_28, il_30, il_32, il_34, il_36, il_38, il_40, il_43, il_44, il_46, il_47, il_48, il_49, il_50, il_51, il_60, il_64, il_100, il_108, il_111, il_127, il_971, il_972, il_999, il_1000, il_1024, il_1087, il_2500, il_5000, il_9999, il_60000, il_2147483647, nI_add, nI_mulI, nI_subI, nI_divI, nI_cl, nI_leJ, nI_ltJ, nI_eqJ, nI_neM, nI_neM', aw_sI_e, aw_sI_n, aw_sI_2, aw_sL_e, aw_sL_n, aw_sL_1, Option.bind_some, aw_chkT, ck_and0, ck_and1, bI_t, bI_f, nar_0, nar_1]
      exact ok_some (PX.thr rfl hC)
    · rcases ix_or s 50 (by omega) with ⟨j, hj, rfl, -⟩ | ⟨hi, -⟩
      rotate_left
      · rw [hi] at g1; cases g1
      obtain ⟨n, rfl, hn1, hn2, hn3⟩ := shB_is g2
      have eo : o_shape A (nI j) (nI n) = (0, nI (A 17 0 j), stU A 17 0 j n) := by simp (disch := first | assumption | omega) [o_shape, g1, g2, nI_cl]
      rw [eo]
      have q := (hC.s hj).1
      have hf := figs_b n
      have hp : ok (f_X6_put σ 33 (nI j) (nI n) d) (fun z => RepC (stU A 17 0 j n) z.2 ∧ FrC d z.2) := by
        simp (disch := first | assumption | omega) only [f_X6_put, C_figures, lo_0 hS, lo_1 hS, lo_33 hS, lo_34 hS, lo_89 hS, lo_100 hS, lo_123 hS, lo_146 hS, lo_148 hS, lo_176 hS, lo_182 hS, lo_D hS, lo_G hS, lr_37 hS, lr_93 hS, lr_101 hS, lr_124 hS, lr_152 hS, lr_169 hS, lr_0_0 hS, lr_0_1 hS, lr_0_2 hS, lr_0_3 hS, lr_0_5 hS, lr_0_6 hS, lr_0_7 hS, lr_0_8 hS, lr_0_9 hS, lr_0_10 hS, lr_0_11 hS, lr_0_12 hS, lr_1_0 hS, lr_1_2 hS, lr_33_0 hS, lr_33_1 hS, lr_33_2 hS, lr_33_3 hS, lr_34_0 hS, lr_89_0 hS, lr_89_1 hS, lr_89_2 hS, lr_89_3 hS, lr_89_4 hS, lr_89_5 hS, lr_100_0 hS, lr_100_1 hS, lr_123_0 hS, lr_123_1 hS, lr_146_0 hS, lr_148_0 hS, lr_148_1 hS, lr_148_2 hS, lr_148_3 hS, lr_148_4 hS, lr_148_5 hS, lr_176_0 hS, lr_176_1 hS, lr_176_4 hS, lr_176_6 hS, lr_176_7 hS, lr_182_0 hS, lr_D_0 hS, lr_D_1 hS, lr_D_2 hS, lr_D_3 hS, lr_D_5 hS, lr_D_6 hS, lr_D_r hS, lr_31 hS, lr_32 hS, lr_G_2 hS, lr_G_3 hS, lr_G_4 hS, li_2 hS, li_3 hS, li_31 hS, li_32 hS, li_35 hS, li_36 hS, li_37 hS, li_88 hS, li_90 hS, li_91 hS, li_92 hS, li_93 hS, li_98 hS, li_99 hS, li_101 hS, li_122 hS, li_124 hS, li_145 hS, li_147 hS, li_149 hS, li_150 hS, li_151 hS, li_152 hS, li_169 hS, li_175 hS, li_177 hS, li_178 hS, li_179 hS, li_180 hS, li_181 hS, li_183 hS, li_265 hS, li_266 hS, li_267 hS, li_268 hS, li_269 hS, li_270 hS, li_271 hS, li_272 hS, li_273 hS, li_274 hS, li_275 hS, li_276 hS, li_38 hS, li_94 hS, li_102 hS, li_125 hS, li_153 hS, li_170 hS, li_D_1 hS, li_D_2 hS, li_D_3 hS, li_D_4 hS, li_D_5 hS, li_D_26 hS, li_D_r hS, li_G_1 hS, li_G_2 hS, li_G_3 hS, li_rA hS, li_rK hS, li_rX hS, il_0, il_1, il_2, il_3, il_4, il_5, il_6, il_7, il_8, il_9, il_10, il_11, il_12, il_13, il_15, il_16, il_17, il_18, il_19, il_20, il_21, il_22, il_23, il_24, il_26, il_27, il_28, il_30, il_32, il_34, il_36, il_38, il_40, il_43, il_44, il_46, il_47, il_48, il_49, il_50, il_51, il_60, il_64, il_100, il_108, il_111, il_127, il_971, il_972, il_999, il_1000, il_1024, il_1087, il_2500, il_5000, il_9999, il_60000, il_2147483647, nI_add, nI_mulI, nI_subI, nI_divI, nI_cl, nI_leJ, nI_ltJ, nI_eqJ, nI_neM, nI_neM', aw_sI_e, aw_sI_n, aw_sI_2, aw_sL_e, aw_sL_n, aw_sL_1, Option.bind_some, aw_chkT, ck_and0, ck_and1, bI_t, bI_f, nar_0, nar_1]
        have hL := C_put_L (σ := σ) (s := j) (n := n) (N := figs n) (d0 := aw_sI (aw_sI d 36 j (nI n)) 88 j (nI (figs n))) (Q := fun z : Unit × Dt => RepC (stU A 17 0 j n) z.2 ∧ FrC d z.2) (k := fun d_17 => some ((), d_17)) hS hj hf.2 (by omega) (fun d' p1 p2 p3 => by
          refine ok_some ⟨hC.w_shape hj hW.words ?_ ?_ p1 ?_, ?_⟩
          · show d'.1 36 = _
            rw [p2 36 (by omega)]; funext i; exact aw_sI_n (by omega)
          · show d'.1 88 = _
            rw [p2 88 (by omega)]
            funext i
            by_cases e : i = j
            · rw [aw_sI_e rfl e, aw_sI_e rfl e]
            · rw [aw_sI_n (by omega), aw_sI_n (by omega), aw_sI_n (by omega)]
          · intro c c1 c2 c3
            show d'.1 c = _
            rw [p2 c c3]; funext i
            rw [aw_sI_n (by omega), aw_sI_n (by omega)]
          · intro c hc1 hc2
            show d'.1 c = _ ∧ d'.2 c = _
            rw [p2 c (by omega), p3]
            refine ⟨?_, rfl⟩
            funext i
            rw [aw_sI_n (by omega), aw_sI_n (by omega)]) (figs n) aw_FU _ (Nat.le_refl _) (by show _ < 5000; omega) (fun p h1 h2 => by omega) (fun c hc => rfl) rfl
        rw [Nat.sub_self, Nat.pow_zero, Nat.div_one, nI_addm hf.1] at hL
        exact hL
      obtain ⟨z, hz, z1, z2⟩ := hp
      simp (disch := first | assumption | omega) only [f_X10_shape, C_reqSign, C_isOne, aw_th_R, rq_t, g1, g2, bI_0, Bool.true_eq_false, if_false, if_true, q, hz, lo_0 hS, lo_1 hS, lo_33 hS, lo_34 hS, lo_89 hS, lo_100 hS, lo_123 hS, lo_146 hS, lo_148 hS, lo_176 hS, lo_182 hS, lo_D hS, lo_G hS, lr_37 hS, lr_93 hS, lr_101 hS, lr_124 hS, lr_152 hS, lr_169 hS, lr_0_0 hS, lr_0_1 hS, lr_0_2 hS, lr_0_3 hS, lr_0_5 hS, lr_0_6 hS, lr_0_7 hS, lr_0_8 hS, lr_0_9 hS, lr_0_10 hS, lr_0_11 hS, lr_0_12 hS, lr_1_0 hS, lr_1_2 hS, lr_33_0 hS, lr_33_1 hS, lr_33_2 hS, lr_33_3 hS, lr_34_0 hS, lr_89_0 hS, lr_89_1 hS, lr_89_2 hS, lr_89_3 hS, lr_89_4 hS, lr_89_5 hS, lr_100_0 hS, lr_100_1 hS, lr_123_0 hS, lr_123_1 hS, lr_146_0 hS, lr_148_0 hS, lr_148_1 hS, lr_148_2 hS, lr_148_3 hS, lr_148_4 hS, lr_148_5 hS, lr_176_0 hS, lr_176_1 hS, lr_176_4 hS, lr_176_6 hS, lr_176_7 hS, lr_182_0 hS, lr_D_0 hS, lr_D_1 hS, lr_D_2 hS, lr_D_3 hS, lr_D_5 hS, lr_D_6 hS, lr_D_r hS, lr_31 hS, lr_32 hS, lr_G_2 hS, lr_G_3 hS, lr_G_4 hS, li_2 hS, li_3 hS, li_31 hS, li_32 hS, li_35 hS, li_36 hS, li_37 hS, li_88 hS, li_90 hS, li_91 hS, li_92 hS, li_93 hS, li_98 hS, li_99 hS, li_101 hS, li_122 hS, li_124 hS, li_145 hS, li_147 hS, li_149 hS, li_150 hS, li_151 hS, li_152 hS, li_169 hS, li_175 hS, li_177 hS, li_178 hS, li_179 hS, li_180 hS, li_181 hS, li_183 hS, li_265 hS, li_266 hS, li_267 hS, li_268 hS, li_269 hS, li_270 hS, li_271 hS, li_272 hS, li_273 hS, li_274 hS, li_275 hS, li_276 hS, li_38 hS, li_94 hS, li_102 hS, li_125 hS, li_153 hS, li_170 hS, li_D_1 hS, li_D_2 hS, li_D_3 hS, li_D_4 hS, li_D_5 hS, li_D_26 hS, li_D_r hS, li_G_1 hS, li_G_2 hS, li_G_3 hS, li_rA hS, li_rK hS, li_rX hS, il_0, il_1, il_2, il_3, il_4, il_5, il_6, il_7, il_8, il_9, il_10, il_11, il_12, il_13, il_15, il_16, il_17, il_18, il_19, il_20, il_21, il_22, il_23, il_24, il_26, il_27, il_28, il_30, il_32, il_34, il_36, il_38, il_40, il_43, il_44, il_46, il_47, il_48, il_49, il_50, il_51, il_60, il_64, il_100, il_108, il_111, il_127, il_971, il_972, il_999, il_1000, il_1024, il_1087, il_2500, il_5000, il_9999, il_60000, il_2147483647, nI_add, nI_mulI, nI_subI, nI_divI, nI_cl, nI_leJ, nI_ltJ, nI_eqJ, nI_neM, nI_neM', aw_sI_e, aw_sI_n, aw_sI_2, aw_sL_e, aw_sL_n, aw_sL_1, Option.bind_some, aw_chkT, ck_and0, ck_and1, bI_t, bI_f, nar_0, nar_1]
      exact ok_some ⟨rfl, z1, z2⟩
