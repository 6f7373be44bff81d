/-! the class: dialects -/
theorem C_partOf {σ : Sg} {d : Dt} {c p : Nat} (hc : c < 2147483648) (hp : p < 4) : f_X10_partOf σ (nI c) (nI p) d = some (nI (ofc c p), d) := by
  rcases (show p = 0 ∨ p = 1 ∨ p = 2 ∨ p = 3 by omega) with rfl | rfl | rfl | rfl
  · simp (disch := first | assumption | omega) [f_X10_partOf, ofc, il_0, il_1, il_2, il_3, il_4, il_5, il_6, il_7, il_8, il_9, il_10, il_11, il_12, il_13, il_15, il_16, il_17, il_18, il_19, il_20, il_21, il_22, il_23, il_24, il_26, il_27, il_28, il_30, il_32, il_34, il_36, il_38, il_40, il_43, il_44, il_46, il_47, il_48, il_49, il_50, il_51, il_60, il_64, il_100, il_108, il_111, il_127, il_971, il_972, il_999, il_1000, il_1024, il_1087, il_2500, il_5000, il_9999, il_60000, il_2147483647, nI_add, nI_mulI, nI_subI, nI_divI, nI_cl, nI_leJ, nI_ltJ, nI_eqJ, nI_neM, nI_neM']
  · have e : c / 27 - c / 27 / 4 * 4 = c / 27 % 4 := by omega
    simp (disch := first | assumption | omega) [f_X10_partOf, ofc, e, il_0, il_1, il_2, il_3, il_4, il_5, il_6, il_7, il_8, il_9, il_10, il_11, il_12, il_13, il_15, il_16, il_17, il_18, il_19, il_20, il_21, il_22, il_23, il_24, il_26, il_27, il_28, il_30, il_32, il_34, il_36, il_38, il_40, il_43, il_44, il_46, il_47, il_48, il_49, il_50, il_51, il_60, il_64, il_100, il_108, il_111, il_127, il_971, il_972, il_999, il_1000, il_1024, il_1087, il_2500, il_5000, il_9999, il_60000, il_2147483647, nI_add, nI_mulI, nI_subI, nI_divI, nI_cl, nI_leJ, nI_ltJ, nI_eqJ, nI_neM, nI_neM']
  · have e : c / 3 - c / 3 / 9 * 9 = c / 3 % 9 := by omega
    simp (disch := first | assumption | omega) [f_X10_partOf, ofc, e, il_0, il_1, il_2, il_3, il_4, il_5, il_6, il_7, il_8, il_9, il_10, il_11, il_12, il_13, il_15, il_16, il_17, il_18, il_19, il_20, il_21, il_22, il_23, il_24, il_26, il_27, il_28, il_30, il_32, il_34, il_36, il_38, il_40, il_43, il_44, il_46, il_47, il_48, il_49, il_50, il_51, il_60, il_64, il_100, il_108, il_111, il_127, il_971, il_972, il_999, il_1000, il_1024, il_1087, il_2500, il_5000, il_9999, il_60000, il_2147483647, nI_add, nI_mulI, nI_subI, nI_divI, nI_cl, nI_leJ, nI_ltJ, nI_eqJ, nI_neM, nI_neM']
  · have e : c - c / 3 * 3 = c % 3 := by omega
    simp (disch := first | assumption | omega) [f_X10_partOf, ofc, e, il_0, il_1, il_2, il_3, il_4, il_5, il_6, il_7, il_8, il_9, il_10, il_11, il_12, il_13, il_15, il_16, il_17, il_18, il_19, il_20, il_21, il_22, il_23, il_24, il_26, il_27, il_28, il_30, il_32, il_34, il_36, il_38, il_40, il_43, il_44, il_46, il_47, il_48, il_49, il_50, il_51, il_60, il_64, il_100, il_108, il_111, il_127, il_971, il_972, il_999, il_1000, il_1024, il_1087, il_2500, il_5000, il_9999, il_60000, il_2147483647, nI_add, nI_mulI, nI_subI, nI_divI, nI_cl, nI_leJ, nI_ltJ, nI_eqJ, nI_neM, nI_neM']
theorem C_stepOf {σ : Sg} {d : Dt} {p : Nat} (hp : p < 4) : f_X10_stepOf σ (nI p) d = some (nI (stp p), d) := by
  rcases (show p = 0 ∨ p = 1 ∨ p = 2 ∨ p = 3 by omega) with rfl | rfl | rfl | rfl <;> simp (disch := first | assumption | omega) [f_X10_stepOf, stp, il_0, il_1, il_2, il_3, il_4, il_5, il_6, il_7, il_8, il_9, il_10, il_11, il_12, il_13, il_15, il_16, il_17, il_18, il_19, il_20, il_21, il_22, il_23, il_24, il_26, il_27, il_28, il_30, il_32, il_34, il_36, il_38, il_40, il_43, il_44, il_46, il_47, il_48, il_49, il_50, il_51, il_60, il_64, il_100, il_108, il_111, il_127, il_971, il_972, il_999, il_1000, il_1024, il_1087, il_2500, il_5000, il_9999, il_60000, il_2147483647, nI_add, nI_mulI, nI_subI, nI_divI, nI_cl, nI_leJ, nI_ltJ, nI_eqJ, nI_neM, nI_neM']
theorem ofc_stp {r p f : Nat} (hp : p < 4) (h : ofc r p = f) : f * stp p ≤ r := by
  subst h
  rcases (show p = 0 ∨ p = 1 ∨ p = 2 ∨ p = 3 by omega) with rfl | rfl | rfl | rfl <;> simp [ofc, stp] <;> omega
theorem ofc_lt {r p : Nat} (hr : r < 972) (hp : p < 4) : ofc r p < vals p := by
  rcases (show p = 0 ∨ p = 1 ∨ p = 2 ∨ p = 3 by omega) with rfl | rfl | rfl | rfl <;> simp [ofc, vals] <;> omega
theorem alt1_lt {p f t r : Nat} (hr : r < 972) (hp : p < 4) (ht : t < vals p) : alt1 p f t r < 972 := by
  unfold alt1
  split
  · rename_i h
    subst h
    rcases (show p = 0 ∨ p = 1 ∨ p = 2 ∨ p = 3 by omega) with rfl | rfl | rfl | rfl <;> simp [ofc, stp, vals] at * <;> omega
  · exact hr
theorem vals9 (p : Nat) : vals p ≤ 9 := by unfold vals; repeat (first | split | omega)
theorem stp108 (p : Nat) : stp p ≤ 108 := by unfold stp; repeat (first | split | omega)
theorem nI_alt {r t f s : Nat} (h : f * s ≤ r) : nI r + (nI t - nI f) * nI s = nI (r + t * s - f * s) := by
  rw [← nI_subI (by omega), ← nI_add, ← nI_mulI, ← nI_mulI]
  grind
/-- a change at one place of a word of n syllables -/
def nvv (p f t b n k r : Nat) : Nat := if b = 0 ∨ k + 1 = n then alt1 p f t r else r
theorem nvv_lt {p f t b n k r : Nat} (hr : r < 972) (hp : p < 4) (ht : t < vals p) : nvv p f t b n k r < 972 := by
  unfold nvv; split
  · exact alt1_lt hr hp ht
  · exact hr
theorem C_alter_L {σ : Sg} {x w c n p f t b : Nat} {r : Nat → Nat} {d0 : Dt} {Q : Unit × Dt → Prop} {k : Dt → Option (Unit × Dt)} (hS : Lay σ) (hx : x = 4 ∨ x = 184 ∨ x = 211 ∨ x = 238) (hw : w < 20) (hc : c < 6) (hn1 : 1 ≤ n) (hn4 : n ≤ 4) (hp : p < 4) (hf : f < 9) (hb : b ≤ 1) (hr : ∀ k, k < n → r k < 972) (x3 : Int32) (hx3 : ∀ k, k < n → ofc (r k) p = f → nI (r k) + x3 = nI (alt1 p f t (r k))) (h1 : d0.1 (x + 1) c = nI p) (h2 : d0.1 (x + 2) c = nI f) (h4 : d0.1 (x + 4) c = nI b)
    (hk : ∀ d', (∀ k, k < n → d'.1 (x + 6 + w) k = nI (nvv p f t b n k (r k))) → (∀ c', c' ≠ x + 6 + w → d'.1 c' = d0.1 c') → d'.2 = d0.2 → ok (k d') Q) :
    ∀ (m i f0 : Nat) (d : Dt), i + m = n → m < f0 → (∀ k, k < n → d.1 (x + 6 + w) k = nI (if k < i then nvv p f t b n k (r k) else r k)) → (∀ c', c' ≠ x + 6 + w → d.1 c' = d0.1 c') → d.2 = d0.2 → ok (f_X2_alter_L37 σ f0 k x (nI w) (nI c) x3 (nI (n - 1)) (nI i) d) Q := by
  intro m
  induction m with
  | zero =>
    intro i f0 d hi hf0 g1 g2 g3
    cases f0 with
    | zero => omega
    | succ f0 =>
      show ok (f_X2_alter_B37 σ _ k x (nI w) (nI c) x3 (nI (n - 1)) (nI i) d) Q
      unfold f_X2_alter_B37
      rw [if_pos (by rw [nI_ltJ (by omega) (by omega)]; omega)]
      refine hk d (fun k hk => ?_) g2 g3
      rw [g1 k hk, if_pos (by omega)]
  | succ m ih =>
    intro i f0 d hi hf0 g1 g2 g3
    cases f0 with
    | zero => omega
    | succ f0 =>
      have q1 : d.1 (x + 1) c = nI p := by rw [g2 _ (by omega)]; exact h1
      have q2 : d.1 (x + 2) c = nI f := by rw [g2 _ (by omega)]; exact h2
      have q4 : d.1 (x + 4) c = nI b := by rw [g2 _ (by omega)]; exact h4
      have qr : d.1 (x + 6 + w) i = nI (r i) := by rw [g1 i (by omega), if_neg (by omega)]
      have hri := hr i (by omega)
      have hofc : ofc (r i) p < 9 := Nat.lt_of_lt_of_le (ofc_lt hri hp) (vals9 p)
      have e0 : ¬ n - 1 < i := by omega
      have IHs : ∀ d2, d2.1 (x + 6 + w) i = nI (nvv p f t b n i (r i)) → (∀ k, k ≠ i → d2.1 (x + 6 + w) k = d.1 (x + 6 + w) k) → (∀ c', c' ≠ x + 6 + w → d2.1 c' = d.1 c') → d2.2 = d.2 → ok (f_X2_alter_L37 σ f0 k x (nI w) (nI c) x3 (nI (n - 1)) (nI (i + 1)) d2) Q := by
        intro d2 a1 a2 a3 a4
        refine ih (i + 1) f0 d2 (by omega) (by omega) (fun k hk => ?_) (fun c' hc' => (a3 c' hc').trans (g2 c' hc')) (a4.trans g3)
        by_cases e : k = i
        · subst e; rw [a1, if_pos (by omega)]
        · rw [a2 k e, g1 k hk]
          by_cases e2 : k < i
          · rw [if_pos e2, if_pos (by omega)]
          · rw [if_neg e2, if_neg (by omega)]
      show ok (f_X2_alter_B37 σ (f_X2_alter_L37 σ f0 k x (nI w) (nI c) x3 (nI (n - 1))) k x (nI w) (nI c) x3 (nI (n - 1)) (nI i) d) Q
      simp (disch := first | assumption | omega) only [f_X2_alter_B37, f_X2_alter_J112, f_X2_alter_J65, f_X2_alter_J60, f_X2_alter, q1, q2, q4, qr, C_partOf, ↓reduceIte, Nat.reduceEqDiff, Nat.one_ne_zero, if_true, if_false, lo_0 hS, lo_1 hS, lo_33 hS, lo_34 hS, lo_89 hS, lo_100 hS, lo_123 hS, lo_146 hS, lo_148 hS, lo_176 hS, lo_182 hS, lo_D hS, lo_G hS, lr_37 hS, lr_93 hS, lr_101 hS, lr_124 hS, lr_152 hS, lr_169 hS, lr_0_0 hS, lr_0_1 hS, lr_0_2 hS, lr_0_3 hS, lr_0_5 hS, lr_0_6 hS, lr_0_7 hS, lr_0_8 hS, lr_0_9 hS, lr_0_10 hS, lr_0_11 hS, lr_0_12 hS, lr_1_0 hS, lr_1_2 hS, lr_33_0 hS, lr_33_1 hS, lr_33_2 hS, lr_33_3 hS, lr_34_0 hS, lr_89_0 hS, lr_89_1 hS, lr_89_2 hS, lr_89_3 hS, lr_89_4 hS, lr_89_5 hS, lr_100_0 hS, lr_100_1 hS, lr_123_0 hS, lr_123_1 hS, lr_146_0 hS, lr_148_0 hS, lr_148_1 hS, lr_148_2 hS, lr_148_3 hS, lr_148_4 hS, lr_148_5 hS, lr_176_0 hS, lr_176_1 hS, lr_176_4 hS, lr_176_6 hS, lr_176_7 hS, lr_182_0 hS, lr_D_0 hS, lr_D_1 hS, lr_D_2 hS, lr_D_3 hS, lr_D_5 hS, lr_D_6 hS, lr_D_r hS, lr_31 hS, lr_32 hS, lr_G_2 hS, lr_G_3 hS, lr_G_4 hS, li_2 hS, li_3 hS, li_31 hS, li_32 hS, li_35 hS, li_36 hS, li_37 hS, li_88 hS, li_90 hS, li_91 hS, li_92 hS, li_93 hS, li_98 hS, li_99 hS, li_101 hS, li_122 hS, li_124 hS, li_145 hS, li_147 hS, li_149 hS, li_150 hS, li_151 hS, li_152 hS, li_169 hS, li_175 hS, li_177 hS, li_178 hS, li_179 hS, li_180 hS, li_181 hS, li_183 hS, li_265 hS, li_266 hS, li_267 hS, li_268 hS, li_269 hS, li_270 hS, li_271 hS, li_272 hS, li_273 hS, li_274 hS, li_275 hS, li_276 hS, li_38 hS, li_94 hS, li_102 hS, li_125 hS, li_153 hS, li_170 hS, li_D_1 hS, li_D_2 hS, li_D_3 hS, li_D_4 hS, li_D_5 hS, li_D_26 hS, li_D_r hS, li_G_1 hS, li_G_2 hS, li_G_3 hS, li_rA hS, li_rK hS, li_rX hS, il_0, il_1, il_2, il_3, il_4, il_5, il_6, il_7, il_8, il_9, il_10, il_11, il_12, il_13, il_15, il_16, il_17, il_18, il_19, il_20, il_21, il_22, il_23, il_24, il_26, il_27, il_28, il_30, il_32, il_34, il_36, il_38, il_40, il_43, il_44, il_46, il_47, il_48, il_49, il_50, il_51, il_60, il_64, il_100, il_108, il_111, il_127, il_971, il_972, il_999, il_1000, il_1024, il_1087, il_2500, il_5000, il_9999, il_60000, il_2147483647, nI_add, nI_mulI, nI_subI, nI_divI, nI_cl, nI_leJ, nI_ltJ, nI_eqJ, nI_neM, nI_neM', aw_sI_e, aw_sI_n, aw_sI_2, aw_sL_e, aw_sL_n, aw_sL_1, Option.bind_some, aw_chkT, ck_and0, ck_and1, bI_t, bI_f, nar_0, nar_1]
      rw [if_neg e0]
      have hin : (i = n - 1) ↔ (i + 1 = n) := by omega
      have hmid : ok (if ofc (r i) p = f then f_X2_alter_L37 σ f0 k x (nI w) (nI c) x3 (nI (n - 1)) (nI (i + 1)) (aw_sI d (x + 6 + w) i (nI (r i) + x3)) else f_X2_alter_L37 σ f0 k x (nI w) (nI c) x3 (nI (n - 1)) (nI (i + 1)) d) Q ∨ ¬ (b = 0 ∨ i + 1 = n) := by
        by_cases hm : b = 0 ∨ i + 1 = n
        · left
          by_cases ho : ofc (r i) p = f
          · rw [if_pos ho]
            refine IHs _ ?_ (fun k hk => aw_sI_n (by omega)) (fun c' hc' => by funext j; exact aw_sI_n (by omega)) rfl
            rw [aw_sI_e rfl rfl, hx3 i (by omega) ho]; simp only [nvv, hm, if_true]
          · rw [if_neg ho]
            refine IHs d ?_ (fun k hk => rfl) (fun c' hc' => rfl) rfl
            rw [qr]; simp only [nvv, hm, if_true, alt1, ho, if_false]
        · exact Or.inr hm
      by_cases hb0 : b = 0
      · rw [if_pos hb0]
        exact hmid.resolve_right (fun h => h (Or.inl hb0))
      · rw [if_neg hb0]
        by_cases hl : i = n - 1
        · rw [if_pos hl]
          exact hmid.resolve_right (fun h => h (Or.inr (hin.mp hl)))
        · rw [if_neg hl]
          refine IHs d ?_ (fun k hk => rfl) (fun c' hc' => rfl) rfl
          rw [qr]
          have hm : ¬ (b = 0 ∨ i + 1 = n) := fun h => h.elim hb0 (fun h => hl (hin.mpr h))
          simp only [nvv, hm, if_false]
theorem C_alter {σ : Sg} {d : Dt} {x w c n p f t b : Nat} {r : Nat → Nat} (hS : Lay σ) (hx : x = 4 ∨ x = 184 ∨ x = 211 ∨ x = 238) (hw : w < 20) (hc : c < 6) (hn1 : 1 ≤ n) (hn4 : n ≤ 4) (hp : p < 4) (hf : f < vals p) (ht : t < vals p) (hb : b ≤ 1) (hr : ∀ k, k < n → r k < 972) (h0 : d.1 (x + 26) w = nI n) (h1 : d.1 (x + 1) c = nI p) (h2 : d.1 (x + 2) c = nI f) (h3 : d.1 (x + 3) c = nI t) (h4 : d.1 (x + 4) c = nI b) (hrow : ∀ k, k < n → d.1 (x + 6 + w) k = nI (r k)) :
    ok (f_X2_alter σ x (nI w) (nI c) d) (fun z => (∀ k, k < n → z.2.1 (x + 6 + w) k = nI (nvv p f t b n k (r k))) ∧ (∀ c', c' ≠ x + 6 + w → z.2.1 c' = d.1 c') ∧ z.2.2 = d.2) := by
  have hv := vals9 p
  simp (disch := first | assumption | omega) only [f_X2_alter, h0, h1, h2, h3, C_stepOf, lo_0 hS, lo_1 hS, lo_33 hS, lo_34 hS, lo_89 hS, lo_100 hS, lo_123 hS, lo_146 hS, lo_148 hS, lo_176 hS, lo_182 hS, lo_D hS, lo_G hS, lr_37 hS, lr_93 hS, lr_101 hS, lr_124 hS, lr_152 hS, lr_169 hS, lr_0_0 hS, lr_0_1 hS, lr_0_2 hS, lr_0_3 hS, lr_0_5 hS, lr_0_6 hS, lr_0_7 hS, lr_0_8 hS, lr_0_9 hS, lr_0_10 hS, lr_0_11 hS, lr_0_12 hS, lr_1_0 hS, lr_1_2 hS, lr_33_0 hS, lr_33_1 hS, lr_33_2 hS, lr_33_3 hS, lr_34_0 hS, lr_89_0 hS, lr_89_1 hS, lr_89_2 hS, lr_89_3 hS, lr_89_4 hS, lr_89_5 hS, lr_100_0 hS, lr_100_1 hS, lr_123_0 hS, lr_123_1 hS, lr_146_0 hS, lr_148_0 hS, lr_148_1 hS, lr_148_2 hS, lr_148_3 hS, lr_148_4 hS, lr_148_5 hS, lr_176_0 hS, lr_176_1 hS, lr_176_4 hS, lr_176_6 hS, lr_176_7 hS, lr_182_0 hS, lr_D_0 hS, lr_D_1 hS, lr_D_2 hS, lr_D_3 hS, lr_D_5 hS, lr_D_6 hS, lr_D_r hS, lr_31 hS, lr_32 hS, lr_G_2 hS, lr_G_3 hS, lr_G_4 hS, li_2 hS, li_3 hS, li_31 hS, li_32 hS, li_35 hS, li_36 hS, li_37 hS, li_88 hS, li_90 hS, li_91 hS, li_92 hS, li_93 hS, li_98 hS, li_99 hS, li_101 hS, li_122 hS, li_124 hS, li_145 hS, li_147 hS, li_149 hS, li_150 hS, li_151 hS, li_152 hS, li_169 hS, li_175 hS, li_177 hS, li_178 hS, li_179 hS, li_180 hS, li_181 hS, li_183 hS, li_265 hS, li_266 hS, li_267 hS, li_268 hS, li_269 hS, li_270 hS, li_271 hS, li_272 hS, li_273 hS, li_274 hS, li_275 hS, li_276 hS, li_38 hS, li_94 hS, li_102 hS, li_125 hS, li_153 hS, li_170 hS, li_D_1 hS, li_D_2 hS, li_D_3 hS, li_D_4 hS, li_D_5 hS, li_D_26 hS, li_D_r hS, li_G_1 hS, li_G_2 hS, li_G_3 hS, li_rA hS, li_rK hS, li_rX hS, il_0, il_1, il_2, il_3, il_4, il_5, il_6, il_7, il_8, il_9, il_10, il_11, il_12, il_13, il_15, il_16, il_17, il_18, il_19, il_20, il_21, il_22, il_23, il_24, il_26, il_27, il_28, il_30, il_32, il_34, il_36, il_38, il_40, il_43, il_44, il_46, il_47, il_48, il_49, il_50, il_51, il_60, il_64, il_100, il_108, il_111, il_127, il_971, il_972, il_999, il_1000, il_1024, il_1087, il_2500, il_5000, il_9999, il_60000, il_2147483647, nI_add, nI_mulI, nI_subI, nI_divI, nI_cl, nI_leJ, nI_ltJ, nI_eqJ, nI_neM, nI_neM', aw_sI_e, aw_sI_n, aw_sI_2, aw_sL_e, aw_sL_n, aw_sL_1, Option.bind_some, aw_chkT, ck_and0, ck_and1, bI_t, bI_f, nar_0, nar_1]
  refine C_alter_L hS hx hw hc hn1 hn4 hp (show f < 9 by omega) hb hr _ (fun k hk ho => ?_) h1 h2 h4 (fun d' g1 g2 g3 => ok_some ⟨g1, g2, g3⟩) n 0 aw_FU d (by omega) (by show _ < 5000; omega) (fun k hk => by rw [hrow k hk, if_neg (by omega)]) (fun _ _ => rfl) rfl
  rw [nI_alt (ofc_stp hp ho)]
  simp only [alt1, ho, if_true]
