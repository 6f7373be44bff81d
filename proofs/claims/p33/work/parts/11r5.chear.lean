/-! the class: a word heard, a change appended -/
/-- cells of a dialect alone -/
def FrD (x : Nat) (d d' : Dt) : Prop := (∀ c, ¬ (x ≤ c ∧ c < x + 27) → d'.1 c = d.1 c) ∧ d'.2 = d.2
theorem FrD.rf {x : Nat} {d : Dt} : FrD x d d := ⟨fun _ _ => rfl, rfl⟩
theorem FrD.tr {x : Nat} {a b c : Dt} (h : FrD x a b) (g : FrD x b c) : FrD x a c := ⟨fun k hk => (g.1 k hk).trans (h.1 k hk), g.2.trans h.2⟩
theorem FrD.w {x : Nat} {a b : Dt} {c j : Nat} {v : Int32} (hc : x ≤ c ∧ c < x + 27) (h : FrD x a b) : FrD x a (aw_sI b c j v) := ⟨fun k hk => by rw [← h.1 k hk]; funext i; exact aw_sI_n (by omega), h.2⟩
/-- the rows copied -/
theorem C_hear_L2 {σ : Sg} {x n W : Nat} {g : Nat → Nat} {d0 : Dt} {Q : Unit × Dt → Prop} {k : Dt → Option (Unit × Dt)} (hS : Lay σ) (hx : x = 4 ∨ x = 184 ∨ x = 211 ∨ x = 238) (hn4 : n ≤ 4) (hW : W < 20) (h7 : d0.1 x 7 = nI W) (hg : ∀ k, k < n → d0.1 2 k = nI (g k))
    (hk : ∀ d', (∀ k, k < n → d'.1 (x + 6 + W) k = nI (g k)) → (∀ c', c' ≠ x + 6 + W → d'.1 c' = d0.1 c') → d'.2 = d0.2 → ok (k d') Q) :
    ∀ (m i f0 : Nat) (d : Dt), i + m = n → m < f0 → (∀ k, k < i → d.1 (x + 6 + W) k = nI (g k)) → (∀ c', c' ≠ x + 6 + W → d.1 c' = d0.1 c') → d.2 = d0.2 → ok (f_X2_hear_L2 σ f0 k x 2 (nI n) (nI i) d) Q := by
  intro m
  induction m with
  | zero =>
    intro i f0 d hi hf0 g1 g2 g3
    cases f0 with
    | zero => omega
    | succ f0 =>
      show ok (f_X2_hear_B2 σ _ k x 2 (nI n) (nI i) d) Q
      unfold f_X2_hear_B2
      rw [if_pos (by rw [nI_leJ (by omega) (by omega)]; omega)]
      exact hk d (fun k hk => g1 k (by omega)) g2 g3
  | succ m ih =>
    intro i f0 d hi hf0 g1 g2 g3
    cases f0 with
    | zero => omega
    | succ f0 =>
      have q1 : d.1 x 7 = nI W := by rw [g2 _ (by omega)]; exact h7
      have q2 : d.1 2 i = nI (g i) := by rw [g2 _ (by omega)]; exact hg i (by omega)
      have e0 : ¬ n ≤ i := by omega
      show ok (f_X2_hear_B2 σ (f_X2_hear_L2 σ f0 k x 2 (nI n)) k x 2 (nI n) (nI i) d) Q
      simp (disch := first | assumption | omega) only [f_X2_hear_B2, q1, q2, lo_0 hS, lo_1 hS, lo_33 hS, lo_34 hS, lo_89 hS, lo_100 hS, lo_123 hS, lo_146 hS, lo_148 hS, lo_176 hS, lo_182 hS, lo_D hS, lo_G hS, lr_37 hS, lr_93 hS, lr_101 hS, lr_124 hS, lr_152 hS, lr_169 hS, lr_0_0 hS, lr_0_1 hS, lr_0_2 hS, lr_0_3 hS, lr_0_5 hS, lr_0_6 hS, lr_0_7 hS, lr_0_8 hS, lr_0_9 hS, lr_0_10 hS, lr_0_11 hS, lr_0_12 hS, lr_1_0 hS, lr_1_2 hS, lr_33_0 hS, lr_33_1 hS, lr_33_2 hS, lr_33_3 hS, lr_34_0 hS, lr_89_0 hS, lr_89_1 hS, lr_89_2 hS, lr_89_3 hS, lr_89_4 hS, lr_89_5 hS, lr_100_0 hS, lr_100_1 hS, lr_123_0 hS, lr_123_1 hS, lr_146_0 hS, lr_148_0 hS, lr_148_1 hS, lr_148_2 hS, lr_148_3 hS, lr_148_4 hS, lr_148_5 hS, lr_176_0 hS, lr_176_1 hS, lr_176_4 hS, lr_176_6 hS, lr_176_7 hS, lr_182_0 hS, lr_D_0 hS, lr_D_1 hS, lr_D_2 hS, lr_D_3 hS, lr_D_5 hS, lr_D_6 hS, lr_D_r hS, lr_31 hS, lr_32 hS, lr_G_2 hS, lr_G_3 hS, lr_G_4 hS, li_2 hS, li_3 hS, li_31 hS, li_32 hS, li_35 hS, li_36 hS, li_37 hS, li_88 hS, li_90 hS, li_91 hS, li_92 hS, li_93 hS, li_98 hS, li_99 hS, li_101 hS, li_122 hS, li_124 hS, li_145 hS, li_147 hS, li_149 hS, li_150 hS, li_151 hS, li_152 hS, li_169 hS, li_175 hS, li_177 hS, li_178 hS, li_179 hS, li_180 hS, li_181 hS, li_183 hS, li_265 hS, li_266 hS, li_267 hS, li_268 hS, li_269 hS, li_270 hS, li_271 hS, li_272 hS, li_273 hS, li_274 hS, li_275 hS, li_276 hS, li_38 hS, li_94 hS, li_102 hS, li_125 hS, li_153 hS, li_170 hS, li_D_1 hS, li_D_2 hS, li_D_3 hS, li_D_4 hS, li_D_5 hS, li_D_26 hS, li_D_r hS, li_G_1 hS, li_G_2 hS, li_G_3 hS, li_rA hS, li_rK hS, li_rX hS, il_0, il_1, il_2, il_3, il_4, il_5, il_6, il_7, il_8, il_9, il_10, il_11, il_12, il_13, il_15, il_16, il_17, il_18, il_19, il_20, il_21, il_22, il_23, il_24, il_26, il_27, il_28, il_30, il_32, il_34, il_36, il_38, il_40, il_43, il_44, il_46, il_47, il_48, il_49, il_50, il_51, il_60, il_64, il_100, il_108, il_111, il_127, il_971, il_972, il_999, il_1000, il_1024, il_1087, il_2500, il_5000, il_9999, il_60000, il_2147483647, nI_add, nI_mulI, nI_subI, nI_divI, nI_cl, nI_leJ, nI_ltJ, nI_eqJ, nI_neM, nI_neM', aw_sI_e, aw_sI_n, aw_sI_2, aw_sL_e, aw_sL_n, aw_sL_1, Option.bind_some, aw_chkT, ck_and0, ck_and1, bI_t, bI_f, nar_0, nar_1]
      rw [if_neg e0]
      refine ih (i + 1) f0 _ (by omega) (by omega) (fun k hk => ?_) (fun c' hc' => ?_) g3
      · by_cases e : k = i
        · rw [aw_sI_e rfl e, e]
        · rw [aw_sI_n (by omega)]; exact g1 k (by omega)
      · rw [← g2 c' hc']; funext j; exact aw_sI_n (by omega)
/-- the changes done at the new word -/
theorem C_hear_L39 {σ : Sg} {x n W C : Nat} {P F T B : Nat → Nat} {v : Nat → Nat → Nat} {d0 : Dt} {Q : Unit × Dt → Prop} {k : Dt → Option (Unit × Dt)} (hS : Lay σ) (hx : x = 4 ∨ x = 184 ∨ x = 211 ∨ x = 238) (hn1 : 1 ≤ n) (hn4 : n ≤ 4) (hW : W < 20) (hC6 : C ≤ 6) (h4 : d0.1 x 4 = nI C) (h7 : d0.1 x 7 = nI W) (h26 : d0.1 (x + 26) W = nI n)
    (hch : ∀ c, c < C → d0.1 (x + 1) c = nI (P c) ∧ d0.1 (x + 2) c = nI (F c) ∧ d0.1 (x + 3) c = nI (T c) ∧ d0.1 (x + 4) c = nI (B c) ∧ P c < 4 ∧ F c < vals (P c) ∧ T c < vals (P c) ∧ B c ≤ 1)
    (hv : ∀ c, c < C → ∀ k, k < n → v (c + 1) k = nvv (P c) (F c) (T c) (B c) n k (v c k)) (hv9 : ∀ c, c ≤ C → ∀ k, k < n → v c k < 972)
    (hk : ∀ d', (∀ k, k < n → d'.1 (x + 6 + W) k = nI (v C k)) → (∀ c', c' ≠ x + 6 + W → d'.1 c' = d0.1 c') → d'.2 = d0.2 → ok (k d') Q) :
    ∀ (m i f0 : Nat) (d : Dt), i + m = C → m < f0 → (∀ k, k < n → d.1 (x + 6 + W) k = nI (v i k)) → (∀ c', c' ≠ x + 6 + W → d.1 c' = d0.1 c') → d.2 = d0.2 → ok (f_X2_hear_L39 σ f0 k x (nI i) d) Q := by
  intro m
  induction m with
  | zero =>
    intro i f0 d hi hf0 g1 g2 g3
    cases f0 with
    | zero => omega
    | succ f0 =>
      have q1 : d.1 x 4 = nI C := by rw [g2 _ (by omega)]; exact h4
      have e : i = C := by omega
      have e0 : C ≤ i := by omega
      show ok (f_X2_hear_B39 σ _ k x (nI i) d) Q
      simp (disch := first | assumption | omega) only [f_X2_hear_B39, q1, lo_0 hS, lo_1 hS, lo_33 hS, lo_34 hS, lo_89 hS, lo_100 hS, lo_123 hS, lo_146 hS, lo_148 hS, lo_176 hS, lo_182 hS, lo_D hS, lo_G hS, lr_37 hS, lr_93 hS, lr_101 hS, lr_124 hS, lr_152 hS, lr_169 hS, lr_0_0 hS, lr_0_1 hS, lr_0_2 hS, lr_0_3 hS, lr_0_5 hS, lr_0_6 hS, lr_0_7 hS, lr_0_8 hS, lr_0_9 hS, lr_0_10 hS, lr_0_11 hS, lr_0_12 hS, lr_1_0 hS, lr_1_2 hS, lr_33_0 hS, lr_33_1 hS, lr_33_2 hS, lr_33_3 hS, lr_34_0 hS, lr_89_0 hS, lr_89_1 hS, lr_89_2 hS, lr_89_3 hS, lr_89_4 hS, lr_89_5 hS, lr_100_0 hS, lr_100_1 hS, lr_123_0 hS, lr_123_1 hS, lr_146_0 hS, lr_148_0 hS, lr_148_1 hS, lr_148_2 hS, lr_148_3 hS, lr_148_4 hS, lr_148_5 hS, lr_176_0 hS, lr_176_1 hS, lr_176_4 hS, lr_176_6 hS, lr_176_7 hS, lr_182_0 hS, lr_D_0 hS, lr_D_1 hS, lr_D_2 hS, lr_D_3 hS, lr_D_5 hS, lr_D_6 hS, lr_D_r hS, lr_31 hS, lr_32 hS, lr_G_2 hS, lr_G_3 hS, lr_G_4 hS, li_2 hS, li_3 hS, li_31 hS, li_32 hS, li_35 hS, li_36 hS, li_37 hS, li_88 hS, li_90 hS, li_91 hS, li_92 hS, li_93 hS, li_98 hS, li_99 hS, li_101 hS, li_122 hS, li_124 hS, li_145 hS, li_147 hS, li_149 hS, li_150 hS, li_151 hS, li_152 hS, li_169 hS, li_175 hS, li_177 hS, li_178 hS, li_179 hS, li_180 hS, li_181 hS, li_183 hS, li_265 hS, li_266 hS, li_267 hS, li_268 hS, li_269 hS, li_270 hS, li_271 hS, li_272 hS, li_273 hS, li_274 hS, li_275 hS, li_276 hS, li_38 hS, li_94 hS, li_102 hS, li_125 hS, li_153 hS, li_170 hS, li_D_1 hS, li_D_2 hS, li_D_3 hS, li_D_4 hS, li_D_5 hS, li_D_26 hS, li_D_r hS, li_G_1 hS, li_G_2 hS, li_G_3 hS, li_rA hS, li_rK hS, li_rX hS, il_0, il_1, il_2, il_3, il_4, il_5, il_6, il_7, il_8, il_9, il_10, il_11, il_12, il_13, il_15, il_16, il_17, il_18, il_19, il_20, il_21, il_22, il_23, il_24, il_26, il_27, il_28, il_30, il_32, il_34, il_36, il_38, il_40, il_43, il_44, il_46, il_47, il_48, il_49, il_50, il_51, il_60, il_64, il_100, il_108, il_111, il_127, il_971, il_972, il_999, il_1000, il_1024, il_1087, il_2500, il_5000, il_9999, il_60000, il_2147483647, nI_add, nI_mulI, nI_subI, nI_divI, nI_cl, nI_leJ, nI_ltJ, nI_eqJ, nI_neM, nI_neM', aw_sI_e, aw_sI_n, aw_sI_2, aw_sL_e, aw_sL_n, aw_sL_1, Option.bind_some, aw_chkT, ck_and0, ck_and1, bI_t, bI_f, nar_0, nar_1]
      rw [if_pos e0]
      exact hk d (fun k hk => by rw [← e]; exact g1 k hk) g2 g3
  | succ m ih =>
    intro i f0 d hi hf0 g1 g2 g3
    cases f0 with
    | zero => omega
    | succ f0 =>
      have q1 : d.1 x 4 = nI C := by rw [g2 _ (by omega)]; exact h4
      have q2 : d.1 x 7 = nI W := by rw [g2 _ (by omega)]; exact h7
      have e0 : ¬ C ≤ i := by omega
      obtain ⟨a1, a2, a3, a4, a5, a6, a7, a8⟩ := hch i (by omega)
      obtain ⟨z, hz, z1, z2, z3⟩ := C_alter (σ := σ) (d := d) (x := x) (w := W) (c := i) (n := n) (p := P i) (f := F i) (t := T i) (b := B i) (r := v i) hS hx hW (by omega) hn1 hn4 a5 a6 a7 a8 (fun k hk => hv9 i (by omega) k hk) (by rw [g2 _ (by omega)]; exact h26) (by rw [g2 _ (by omega)]; exact a1) (by rw [g2 _ (by omega)]; exact a2) (by rw [g2 _ (by omega)]; exact a3) (by rw [g2 _ (by omega)]; exact a4) g1
      show ok (f_X2_hear_B39 σ (f_X2_hear_L39 σ f0 k x) k x (nI i) d) Q
      simp (disch := first | assumption | omega) only [f_X2_hear_B39, q1, q2, hz, lo_0 hS, lo_1 hS, lo_33 hS, lo_34 hS, lo_89 hS, lo_100 hS, lo_123 hS, lo_146 hS, lo_148 hS, lo_176 hS, lo_182 hS, lo_D hS, lo_G hS, lr_37 hS, lr_93 hS, lr_101 hS, lr_124 hS, lr_152 hS, lr_169 hS, lr_0_0 hS, lr_0_1 hS, lr_0_2 hS, lr_0_3 hS, lr_0_5 hS, lr_0_6 hS, lr_0_7 hS, lr_0_8 hS, lr_0_9 hS, lr_0_10 hS, lr_0_11 hS, lr_0_12 hS, lr_1_0 hS, lr_1_2 hS, lr_33_0 hS, lr_33_1 hS, lr_33_2 hS, lr_33_3 hS, lr_34_0 hS, lr_89_0 hS, lr_89_1 hS, lr_89_2 hS, lr_89_3 hS, lr_89_4 hS, lr_89_5 hS, lr_100_0 hS, lr_100_1 hS, lr_123_0 hS, lr_123_1 hS, lr_146_0 hS, lr_148_0 hS, lr_148_1 hS, lr_148_2 hS, lr_148_3 hS, lr_148_4 hS, lr_148_5 hS, lr_176_0 hS, lr_176_1 hS, lr_176_4 hS, lr_176_6 hS, lr_176_7 hS, lr_182_0 hS, lr_D_0 hS, lr_D_1 hS, lr_D_2 hS, lr_D_3 hS, lr_D_5 hS, lr_D_6 hS, lr_D_r hS, lr_31 hS, lr_32 hS, lr_G_2 hS, lr_G_3 hS, lr_G_4 hS, li_2 hS, li_3 hS, li_31 hS, li_32 hS, li_35 hS, li_36 hS, li_37 hS, li_88 hS, li_90 hS, li_91 hS, li_92 hS, li_93 hS, li_98 hS, li_99 hS, li_101 hS, li_122 hS, li_124 hS, li_145 hS, li_147 hS, li_149 hS, li_150 hS, li_151 hS, li_152 hS, li_169 hS, li_175 hS, li_177 hS, li_178 hS, li_179 hS, li_180 hS, li_181 hS, li_183 hS, li_265 hS, li_266 hS, li_267 hS, li_268 hS, li_269 hS, li_270 hS, li_271 hS, li_272 hS, li_273 hS, li_274 hS, li_275 hS, li_276 hS, li_38 hS, li_94 hS, li_102 hS, li_125 hS, li_153 hS, li_170 hS, li_D_1 hS, li_D_2 hS, li_D_3 hS, li_D_4 hS, li_D_5 hS, li_D_26 hS, li_D_r hS, li_G_1 hS, li_G_2 hS, li_G_3 hS, li_rA hS, li_rK hS, li_rX hS, il_0, il_1, il_2, il_3, il_4, il_5, il_6, il_7, il_8, il_9, il_10, il_11, il_12, il_13, il_15, il_16, il_17, il_18, il_19, il_20, il_21, il_22, il_23, il_24, il_26, il_27, il_28, il_30, il_32, il_34, il_36, il_38, il_40, il_43, il_44, il_46, il_47, il_48, il_49, il_50, il_51, il_60, il_64, il_100, il_108, il_111, il_127, il_971, il_972, il_999, il_1000, il_1024, il_1087, il_2500, il_5000, il_9999, il_60000, il_2147483647, nI_add, nI_mulI, nI_subI, nI_divI, nI_cl, nI_leJ, nI_ltJ, nI_eqJ, nI_neM, nI_neM', aw_sI_e, aw_sI_n, aw_sI_2, aw_sL_e, aw_sL_n, aw_sL_1, Option.bind_some, aw_chkT, ck_and0, ck_and1, bI_t, bI_f, nar_0, nar_1]
      rw [if_neg e0]
      exact ih (i + 1) f0 _ (by omega) (by omega) (fun k hk => by rw [z1 k hk, hv i (by omega) k hk]) (fun c' hc' => (z2 c' hc').trans (g2 c' hc')) (z3.trans g3)
/-- the state with the draft as a new word -/
def wordA (A : St) (wt : Nat) : St := stU (stU (stU (stU (stF A 4 (A 2 0 0) (A 0 0 0) (A 1 0)) 3 0 (A 2 0 0) (A 0 0 0)) 5 0 (A 2 0 0) wt) 0 0 0 0) 2 0 0 (A 2 0 0 + 1)
theorem wordA_o {A : St} {wt f i j : Nat} (h : f ≠ 4 ∧ f ≠ 3 ∧ f ≠ 5 ∧ f ≠ 0 ∧ f ≠ 2) : wordA A wt f i j = A f i j := by
  unfold wordA
  rw [stU_n (by omega), stU_n (by omega), stU_n (by omega), stU_n (by omega), stF_n (by omega)]
theorem wordA_2 {A : St} {wt : Nat} : wordA A wt 2 0 0 = A 2 0 0 + 1 := stU_e rfl rfl rfl
theorem wordA_3 {A : St} {wt w : Nat} : wordA A wt 3 0 w = if w = A 2 0 0 then A 0 0 0 else A 3 0 w := by
  unfold wordA
  rw [stU_n (by omega), stU_n (by omega), stU_n (by omega)]
  by_cases e : w = A 2 0 0
  · rw [stU_e rfl rfl e, if_pos e]
  · rw [stU_n (by omega), stF_n (by omega), if_neg e]
theorem wordA_4 {A : St} {wt w k : Nat} : wordA A wt 4 w k = if w = A 2 0 0 ∧ k < A 0 0 0 then A 1 0 k else A 4 w k := by
  unfold wordA
  rw [stU_n (by omega), stU_n (by omega), stU_n (by omega), stU_n (by omega)]
  by_cases e : w = A 2 0 0 ∧ k < A 0 0 0
  · rw [stF_e rfl e.1 e.2, if_pos e]
  · rw [stF_n (by omega), if_neg e]
theorem wordA_spk_old {A : St} {wt b w k : Nat} (h : w ≠ A 2 0 0) : spk (wordA A wt) b w k = spk A b w k := by
  have e4 : wordA A wt 4 w k = A 4 w k := by rw [wordA_4, if_neg (fun g => h g.1)]
  have e3 : wordA A wt 3 0 w = A 3 0 w := by rw [wordA_3, if_neg h]
  unfold spk
  rw [e4, e3, wordA_o (by omega), alts_cg (A := A) (fun f hf i j => wordA_o (by omega))]
theorem wordA_spk_new {A : St} {wt b k : Nat} (hk : k < A 0 0 0) : spk (wordA A wt) b (A 2 0 0) k = if b = 0 then A 1 0 k else alts A (b - 1) (A 0 0 0) k (A 1 0 k) (A 6 0 (b - 1)) := by
  have e4 : wordA A wt 4 (A 2 0 0) k = A 1 0 k := by rw [wordA_4, if_pos ⟨rfl, hk⟩]
  have e3 : wordA A wt 3 0 (A 2 0 0) = A 0 0 0 := by rw [wordA_3, if_pos rfl]
  unfold spk
  rw [e4, e3, wordA_o (by omega), alts_cg (A := A) (fun f hf i j => wordA_o (by omega))]
theorem alts_lt {A : St} (hW : WF A) {x n k c : Nat} (hx : x < 3) (hc : c < 972) : ∀ m, m ≤ A 6 0 x → alts A x n k c m < 972 := by
  intro m
  induction m with
  | zero => intro _; exact hc
  | succ m ih =>
    intro hm
    have h1 := ih (by omega)
    have h2 := (hW.x hx).2 m (by omega)
    simp only [alts]
    split
    · exact alt1_lt h1 h2.1 h2.2.2.1
    · exact h1
theorem C_hear {A : St} {σ : Sg} {d : Dt} {b x : Nat} (hS : Lay σ) (hW : WF A) (hx : x = 4 ∨ x = 184 ∨ x = 211 ∨ x = 238) (hb : b < 4) (hR : RepD A d b x) (hdr : ∀ k, k < 4 → d.1 2 k = nI (A 1 0 k)) (h1 : 1 ≤ A 0 0 0) (h20 : A 2 0 0 < 20) (wt : Nat) :
    ok (f_X2_hear σ x 2 (nI (A 0 0 0)) d) (fun z => RepD (wordA A wt) z.2 b x ∧ FrD x d z.2) := by
  have hn4 := hW.1
  obtain ⟨r1, r2, r3, r4, r5⟩ := hR
  -- how many changes, and what they are
  obtain ⟨C, hC6, hC4, hCh⟩ : ∃ C, C ≤ 6 ∧ d.1 x 4 = nI C ∧ ((b = 0 ∧ C = 0) ∨ (0 < b ∧ C = A 6 0 (b - 1))) := by
    by_cases e : b = 0
    · exact ⟨0, by omega, r4 e, Or.inl ⟨e, rfl⟩⟩
    · exact ⟨A 6 0 (b - 1), (hW.x (by omega)).1, (r5 (by omega)).1, Or.inr ⟨by omega, rfl⟩⟩
  have hL39 := fun d0 (k0 : ∀ k, k < A 0 0 0 → d0.1 (x + 6 + A 2 0 0) k = nI (A 1 0 k)) (k1 : ∀ c', c' ≠ x + 6 + A 2 0 0 → c' ≠ x + 26 → d0.1 c' = d.1 c') (k2 : ∀ v, d0.1 (x + 26) v = if v = A 2 0 0 then nI (A 0 0 0) else d.1 (x + 26) v) (k3 : d0.2 = d.2) =>
    C_hear_L39 (σ := σ) (x := x) (n := A 0 0 0) (W := A 2 0 0) (C := C) (P := A 7 (b - 1)) (F := A 8 (b - 1)) (T := A 9 (b - 1)) (B := A 10 (b - 1)) (v := fun m k => if b = 0 then A 1 0 k else alts A (b - 1) (A 0 0 0) k (A 1 0 k) m) (d0 := d0) (Q := fun z : Unit × Dt => RepD (wordA A wt) z.2 b x ∧ FrD x d z.2) (k := fun d_17 => some ((), aw_sI d_17 x 7 ((d_17.1 x 7) + ((1 : Int32))))) hS hx h1 hn4 h20 hC6 (by rw [k1 x (by omega) (by omega)]; exact hC4) (by rw [k1 x (by omega) (by omega)]; exact r1) (by rw [k2, if_pos rfl])
      (fun c hc => by
        rcases hCh with ⟨e, e2⟩ | ⟨e, e2⟩
        · omega
        · have hh := (r5 e).2 c (by omega)
          have hw := (hW.x (show b - 1 < 3 by omega)).2 c (by omega)
          rw [k1 (x + 1) (by omega) (by omega), k1 (x + 2) (by omega) (by omega), k1 (x + 3) (by omega) (by omega), k1 (x + 4) (by omega) (by omega)]
          exact ⟨hh.1, hh.2.1, hh.2.2.1, hh.2.2.2, hw.1, hw.2.1, hw.2.2.1, hw.2.2.2⟩)
      (fun c hc k hk => by
        rcases hCh with ⟨e, e2⟩ | ⟨e, e2⟩
        · omega
        · have eb : ¬ b = 0 := by omega
          simp only [eb, if_false, alts, nvv])
      (fun c hc k hk => by
        have h9 := hW.2.1 k hk
        by_cases eb : b = 0
        · simp only [eb, if_true]; exact h9
        · simp only [eb, if_false]
          rcases hCh with ⟨e, e2⟩ | ⟨e, e2⟩
          · omega
          · exact alts_lt hW (by omega) h9 c (by omega))
      (fun d' g1 g2 g3 => by
        refine ok_some ⟨⟨?_, fun w hw => ?_, fun w hw k hk => ?_, fun hb0 => ?_, fun hb0 => ⟨?_, fun c hc => ?_⟩⟩, ?_⟩
        · rw [aw_sI_e rfl rfl, g2 x (by omega), k1 x (by omega) (by omega), r1, wordA_2, nI_1]
        · rw [aw_sI_n (by omega), g2 _ (by omega), k2, wordA_3]
          rw [wordA_2] at hw
          by_cases e : w = A 2 0 0
          · rw [if_pos e, if_pos e]
          · rw [if_neg e, if_neg e]; exact r2 w (by omega)
        · rw [aw_sI_n (by omega)]
          rw [wordA_2] at hw
          rw [wordA_3] at hk
          by_cases e : w = A 2 0 0
          · subst e
            rw [if_pos rfl] at hk
            rw [g1 k hk, wordA_spk_new hk]
            rcases hCh with ⟨e, e2⟩ | ⟨e, e2⟩
            · simp only [e, if_true]
            · rw [e2]
          · rw [if_neg e] at hk
            rw [wordA_spk_old e, g2 _ (by omega), k1 _ (by omega) (by omega)]
            exact r3 w (by omega) k hk
        · rw [aw_sI_n (by omega), g2 x (by omega), k1 x (by omega) (by omega)]; exact r4 hb0
        · rw [aw_sI_n (by omega), g2 x (by omega), k1 x (by omega) (by omega), wordA_o (by omega)]; exact (r5 hb0).1
        · rw [aw_sI_n (by omega), aw_sI_n (by omega), aw_sI_n (by omega), aw_sI_n (by omega), g2 _ (by omega), g2 _ (by omega), g2 _ (by omega), g2 _ (by omega), k1 _ (by omega) (by omega), k1 _ (by omega) (by omega), k1 _ (by omega) (by omega), k1 _ (by omega) (by omega), wordA_o (by omega), wordA_o (by omega), wordA_o (by omega), wordA_o (by omega)]
          exact (r5 hb0).2 c hc
        · refine FrD.w (by omega) ⟨fun c hc => ?_, g3.trans k3⟩
          rw [g2 c (by omega), k1 c (by omega) (by omega)])
      C 0 aw_FU d0 (by omega) (by show _ < 5000; omega) (fun k hk => by
        rw [k0 k hk]
        by_cases eb : b = 0
        · simp only [eb, if_true]
        · simp only [eb, if_false, alts]) (fun _ _ => rfl) rfl
  unfold f_X2_hear
  refine C_hear_L2 (g := A 1 0) hS hx hn4 h20 r1 (fun k hk => hdr k (by omega)) (fun d1 g1 g2 g3 => ?_) (A 0 0 0) 0 aw_FU d (by omega) (by show _ < 5000; omega) (fun k hk => by omega) (fun _ _ => rfl) rfl
  have q7 : d1.1 x 7 = nI (A 2 0 0) := by rw [g2 x (by omega)]; exact r1
  rw [lo_D hS hx, lr_D_6 hS hx, Option.bind_some, q7, li_D_26 hS hx h20, nI_cl (by omega)]
  refine hL39 _ (fun k hk => by rw [aw_sI_n (by omega)]; exact g1 k hk) (fun c' h1 h2 => by rw [← g2 c' h1]; funext j; exact aw_sI_n (by omega)) (fun v => ?_) g3
  by_cases e : v = A 2 0 0
  · rw [aw_sI_e rfl e, if_pos e]
  · rw [aw_sI_n (by omega), if_neg e, g2 _ (by omega)]
