/-! the class: readings by syllables -/
theorem win_len (g : Nat → Nat) (j : Nat) : (win g j).length = j := by simp [win]
theorem win_get {g : Nat → Nat} {j i : Nat} (h : i < j) : (win g j).getD i 0 = g i := by simp [win, h]
theorem nI_NO (q : Nat) : nI q + NO = dI q := by
  unfold dI
  rw [Int32.sub_eq_add_neg]; rfl
theorem dI_lt0 (q : Nat) (h : q < 2147483648) : (dI q < nI 0) = (q = 0) := by
  by_cases e : q = 0
  · subst e; rw [dI_0]; exact (eq_true (by decide)).trans (eq_true rfl).symm
  · rw [dI_s _ (by omega), nI_ltJ (by omega) (by omega)]
    exact propext ⟨fun h => by omega, fun h => absurd h e⟩
theorem neg_lt0 {a b : Nat} (h : a < b) (hb : b < 2147483648) : (nI a - nI b < nI 0) = True := by
  refine eq_true ?_
  have e : nI a - nI b = -(nI (b - a)) := by rw [← nI_subI (show a ≤ b by omega), Int32.neg_sub]
  rw [e, Int32.lt_iff_toInt_lt, Int32.toInt_neg, nI_toInt (by omega), nI_toInt (by omega)]
  have : ((-((b - a : Nat) : Int)).bmod (2 ^ 32)) = -((b - a : Nat) : Int) := by apply Int.bmod_eq_of_le <;> omega
  rw [this]; omega
theorem C_fillI_L {σ : Sg} {d0 : Dt} {c n : Nat} {v : Int32} {Q : Unit × Dt → Prop} {k : Dt → Option (Unit × Dt)} (hI : ∀ i, i < n → aw_I σ 20 c (nI i)) (hn : n < 2147483648) (hk : ∀ d, (∀ e, e < n → d.1 c e = v) → Fr c c d0 d → ok (k d) Q) : ∀ (m i f : Nat) (d : Dt), i + m = n → m < f → (∀ e, e < i → d.1 c e = v) → Fr c c d0 d → ok (f_J7_fill_53178_L5 σ f k c v (nI n) (nI i) d) Q := by
  intro m
  induction m with
  | zero =>
    intro i f d hi hf w F
    cases f with
    | zero => omega
    | succ f =>
      show ok (f_J7_fill_53178_B5 σ (f_J7_fill_53178_L5 σ f k c v (nI n)) k c v (nI n) (nI i) d) Q
      simp (disch := first | assumption | omega) only [f_J7_fill_53178_B5, il_0, il_1, il_2, il_3, il_4, il_5, il_6, il_7, il_8, il_9, il_10, il_11, il_12, il_13, il_15, il_16, il_17, il_18, il_19, il_20, il_21, il_22, il_23, il_24, il_26, il_27, il_28, il_30, il_32, il_34, il_36, il_38, il_40, il_43, il_44, il_46, il_47, il_48, il_49, il_50, il_51, il_60, il_64, il_100, il_108, il_111, il_127, il_971, il_972, il_999, il_1000, il_1024, il_1087, il_2500, il_5000, il_9999, il_60000, il_2147483647, nI_add, nI_mulI, nI_subI, nI_divI, nI_cl, nI_leJ, nI_ltJ, nI_eqJ, nI_neM, nI_neM', aw_sI_e, aw_sI_n, aw_sI_2, aw_sL_e, aw_sL_n, aw_sL_1, Option.bind_some, aw_chkT, ck_and0, ck_and1, bI_t, bI_f, nar_0, nar_1]
      rw [if_pos (by omega)]
      exact hk d (fun e he => w e (by omega)) F
  | succ m ih =>
    intro i f d hi hf w F
    cases f with
    | zero => omega
    | succ f =>
      have hck := hI i (by omega)
      show ok (f_J7_fill_53178_B5 σ (f_J7_fill_53178_L5 σ f k c v (nI n)) k c v (nI n) (nI i) d) Q
      simp (disch := first | assumption | omega) only [f_J7_fill_53178_B5, ck_t hck, il_0, il_1, il_2, il_3, il_4, il_5, il_6, il_7, il_8, il_9, il_10, il_11, il_12, il_13, il_15, il_16, il_17, il_18, il_19, il_20, il_21, il_22, il_23, il_24, il_26, il_27, il_28, il_30, il_32, il_34, il_36, il_38, il_40, il_43, il_44, il_46, il_47, il_48, il_49, il_50, il_51, il_60, il_64, il_100, il_108, il_111, il_127, il_971, il_972, il_999, il_1000, il_1024, il_1087, il_2500, il_5000, il_9999, il_60000, il_2147483647, nI_add, nI_mulI, nI_subI, nI_divI, nI_cl, nI_leJ, nI_ltJ, nI_eqJ, nI_neM, nI_neM', aw_sI_e, aw_sI_n, aw_sI_2, aw_sL_e, aw_sL_n, aw_sL_1, Option.bind_some, aw_chkT, ck_and0, ck_and1, bI_t, bI_f, nar_0, nar_1]
      rw [if_neg (by omega)]
      refine ih (i + 1) f _ (by omega) (by omega) (fun e he => ?_) (F.w (by omega))
      by_cases e1 : e = i
      · rw [aw_sI_e rfl e1]
      · rw [aw_sI_n (by omega)]; exact w e (by omega)
theorem C_fillI {σ : Sg} {d : Dt} {c n : Nat} {v : Int32} (hS : Lay σ) (hc : c < 277) (hk : ly_k c = (20, n)) (hn : n < 5000) : ok (f_J7_fill_53178 σ c v d) (fun z => (∀ e, e < n → z.2.1 c e = v) ∧ Fr c c d z.2) := by
  obtain ⟨h1, h2⟩ := hS.k hc hk
  have hY : aw_Y σ 20 c := ⟨h1, by rw [h2]⟩
  unfold f_J7_fill_53178
  rw [ck_t hY, h2]
  exact C_fillI_L (c := c) (n := n) (v := v) (fun i hi => ly_I hS hc hk hi hn) (by omega) (fun d' w F => ok_some ⟨w, F⟩) n 0 aw_FU d (by omega) (by show _ < 5000; omega) (fun e he => by omega) Fr.rf
theorem C_stands_L {σ : Sg} {d : Dt} {r p : Nat} {l w : List Nat} {k : Dt → Option (Int32 × Dt)} (hS : Lay σ) (hcap : Cap σ r 16) (hl : l.length ≤ 16) (hw4 : w.length ≤ 4) (hp : p + w.length ≤ l.length) (hrow : ∀ i, i < l.length → d.1 r i = nI (l.getD i 0)) (ht : ∀ i, i < w.length → d.1 175 i = nI (w.getD i 0)) (b1 : ∀ i, l.getD i 0 < 50) (b2 : ∀ i, w.getD i 0 < 50) (hk : k d = some (nI 1, d)) : ∀ (m i f : Nat), i + m = w.length → m < f → f_X5_standsAt_L3 σ f k 148 (nI p) (nI w.length) r (nI i) d = some (bI (decide ((win (fun x => l.getD (p + x) 0) w.length).drop i = w.drop i)), d) := by
  have hwl := win_len (fun x => l.getD (p + x) 0) w.length
  intro m
  induction m with
  | zero =>
    intro i f hi hf
    cases f with
    | zero => omega
    | succ f =>
      show f_X5_standsAt_B3 σ (f_X5_standsAt_L3 σ f k 148 (nI p) (nI w.length) r) k 148 (nI p) (nI w.length) r (nI i) d = _
      simp (disch := first | assumption | omega) only [f_X5_standsAt_B3, il_0, il_1, il_2, il_3, il_4, il_5, il_6, il_7, il_8, il_9, il_10, il_11, il_12, il_13, il_15, il_16, il_17, il_18, il_19, il_20, il_21, il_22, il_23, il_24, il_26, il_27, il_28, il_30, il_32, il_34, il_36, il_38, il_40, il_43, il_44, il_46, il_47, il_48, il_49, il_50, il_51, il_60, il_64, il_100, il_108, il_111, il_127, il_971, il_972, il_999, il_1000, il_1024, il_1087, il_2500, il_5000, il_9999, il_60000, il_2147483647, nI_add, nI_mulI, nI_subI, nI_divI, nI_cl, nI_leJ, nI_ltJ, nI_eqJ, nI_neM, nI_neM']
      rw [if_pos (by omega), hk, List.drop_eq_nil_of_le (by omega), List.drop_eq_nil_of_le (by omega)]
      rfl
  | succ m ih =>
    intro i f hi hf
    cases f with
    | zero => omega
    | succ f =>
      have q1 := hrow (p + i) (by omega)
      have q2 := ht i (by omega)
      have t1 := b1 (p + i)
      have t2 := b2 i
      have hg := win_get (g := fun x => l.getD (p + x) 0) (j := w.length) (i := i) (by omega)
      show f_X5_standsAt_B3 σ (f_X5_standsAt_L3 σ f k 148 (nI p) (nI w.length) r) k 148 (nI p) (nI w.length) r (nI i) d = _
      simp (disch := first | assumption | omega) only [f_X5_standsAt_B3, q1, q2, cap_ck hcap, lo_0 hS, lo_1 hS, lo_33 hS, lo_34 hS, lo_89 hS, lo_100 hS, lo_123 hS, lo_146 hS, lo_148 hS, lo_176 hS, lo_182 hS, lo_D hS, lo_G hS, lr_37 hS, lr_93 hS, lr_101 hS, lr_124 hS, lr_152 hS, lr_169 hS, lr_0_0 hS, lr_0_1 hS, lr_0_2 hS, lr_0_3 hS, lr_0_5 hS, lr_0_6 hS, lr_0_7 hS, lr_0_8 hS, lr_0_9 hS, lr_0_10 hS, lr_0_11 hS, lr_0_12 hS, lr_1_0 hS, lr_1_2 hS, lr_33_0 hS, lr_33_1 hS, lr_33_2 hS, lr_33_3 hS, lr_34_0 hS, lr_89_0 hS, lr_89_1 hS, lr_89_2 hS, lr_89_3 hS, lr_89_4 hS, lr_89_5 hS, lr_100_0 hS, lr_100_1 hS, lr_123_0 hS, lr_123_1 hS, lr_146_0 hS, lr_148_0 hS, lr_148_1 hS, lr_148_2 hS, lr_148_3 hS, lr_148_4 hS, lr_148_5 hS, lr_176_0 hS, lr_176_1 hS, lr_176_4 hS, lr_176_6 hS, lr_176_7 hS, lr_182_0 hS, lr_D_0 hS, lr_D_1 hS, lr_D_2 hS, lr_D_3 hS, lr_D_5 hS, lr_D_6 hS, lr_D_r hS, lr_31 hS, lr_32 hS, lr_G_2 hS, lr_G_3 hS, lr_G_4 hS, li_2 hS, li_3 hS, li_31 hS, li_32 hS, li_35 hS, li_36 hS, li_37 hS, li_88 hS, li_90 hS, li_91 hS, li_92 hS, li_93 hS, li_98 hS, li_99 hS, li_101 hS, li_122 hS, li_124 hS, li_145 hS, li_147 hS, li_149 hS, li_150 hS, li_151 hS, li_152 hS, li_169 hS, li_175 hS, li_177 hS, li_178 hS, li_179 hS, li_180 hS, li_181 hS, li_183 hS, li_265 hS, li_266 hS, li_267 hS, li_268 hS, li_269 hS, li_270 hS, li_271 hS, li_272 hS, li_273 hS, li_274 hS, li_275 hS, li_276 hS, li_38 hS, li_94 hS, li_102 hS, li_125 hS, li_153 hS, li_170 hS, li_D_1 hS, li_D_2 hS, li_D_3 hS, li_D_4 hS, li_D_5 hS, li_D_26 hS, li_D_r hS, li_G_1 hS, li_G_2 hS, li_G_3 hS, li_rA hS, li_rK hS, li_rX hS, il_0, il_1, il_2, il_3, il_4, il_5, il_6, il_7, il_8, il_9, il_10, il_11, il_12, il_13, il_15, il_16, il_17, il_18, il_19, il_20, il_21, il_22, il_23, il_24, il_26, il_27, il_28, il_30, il_32, il_34, il_36, il_38, il_40, il_43, il_44, il_46, il_47, il_48, il_49, il_50, il_51, il_60, il_64, il_100, il_108, il_111, il_127, il_971, il_972, il_999, il_1000, il_1024, il_1087, il_2500, il_5000, il_9999, il_60000, il_2147483647, nI_add, nI_mulI, nI_subI, nI_divI, nI_cl, nI_leJ, nI_ltJ, nI_eqJ, nI_neM, nI_neM', aw_sI_e, aw_sI_n, aw_sI_2, aw_sL_e, aw_sL_n, aw_sL_1, Option.bind_some, aw_chkT, ck_and0, ck_and1, bI_t, bI_f, nar_0, nar_1]
      rw [if_neg (by omega), drop_dec (by omega) (by omega), hg]
      by_cases e1 : l.getD (p + i) 0 = w.getD i 0
      · rw [if_pos e1, ih (i + 1) f (by omega) (by omega), decide_eq_true e1, Bool.true_and]
      · rw [if_neg e1, decide_eq_false e1, Bool.false_and]
        rfl
theorem C_stands {σ : Sg} {d : Dt} {r p : Nat} {l w : List Nat} (hS : Lay σ) (hcap : Cap σ r 16) (hl : l.length ≤ 16) (hw4 : w.length ≤ 4) (hp : p + w.length ≤ l.length) (hrow : ∀ i, i < l.length → d.1 r i = nI (l.getD i 0)) (ht : ∀ i, i < w.length → d.1 175 i = nI (w.getD i 0)) (b1 : ∀ i, l.getD i 0 < 50) (b2 : ∀ i, w.getD i 0 < 50) : f_X5_standsAt σ 148 (nI p) (nI w.length) r d = some (bI (decide (win (fun x => l.getD (p + x) 0) w.length = w)), d) := by
  have h := C_stands_L hS hcap hl hw4 hp hrow ht b1 b2 (k := fun d_7 => some (nI 1, d_7)) rfl w.length 0 aw_FU (by omega) (by show _ < 5000; omega)
  simp only [List.drop_zero] at h
  simp (disch := first | assumption | omega) only [f_X5_standsAt, il_0, il_1, il_2, il_3, il_4, il_5, il_6, il_7, il_8, il_9, il_10, il_11, il_12, il_13, il_15, il_16, il_17, il_18, il_19, il_20, il_21, il_22, il_23, il_24, il_26, il_27, il_28, il_30, il_32, il_34, il_36, il_38, il_40, il_43, il_44, il_46, il_47, il_48, il_49, il_50, il_51, il_60, il_64, il_100, il_108, il_111, il_127, il_971, il_972, il_999, il_1000, il_1024, il_1087, il_2500, il_5000, il_9999, il_60000, il_2147483647, nI_add, nI_mulI, nI_subI, nI_divI, nI_cl, nI_leJ, nI_ltJ, nI_eqJ, nI_neM, nI_neM', aw_sI_e, aw_sI_n, aw_sI_2, aw_sL_e, aw_sL_n, aw_sL_1, Option.bind_some, aw_chkT, ck_and0, ck_and1, bI_t, bI_f, nar_0, nar_1]
  exact h
/-- counts of what stands -/
def Std (d : Dt) (L : Nat) (S : Nat → Nat → Nat) : Prop := ∀ p j, 0 < j → j ≤ 4 → p + j ≤ L → d.1 (153 + p) j = nI (S p j)

theorem C_try_L56 {σ : Sg} {d0 : Dt} {x1 r : Nat} {l w : List Nat} {x4 : Int32} {Q : Unit × Dt → Prop} {k : Dt → Option (Unit × Dt)} {S : Nat → Nat → Nat} (hS : Lay σ) (hcap : Cap σ r 16) (hr : r < 148) (hl : l.length ≤ 16) (hw0 : 0 < w.length) (hw4 : w.length ≤ 4) (hrow : ∀ i, i < l.length → d0.1 r i = nI (l.getD i 0)) (ht : ∀ i, i < w.length → d0.1 175 i = nI (w.getD i 0)) (b1 : ∀ i, l.getD i 0 < 50) (b2 : ∀ i, w.getD i 0 < 50)
    (hk : ∀ d, Std d l.length (fun p j => S p j + if j = w.length ∧ win (fun x => l.getD (p + x) 0) w.length = w then 1 else 0) → Fr 153 168 d0 d → ok (k d) Q) : ∀ (q f : Nat) (d : Dt), q < f → q + w.length ≤ l.length + 1 → Std d l.length (fun p j => S p j + if (j = w.length ∧ win (fun x => l.getD (p + x) 0) w.length = w) ∧ q ≤ p then 1 else 0) → Fr 153 168 d0 d → ok (f_X5_trySyllables_L56 σ f k 148 x1 r (nI l.length) x4 (nI w.length) (dI q) d) Q := by
  intro q
  induction q with
  | zero =>
    intro f d hf hq w1 F
    cases f with
    | zero => omega
    | succ f =>
      show ok (f_X5_trySyllables_B56 σ (f_X5_trySyllables_L56 σ f k 148 x1 r (nI l.length) x4 (nI w.length)) k 148 x1 r (nI l.length) x4 (nI w.length) (dI 0) d) Q
      simp (disch := first | assumption | omega) only [f_X5_trySyllables_B56, dI_lt0, if_true, il_0, il_1, il_2, il_3, il_4, il_5, il_6, il_7, il_8, il_9, il_10, il_11, il_12, il_13, il_15, il_16, il_17, il_18, il_19, il_20, il_21, il_22, il_23, il_24, il_26, il_27, il_28, il_30, il_32, il_34, il_36, il_38, il_40, il_43, il_44, il_46, il_47, il_48, il_49, il_50, il_51, il_60, il_64, il_100, il_108, il_111, il_127, il_971, il_972, il_999, il_1000, il_1024, il_1087, il_2500, il_5000, il_9999, il_60000, il_2147483647, nI_add, nI_mulI, nI_subI, nI_divI, nI_cl, nI_leJ, nI_ltJ, nI_eqJ, nI_neM, nI_neM']
      exact hk d (fun p j h1 h2 h3 => by rw [w1 p j h1 h2 h3]; simp only [Nat.zero_le, and_true]) F
  | succ q ih =>
    intro f d hf hq w1 F
    cases f with
    | zero => omega
    | succ f =>
      have hst := C_stands (d := d) (p := q) hS hcap hl hw4 (by omega) (fun i hi => by rw [(F r (by omega)).1]; exact hrow i hi) (fun i hi => by rw [(F 175 (by omega)).1]; exact ht i hi) b1 b2
      have hcnt : d.1 (153 + q) w.length = nI (S q w.length) := by
        have h := w1 q w.length hw0 hw4 (by omega)
        dsimp only at h
        rw [if_neg (fun h => by omega), Nat.add_zero] at h
        exact h
      have IH := fun d' => ih f d' (by omega) (by omega)
      show ok (f_X5_trySyllables_B56 σ (f_X5_trySyllables_L56 σ f k 148 x1 r (nI l.length) x4 (nI w.length)) k 148 x1 r (nI l.length) x4 (nI w.length) (dI (q + 1)) d) Q
      rw [dI_s _ (by omega), Nat.add_sub_cancel]
      simp (disch := first | assumption | omega) only [f_X5_trySyllables_B56, f_X5_trySyllables_J87, hst, hcnt, bI_0, Nat.not_lt_zero, if_false, nno, nI_NO, lo_0 hS, lo_1 hS, lo_33 hS, lo_34 hS, lo_89 hS, lo_100 hS, lo_123 hS, lo_146 hS, lo_148 hS, lo_176 hS, lo_182 hS, lo_D hS, lo_G hS, lr_37 hS, lr_93 hS, lr_101 hS, lr_124 hS, lr_152 hS, lr_169 hS, lr_0_0 hS, lr_0_1 hS, lr_0_2 hS, lr_0_3 hS, lr_0_5 hS, lr_0_6 hS, lr_0_7 hS, lr_0_8 hS, lr_0_9 hS, lr_0_10 hS, lr_0_11 hS, lr_0_12 hS, lr_1_0 hS, lr_1_2 hS, lr_33_0 hS, lr_33_1 hS, lr_33_2 hS, lr_33_3 hS, lr_34_0 hS, lr_89_0 hS, lr_89_1 hS, lr_89_2 hS, lr_89_3 hS, lr_89_4 hS, lr_89_5 hS, lr_100_0 hS, lr_100_1 hS, lr_123_0 hS, lr_123_1 hS, lr_146_0 hS, lr_148_0 hS, lr_148_1 hS, lr_148_2 hS, lr_148_3 hS, lr_148_4 hS, lr_148_5 hS, lr_176_0 hS, lr_176_1 hS, lr_176_4 hS, lr_176_6 hS, lr_176_7 hS, lr_182_0 hS, lr_D_0 hS, lr_D_1 hS, lr_D_2 hS, lr_D_3 hS, lr_D_5 hS, lr_D_6 hS, lr_D_r hS, lr_31 hS, lr_32 hS, lr_G_2 hS, lr_G_3 hS, lr_G_4 hS, li_2 hS, li_3 hS, li_31 hS, li_32 hS, li_35 hS, li_36 hS, li_37 hS, li_88 hS, li_90 hS, li_91 hS, li_92 hS, li_93 hS, li_98 hS, li_99 hS, li_101 hS, li_122 hS, li_124 hS, li_145 hS, li_147 hS, li_149 hS, li_150 hS, li_151 hS, li_152 hS, li_169 hS, li_175 hS, li_177 hS, li_178 hS, li_179 hS, li_180 hS, li_181 hS, li_183 hS, li_265 hS, li_266 hS, li_267 hS, li_268 hS, li_269 hS, li_270 hS, li_271 hS, li_272 hS, li_273 hS, li_274 hS, li_275 hS, li_276 hS, li_38 hS, li_94 hS, li_102 hS, li_125 hS, li_153 hS, li_170 hS, li_D_1 hS, li_D_2 hS, li_D_3 hS, li_D_4 hS, li_D_5 hS, li_D_26 hS, li_D_r hS, li_G_1 hS, li_G_2 hS, li_G_3 hS, li_rA hS, li_rK hS, li_rX hS, il_0, il_1, il_2, il_3, il_4, il_5, il_6, il_7, il_8, il_9, il_10, il_11, il_12, il_13, il_15, il_16, il_17, il_18, il_19, il_20, il_21, il_22, il_23, il_24, il_26, il_27, il_28, il_30, il_32, il_34, il_36, il_38, il_40, il_43, il_44, il_46, il_47, il_48, il_49, il_50, il_51, il_60, il_64, il_100, il_108, il_111, il_127, il_971, il_972, il_999, il_1000, il_1024, il_1087, il_2500, il_5000, il_9999, il_60000, il_2147483647, nI_add, nI_mulI, nI_subI, nI_divI, nI_cl, nI_leJ, nI_ltJ, nI_eqJ, nI_neM, nI_neM', aw_sI_e, aw_sI_n, aw_sI_2, aw_sL_e, aw_sL_n, aw_sL_1, Option.bind_some, aw_chkT, ck_and0, ck_and1, bI_t, bI_f, nar_0, nar_1]
      by_cases e : win (fun x => l.getD (q + x) 0) w.length = w
      · rw [decide_eq_true e]
        simp only [Bool.true_eq_false, if_false]
        refine IH _ (fun p j h1 h2 h3 => ?_) (F.w (by omega))
        by_cases e1 : p = q ∧ j = w.length
        · obtain ⟨rfl, rfl⟩ := e1
          rw [aw_sI_e rfl rfl]
          dsimp only
          rw [if_pos ⟨⟨rfl, e⟩, Nat.le_refl _⟩]
        · rw [aw_sI_n (by omega), w1 p j h1 h2 h3]
          dsimp only
          congr 2
          by_cases e2 : j = w.length ∧ win (fun x => l.getD (p + x) 0) w.length = w
          · by_cases e3 : q + 1 ≤ p
            · rw [if_pos ⟨e2, e3⟩, if_pos ⟨e2, by omega⟩]
            · rw [if_neg (fun h => e3 h.2), if_neg (fun h => by omega)]
          · rw [if_neg (fun h => e2 h.1), if_neg (fun h => e2 h.1)]
      · rw [decide_eq_false e]
        simp only [if_true]
        refine IH _ (fun p j h1 h2 h3 => ?_) F
        rw [w1 p j h1 h2 h3]
        dsimp only
        congr 2
        by_cases e2 : j = w.length ∧ win (fun x => l.getD (p + x) 0) w.length = w
        · by_cases e3 : q + 1 ≤ p
          · rw [if_pos ⟨e2, e3⟩, if_pos ⟨e2, by omega⟩]
          · have : p ≠ q := fun h => by subst h; exact e e2.2
            rw [if_neg (fun h => e3 h.2), if_neg (fun h => by omega)]
        · rw [if_neg (fun h => e2 h.1), if_neg (fun h => e2 h.1)]

theorem syl_lt2 {A : St} {D : Nat} (hu : ∀ u, u < 47 → A 14 D u < 50) {c : Nat} (hc : c < 972) (i : Nat) : (syl A D c).getD i 0 < 50 := getD_lt (by omega) (fun x hx => by
  obtain ⟨u, h1, h2, h3⟩ := isOf_iff.mp (syl_of hc hx)
  rw [← h3]; exact hu u h1) i
theorem cap_t {σ : Sg} (hS : Lay σ) : Cap σ 175 4 := fun i hi => ly_I hS (by omega) (by decide) hi (by decide)

theorem C_try_L29 {A : St} {σ : Sg} {d0 : Dt} {D r : Nat} {l : List Nat} {Q : Unit × Dt → Prop} {k : Dt → Option (Unit × Dt)} (hS : Lay σ) (hDn : D < ly_n σ) (hG0 : RepG A d0 D (277 + 4 * D)) (hu : ∀ u, u < 47 → A 14 D u < 50) (hm1 : ∀ t, t < 3 → A 15 D t ≤ 1) (hk1 : A 12 0 D ≤ 1) (hl : l.length ≤ 16) (hr : r < 148) (hcap : Cap σ r 16) (hrow : ∀ i, i < l.length → d0.1 r i = nI (l.getD i 0)) (b1 : ∀ i, l.getD i 0 < 50) (hk : ∀ d, Std d l.length (fun p j => cntS A D (fun x => l.getD (p + x) 0) j) → Fr 153 175 d0 d → ok (k d) Q) : ∀ (m i f : Nat) (d : Dt), i + m = 972 → m < f → Std d l.length (fun p j => sumR (fun c => if syl A D c = win (fun x => l.getD (p + x) 0) j then 1 else 0) i) → Fr 153 175 d0 d → ok (f_X5_trySyllables_L29 σ f k 148 (277 + 4 * D) r (nI l.length) (nI i) d) Q := by
  intro m
  induction m with
  | zero =>
    intro i f d hi hf w1 F
    cases f with
    | zero => omega
    | succ f =>
      show ok (f_X5_trySyllables_B29 σ (f_X5_trySyllables_L29 σ f k 148 (277 + 4 * D) r (nI l.length)) k 148 (277 + 4 * D) r (nI l.length) (nI i) d) Q
      simp (disch := first | assumption | omega) only [f_X5_trySyllables_B29, lo_0 hS, lo_1 hS, lo_33 hS, lo_34 hS, lo_89 hS, lo_100 hS, lo_123 hS, lo_146 hS, lo_148 hS, lo_176 hS, lo_182 hS, lo_D hS, lo_G hS, lr_37 hS, lr_93 hS, lr_101 hS, lr_124 hS, lr_152 hS, lr_169 hS, lr_0_0 hS, lr_0_1 hS, lr_0_2 hS, lr_0_3 hS, lr_0_5 hS, lr_0_6 hS, lr_0_7 hS, lr_0_8 hS, lr_0_9 hS, lr_0_10 hS, lr_0_11 hS, lr_0_12 hS, lr_1_0 hS, lr_1_2 hS, lr_33_0 hS, lr_33_1 hS, lr_33_2 hS, lr_33_3 hS, lr_34_0 hS, lr_89_0 hS, lr_89_1 hS, lr_89_2 hS, lr_89_3 hS, lr_89_4 hS, lr_89_5 hS, lr_100_0 hS, lr_100_1 hS, lr_123_0 hS, lr_123_1 hS, lr_146_0 hS, lr_148_0 hS, lr_148_1 hS, lr_148_2 hS, lr_148_3 hS, lr_148_4 hS, lr_148_5 hS, lr_176_0 hS, lr_176_1 hS, lr_176_4 hS, lr_176_6 hS, lr_176_7 hS, lr_182_0 hS, lr_D_0 hS, lr_D_1 hS, lr_D_2 hS, lr_D_3 hS, lr_D_5 hS, lr_D_6 hS, lr_D_r hS, lr_31 hS, lr_32 hS, lr_G_2 hS, lr_G_3 hS, lr_G_4 hS, li_2 hS, li_3 hS, li_31 hS, li_32 hS, li_35 hS, li_36 hS, li_37 hS, li_88 hS, li_90 hS, li_91 hS, li_92 hS, li_93 hS, li_98 hS, li_99 hS, li_101 hS, li_122 hS, li_124 hS, li_145 hS, li_147 hS, li_149 hS, li_150 hS, li_151 hS, li_152 hS, li_169 hS, li_175 hS, li_177 hS, li_178 hS, li_179 hS, li_180 hS, li_181 hS, li_183 hS, li_265 hS, li_266 hS, li_267 hS, li_268 hS, li_269 hS, li_270 hS, li_271 hS, li_272 hS, li_273 hS, li_274 hS, li_275 hS, li_276 hS, li_38 hS, li_94 hS, li_102 hS, li_125 hS, li_153 hS, li_170 hS, li_D_1 hS, li_D_2 hS, li_D_3 hS, li_D_4 hS, li_D_5 hS, li_D_26 hS, li_D_r hS, li_G_1 hS, li_G_2 hS, li_G_3 hS, li_rA hS, li_rK hS, li_rX hS, il_0, il_1, il_2, il_3, il_4, il_5, il_6, il_7, il_8, il_9, il_10, il_11, il_12, il_13, il_15, il_16, il_17, il_18, il_19, il_20, il_21, il_22, il_23, il_24, il_26, il_27, il_28, il_30, il_32, il_34, il_36, il_38, il_40, il_43, il_44, il_46, il_47, il_48, il_49, il_50, il_51, il_60, il_64, il_100, il_108, il_111, il_127, il_971, il_972, il_999, il_1000, il_1024, il_1087, il_2500, il_5000, il_9999, il_60000, il_2147483647, nI_add, nI_mulI, nI_subI, nI_divI, nI_cl, nI_leJ, nI_ltJ, nI_eqJ, nI_neM, nI_neM', aw_sI_e, aw_sI_n, aw_sI_2, aw_sL_e, aw_sL_n, aw_sL_1, Option.bind_some, aw_chkT, ck_and0, ck_and1, bI_t, bI_f, nar_0, nar_1]
      rw [if_pos (by omega)]
      obtain rfl : i = 972 := by omega
      exact hk d w1 F
  | succ m ih =>
    intro i f d hi hf w1 F
    cases f with
    | zero => omega
    | succ f =>
      show ok (f_X5_trySyllables_B29 σ (f_X5_trySyllables_L29 σ f k 148 (277 + 4 * D) r (nI l.length)) k 148 (277 + 4 * D) r (nI l.length) (nI i) d) Q
      simp (disch := first | assumption | omega) only [f_X5_trySyllables_B29, lo_0 hS, lo_1 hS, lo_33 hS, lo_34 hS, lo_89 hS, lo_100 hS, lo_123 hS, lo_146 hS, lo_148 hS, lo_176 hS, lo_182 hS, lo_D hS, lo_G hS, lr_37 hS, lr_93 hS, lr_101 hS, lr_124 hS, lr_152 hS, lr_169 hS, lr_0_0 hS, lr_0_1 hS, lr_0_2 hS, lr_0_3 hS, lr_0_5 hS, lr_0_6 hS, lr_0_7 hS, lr_0_8 hS, lr_0_9 hS, lr_0_10 hS, lr_0_11 hS, lr_0_12 hS, lr_1_0 hS, lr_1_2 hS, lr_33_0 hS, lr_33_1 hS, lr_33_2 hS, lr_33_3 hS, lr_34_0 hS, lr_89_0 hS, lr_89_1 hS, lr_89_2 hS, lr_89_3 hS, lr_89_4 hS, lr_89_5 hS, lr_100_0 hS, lr_100_1 hS, lr_123_0 hS, lr_123_1 hS, lr_146_0 hS, lr_148_0 hS, lr_148_1 hS, lr_148_2 hS, lr_148_3 hS, lr_148_4 hS, lr_148_5 hS, lr_176_0 hS, lr_176_1 hS, lr_176_4 hS, lr_176_6 hS, lr_176_7 hS, lr_182_0 hS, lr_D_0 hS, lr_D_1 hS, lr_D_2 hS, lr_D_3 hS, lr_D_5 hS, lr_D_6 hS, lr_D_r hS, lr_31 hS, lr_32 hS, lr_G_2 hS, lr_G_3 hS, lr_G_4 hS, li_2 hS, li_3 hS, li_31 hS, li_32 hS, li_35 hS, li_36 hS, li_37 hS, li_88 hS, li_90 hS, li_91 hS, li_92 hS, li_93 hS, li_98 hS, li_99 hS, li_101 hS, li_122 hS, li_124 hS, li_145 hS, li_147 hS, li_149 hS, li_150 hS, li_151 hS, li_152 hS, li_169 hS, li_175 hS, li_177 hS, li_178 hS, li_179 hS, li_180 hS, li_181 hS, li_183 hS, li_265 hS, li_266 hS, li_267 hS, li_268 hS, li_269 hS, li_270 hS, li_271 hS, li_272 hS, li_273 hS, li_274 hS, li_275 hS, li_276 hS, li_38 hS, li_94 hS, li_102 hS, li_125 hS, li_153 hS, li_170 hS, li_D_1 hS, li_D_2 hS, li_D_3 hS, li_D_4 hS, li_D_5 hS, li_D_26 hS, li_D_r hS, li_G_1 hS, li_G_2 hS, li_G_3 hS, li_rA hS, li_rK hS, li_rX hS, il_0, il_1, il_2, il_3, il_4, il_5, il_6, il_7, il_8, il_9, il_10, il_11, il_12, il_13, il_15, il_16, il_17, il_18, il_19, il_20, il_21, il_22, il_23, il_24, il_26, il_27, il_28, il_30, il_32, il_34, il_36, il_38, il_40, il_43, il_44, il_46, il_47, il_48, il_49, il_50, il_51, il_60, il_64, il_100, il_108, il_111, il_127, il_971, il_972, il_999, il_1000, il_1024, il_1087, il_2500, il_5000, il_9999, il_60000, il_2147483647, nI_add, nI_mulI, nI_subI, nI_divI, nI_cl, nI_leJ, nI_ltJ, nI_eqJ, nI_neM, nI_neM', aw_sI_e, aw_sI_n, aw_sI_2, aw_sL_e, aw_sL_n, aw_sL_1, Option.bind_some, aw_chkT, ck_and0, ck_and1, bI_t, bI_f, nar_0, nar_1]
      rw [if_neg (by omega)]
      have hi9 : i < 972 := by omega
      have hG := Fr.G hG0 F (by omega)
      have hrow' : ∀ j, j < l.length → d.1 r j = nI (l.getD j 0) := fun j hj => by rw [(F r (by omega)).1]; exact hrow j hj
      have hsl := syl_len A D i
      obtain ⟨z, hz, z1, z2⟩ := C_syl hS hDn hG hk1 hm1 (cap_t hS) (show 175 < 184 by omega) (Wr.nil (c := 175) (s := 0) (d := d)) hi9 (by show 0 + 4 ≤ 4; omega) (by omega)
      rw [List.nil_append] at z1 z2
      have hz' : f_X1_spellSyllable σ (277 + 4 * D) (nI i) 175 (nI 0) d = some z := hz
      have w2 : Std z.2 l.length (fun p j => sumR (fun c => if syl A D c = win (fun x => l.getD (p + x) 0) j then 1 else 0) i) := fun p j h1 h2 h3 => by rw [z2.o (by omega)]; exact w1 p j h1 h2 h3
      have step : ∀ p j, 0 < j → (sumR (fun c => if syl A D c = win (fun x => l.getD (p + x) 0) j then 1 else 0) (i + 1)) = (sumR (fun c => if syl A D c = win (fun x => l.getD (p + x) 0) j then 1 else 0) i) + if j = (syl A D i).length ∧ win (fun x => l.getD (p + x) 0) (syl A D i).length = syl A D i then 1 else 0 := fun p j hj => by
        simp only [sumR]
        congr 1
        by_cases e : syl A D i = win (fun x => l.getD (p + x) 0) j
        · have el : j = (syl A D i).length := by rw [e, win_len]
          rw [if_pos e, if_pos ⟨el, by rw [← el]; exact e.symm⟩]
        · rw [if_neg e, if_neg (fun h => e (by rw [h.1]; exact h.2.symm))]
      have IH : ∀ d', Std d' l.length (fun p j => sumR (fun c => if syl A D c = win (fun x => l.getD (p + x) 0) j then 1 else 0) i + if j = (syl A D i).length ∧ win (fun x => l.getD (p + x) 0) (syl A D i).length = syl A D i then 1 else 0) → Fr 153 175 d0 d' → ok (f_X5_trySyllables_L29 σ f k 148 (277 + 4 * D) r (nI l.length) (nI (i + 1)) d') Q := fun d' a1 a2 => ih (i + 1) f d' (by omega) (by omega) (fun p j h1 h2 h3 => by rw [a1 p j h1 h2 h3]; show _ = nI (sumR (fun c => if syl A D c = win (fun x => l.getD (p + x) 0) j then 1 else 0) (i + 1)); rw [step p j h1]) a2
      have FZ : Fr 153 175 d0 z.2 := F.tr (z2.fr.mono (by omega) (by omega))
      simp (disch := first | assumption | omega) only [hz', z1, lo_0 hS, lo_1 hS, lo_33 hS, lo_34 hS, lo_89 hS, lo_100 hS, lo_123 hS, lo_146 hS, lo_148 hS, lo_176 hS, lo_182 hS, lo_D hS, lo_G hS, lr_37 hS, lr_93 hS, lr_101 hS, lr_124 hS, lr_152 hS, lr_169 hS, lr_0_0 hS, lr_0_1 hS, lr_0_2 hS, lr_0_3 hS, lr_0_5 hS, lr_0_6 hS, lr_0_7 hS, lr_0_8 hS, lr_0_9 hS, lr_0_10 hS, lr_0_11 hS, lr_0_12 hS, lr_1_0 hS, lr_1_2 hS, lr_33_0 hS, lr_33_1 hS, lr_33_2 hS, lr_33_3 hS, lr_34_0 hS, lr_89_0 hS, lr_89_1 hS, lr_89_2 hS, lr_89_3 hS, lr_89_4 hS, lr_89_5 hS, lr_100_0 hS, lr_100_1 hS, lr_123_0 hS, lr_123_1 hS, lr_146_0 hS, lr_148_0 hS, lr_148_1 hS, lr_148_2 hS, lr_148_3 hS, lr_148_4 hS, lr_148_5 hS, lr_176_0 hS, lr_176_1 hS, lr_176_4 hS, lr_176_6 hS, lr_176_7 hS, lr_182_0 hS, lr_D_0 hS, lr_D_1 hS, lr_D_2 hS, lr_D_3 hS, lr_D_5 hS, lr_D_6 hS, lr_D_r hS, lr_31 hS, lr_32 hS, lr_G_2 hS, lr_G_3 hS, lr_G_4 hS, li_2 hS, li_3 hS, li_31 hS, li_32 hS, li_35 hS, li_36 hS, li_37 hS, li_88 hS, li_90 hS, li_91 hS, li_92 hS, li_93 hS, li_98 hS, li_99 hS, li_101 hS, li_122 hS, li_124 hS, li_145 hS, li_147 hS, li_149 hS, li_150 hS, li_151 hS, li_152 hS, li_169 hS, li_175 hS, li_177 hS, li_178 hS, li_179 hS, li_180 hS, li_181 hS, li_183 hS, li_265 hS, li_266 hS, li_267 hS, li_268 hS, li_269 hS, li_270 hS, li_271 hS, li_272 hS, li_273 hS, li_274 hS, li_275 hS, li_276 hS, li_38 hS, li_94 hS, li_102 hS, li_125 hS, li_153 hS, li_170 hS, li_D_1 hS, li_D_2 hS, li_D_3 hS, li_D_4 hS, li_D_5 hS, li_D_26 hS, li_D_r hS, li_G_1 hS, li_G_2 hS, li_G_3 hS, li_rA hS, li_rK hS, li_rX hS, il_0, il_1, il_2, il_3, il_4, il_5, il_6, il_7, il_8, il_9, il_10, il_11, il_12, il_13, il_15, il_16, il_17, il_18, il_19, il_20, il_21, il_22, il_23, il_24, il_26, il_27, il_28, il_30, il_32, il_34, il_36, il_38, il_40, il_43, il_44, il_46, il_47, il_48, il_49, il_50, il_51, il_60, il_64, il_100, il_108, il_111, il_127, il_971, il_972, il_999, il_1000, il_1024, il_1087, il_2500, il_5000, il_9999, il_60000, il_2147483647, nI_add, nI_mulI, nI_subI, nI_divI, nI_cl, nI_leJ, nI_ltJ, nI_eqJ, nI_neM, nI_neM', aw_sI_e, aw_sI_n, aw_sI_2, aw_sL_e, aw_sL_n, aw_sL_1, Option.bind_some, aw_chkT, ck_and0, ck_and1, bI_t, bI_f, nar_0, nar_1]
      by_cases hs : (syl A D i).length ≤ l.length
      · rw [nI_subI hs]
        have hq : nI (l.length - (syl A D i).length) = dI (l.length - (syl A D i).length + 1) := by rw [dI_s _ (by omega), Nat.add_sub_cancel]
        rw [hq]
        refine C_try_L56 (S := (fun p j => sumR (fun c => if syl A D c = win (fun x => l.getD (p + x) 0) j then 1 else 0) i)) hS hcap hr hl (by omega) (by omega) (fun j hj => by rw [z2.o (by omega)]; exact hrow' j hj) (fun j hj => by have h := z2.1 j hj; rw [Nat.zero_add] at h; exact h) b1 (syl_lt2 hu hi9) (fun d' a F' => IH d' a (FZ.tr (F'.mono (by omega) (by omega)))) (l.length - (syl A D i).length + 1) aw_FU z.2 (by show _ < 5000; omega) (by omega) (fun p j h1 h2 h3 => ?_) Fr.rf
        rw [w2 p j h1 h2 h3]
        dsimp only
        rw [if_neg (fun h => by omega), Nat.add_zero]
      · have hneg := neg_lt0 (a := l.length) (b := (syl A D i).length) (by omega) (by omega)
        rw [show aw_FU = 4999 + 1 from rfl]
        have hex : ∀ (kk : Dt → Option (Unit × Dt)) (x4 : Int32), f_X5_trySyllables_L56 σ (4999 + 1) kk 148 (277 + 4 * D) r (nI l.length) x4 (nI (syl A D i).length) (nI l.length - nI (syl A D i).length) z.2 = kk z.2 := fun kk x4 => by
          show f_X5_trySyllables_B56 σ (f_X5_trySyllables_L56 σ 4999 kk 148 (277 + 4 * D) r (nI l.length) x4 (nI (syl A D i).length)) kk 148 (277 + 4 * D) r (nI l.length) x4 (nI (syl A D i).length) (nI l.length - nI (syl A D i).length) z.2 = _
          unfold f_X5_trySyllables_B56
          rw [if_pos (by rw [il_0, hneg]; trivial)]
        rw [hex]
        refine IH z.2 (fun p j h1 h2 h3 => ?_) FZ
        rw [w2 p j h1 h2 h3]
        dsimp only
        rw [if_neg (fun h => by omega), Nat.add_zero]

theorem C_try_L3 {A : St} {σ : Sg} {d0 : Dt} {D r : Nat} {l : List Nat} {Q : Unit × Dt → Prop} {k : Dt → Option (Unit × Dt)} (hS : Lay σ) (hDn : D < ly_n σ) (hl : l.length ≤ 16) (hr : r < 148) (hk : ∀ d, Std d l.length (fun _ _ => 0) → Fr 153 168 d0 d → ok (k d) Q) : ∀ (m i f : Nat) (d : Dt), i + m = l.length → m < f → (∀ p, p < i → ∀ j, j < 5 → d.1 (153 + p) j = nI 0) → Fr 153 168 d0 d → ok (f_X5_trySyllables_L3 σ f k 148 (277 + 4 * D) r (nI l.length) (nI i) d) Q := by
  intro m
  induction m with
  | zero =>
    intro i f d hi hf w1 F
    cases f with
    | zero => omega
    | succ f =>
      show ok (f_X5_trySyllables_B3 σ (f_X5_trySyllables_L3 σ f k 148 (277 + 4 * D) r (nI l.length)) k 148 (277 + 4 * D) r (nI l.length) (nI i) d) Q
      simp (disch := first | assumption | omega) only [f_X5_trySyllables_B3, lo_0 hS, lo_1 hS, lo_33 hS, lo_34 hS, lo_89 hS, lo_100 hS, lo_123 hS, lo_146 hS, lo_148 hS, lo_176 hS, lo_182 hS, lo_D hS, lo_G hS, lr_37 hS, lr_93 hS, lr_101 hS, lr_124 hS, lr_152 hS, lr_169 hS, lr_0_0 hS, lr_0_1 hS, lr_0_2 hS, lr_0_3 hS, lr_0_5 hS, lr_0_6 hS, lr_0_7 hS, lr_0_8 hS, lr_0_9 hS, lr_0_10 hS, lr_0_11 hS, lr_0_12 hS, lr_1_0 hS, lr_1_2 hS, lr_33_0 hS, lr_33_1 hS, lr_33_2 hS, lr_33_3 hS, lr_34_0 hS, lr_89_0 hS, lr_89_1 hS, lr_89_2 hS, lr_89_3 hS, lr_89_4 hS, lr_89_5 hS, lr_100_0 hS, lr_100_1 hS, lr_123_0 hS, lr_123_1 hS, lr_146_0 hS, lr_148_0 hS, lr_148_1 hS, lr_148_2 hS, lr_148_3 hS, lr_148_4 hS, lr_148_5 hS, lr_176_0 hS, lr_176_1 hS, lr_176_4 hS, lr_176_6 hS, lr_176_7 hS, lr_182_0 hS, lr_D_0 hS, lr_D_1 hS, lr_D_2 hS, lr_D_3 hS, lr_D_5 hS, lr_D_6 hS, lr_D_r hS, lr_31 hS, lr_32 hS, lr_G_2 hS, lr_G_3 hS, lr_G_4 hS, li_2 hS, li_3 hS, li_31 hS, li_32 hS, li_35 hS, li_36 hS, li_37 hS, li_88 hS, li_90 hS, li_91 hS, li_92 hS, li_93 hS, li_98 hS, li_99 hS, li_101 hS, li_122 hS, li_124 hS, li_145 hS, li_147 hS, li_149 hS, li_150 hS, li_151 hS, li_152 hS, li_169 hS, li_175 hS, li_177 hS, li_178 hS, li_179 hS, li_180 hS, li_181 hS, li_183 hS, li_265 hS, li_266 hS, li_267 hS, li_268 hS, li_269 hS, li_270 hS, li_271 hS, li_272 hS, li_273 hS, li_274 hS, li_275 hS, li_276 hS, li_38 hS, li_94 hS, li_102 hS, li_125 hS, li_153 hS, li_170 hS, li_D_1 hS, li_D_2 hS, li_D_3 hS, li_D_4 hS, li_D_5 hS, li_D_26 hS, li_D_r hS, li_G_1 hS, li_G_2 hS, li_G_3 hS, li_rA hS, li_rK hS, li_rX hS, il_0, il_1, il_2, il_3, il_4, il_5, il_6, il_7, il_8, il_9, il_10, il_11, il_12, il_13, il_15, il_16, il_17, il_18, il_19, il_20, il_21, il_22, il_23, il_24, il_26, il_27, il_28, il_30, il_32, il_34, il_36, il_38, il_40, il_43, il_44, il_46, il_47, il_48, il_49, il_50, il_51, il_60, il_64, il_100, il_108, il_111, il_127, il_971, il_972, il_999, il_1000, il_1024, il_1087, il_2500, il_5000, il_9999, il_60000, il_2147483647, nI_add, nI_mulI, nI_subI, nI_divI, nI_cl, nI_leJ, nI_ltJ, nI_eqJ, nI_neM, nI_neM', aw_sI_e, aw_sI_n, aw_sI_2, aw_sL_e, aw_sL_n, aw_sL_1, Option.bind_some, aw_chkT, ck_and0, ck_and1, bI_t, bI_f, nar_0, nar_1]
      rw [if_pos (by omega)]
      exact hk d (fun p j h1 h2 h3 => w1 p (by omega) j (by omega)) F
  | succ m ih =>
    intro i f d hi hf w1 F
    cases f with
    | zero => omega
    | succ f =>
      show ok (f_X5_trySyllables_B3 σ (f_X5_trySyllables_L3 σ f k 148 (277 + 4 * D) r (nI l.length)) k 148 (277 + 4 * D) r (nI l.length) (nI i) d) Q
      simp (disch := first | assumption | omega) only [f_X5_trySyllables_B3, lo_0 hS, lo_1 hS, lo_33 hS, lo_34 hS, lo_89 hS, lo_100 hS, lo_123 hS, lo_146 hS, lo_148 hS, lo_176 hS, lo_182 hS, lo_D hS, lo_G hS, lr_37 hS, lr_93 hS, lr_101 hS, lr_124 hS, lr_152 hS, lr_169 hS, lr_0_0 hS, lr_0_1 hS, lr_0_2 hS, lr_0_3 hS, lr_0_5 hS, lr_0_6 hS, lr_0_7 hS, lr_0_8 hS, lr_0_9 hS, lr_0_10 hS, lr_0_11 hS, lr_0_12 hS, lr_1_0 hS, lr_1_2 hS, lr_33_0 hS, lr_33_1 hS, lr_33_2 hS, lr_33_3 hS, lr_34_0 hS, lr_89_0 hS, lr_89_1 hS, lr_89_2 hS, lr_89_3 hS, lr_89_4 hS, lr_89_5 hS, lr_100_0 hS, lr_100_1 hS, lr_123_0 hS, lr_123_1 hS, lr_146_0 hS, lr_148_0 hS, lr_148_1 hS, lr_148_2 hS, lr_148_3 hS, lr_148_4 hS, lr_148_5 hS, lr_176_0 hS, lr_176_1 hS, lr_176_4 hS, lr_176_6 hS, lr_176_7 hS, lr_182_0 hS, lr_D_0 hS, lr_D_1 hS, lr_D_2 hS, lr_D_3 hS, lr_D_5 hS, lr_D_6 hS, lr_D_r hS, lr_31 hS, lr_32 hS, lr_G_2 hS, lr_G_3 hS, lr_G_4 hS, li_2 hS, li_3 hS, li_31 hS, li_32 hS, li_35 hS, li_36 hS, li_37 hS, li_88 hS, li_90 hS, li_91 hS, li_92 hS, li_93 hS, li_98 hS, li_99 hS, li_101 hS, li_122 hS, li_124 hS, li_145 hS, li_147 hS, li_149 hS, li_150 hS, li_151 hS, li_152 hS, li_169 hS, li_175 hS, li_177 hS, li_178 hS, li_179 hS, li_180 hS, li_181 hS, li_183 hS, li_265 hS, li_266 hS, li_267 hS, li_268 hS, li_269 hS, li_270 hS, li_271 hS, li_272 hS, li_273 hS, li_274 hS, li_275 hS, li_276 hS, li_38 hS, li_94 hS, li_102 hS, li_125 hS, li_153 hS, li_170 hS, li_D_1 hS, li_D_2 hS, li_D_3 hS, li_D_4 hS, li_D_5 hS, li_D_26 hS, li_D_r hS, li_G_1 hS, li_G_2 hS, li_G_3 hS, li_rA hS, li_rK hS, li_rX hS, il_0, il_1, il_2, il_3, il_4, il_5, il_6, il_7, il_8, il_9, il_10, il_11, il_12, il_13, il_15, il_16, il_17, il_18, il_19, il_20, il_21, il_22, il_23, il_24, il_26, il_27, il_28, il_30, il_32, il_34, il_36, il_38, il_40, il_43, il_44, il_46, il_47, il_48, il_49, il_50, il_51, il_60, il_64, il_100, il_108, il_111, il_127, il_971, il_972, il_999, il_1000, il_1024, il_1087, il_2500, il_5000, il_9999, il_60000, il_2147483647, nI_add, nI_mulI, nI_subI, nI_divI, nI_cl, nI_leJ, nI_ltJ, nI_eqJ, nI_neM, nI_neM', aw_sI_e, aw_sI_n, aw_sI_2, aw_sL_e, aw_sL_n, aw_sL_1, Option.bind_some, aw_chkT, ck_and0, ck_and1, bI_t, bI_f, nar_0, nar_1]
      rw [if_neg (by omega)]
      obtain ⟨z, hz, z1, z2⟩ := C_fillI (d := d) (c := 153 + i) (n := 5) (v := nI 0) hS (by omega) ((by decide : ∀ i, i < 16 → ly_k (153 + i) = (20, 5)) i (by omega)) (by omega)
      simp (disch := first | assumption | omega) only [hz, lo_0 hS, lo_1 hS, lo_33 hS, lo_34 hS, lo_89 hS, lo_100 hS, lo_123 hS, lo_146 hS, lo_148 hS, lo_176 hS, lo_182 hS, lo_D hS, lo_G hS, lr_37 hS, lr_93 hS, lr_101 hS, lr_124 hS, lr_152 hS, lr_169 hS, lr_0_0 hS, lr_0_1 hS, lr_0_2 hS, lr_0_3 hS, lr_0_5 hS, lr_0_6 hS, lr_0_7 hS, lr_0_8 hS, lr_0_9 hS, lr_0_10 hS, lr_0_11 hS, lr_0_12 hS, lr_1_0 hS, lr_1_2 hS, lr_33_0 hS, lr_33_1 hS, lr_33_2 hS, lr_33_3 hS, lr_34_0 hS, lr_89_0 hS, lr_89_1 hS, lr_89_2 hS, lr_89_3 hS, lr_89_4 hS, lr_89_5 hS, lr_100_0 hS, lr_100_1 hS, lr_123_0 hS, lr_123_1 hS, lr_146_0 hS, lr_148_0 hS, lr_148_1 hS, lr_148_2 hS, lr_148_3 hS, lr_148_4 hS, lr_148_5 hS, lr_176_0 hS, lr_176_1 hS, lr_176_4 hS, lr_176_6 hS, lr_176_7 hS, lr_182_0 hS, lr_D_0 hS, lr_D_1 hS, lr_D_2 hS, lr_D_3 hS, lr_D_5 hS, lr_D_6 hS, lr_D_r hS, lr_31 hS, lr_32 hS, lr_G_2 hS, lr_G_3 hS, lr_G_4 hS, li_2 hS, li_3 hS, li_31 hS, li_32 hS, li_35 hS, li_36 hS, li_37 hS, li_88 hS, li_90 hS, li_91 hS, li_92 hS, li_93 hS, li_98 hS, li_99 hS, li_101 hS, li_122 hS, li_124 hS, li_145 hS, li_147 hS, li_149 hS, li_150 hS, li_151 hS, li_152 hS, li_169 hS, li_175 hS, li_177 hS, li_178 hS, li_179 hS, li_180 hS, li_181 hS, li_183 hS, li_265 hS, li_266 hS, li_267 hS, li_268 hS, li_269 hS, li_270 hS, li_271 hS, li_272 hS, li_273 hS, li_274 hS, li_275 hS, li_276 hS, li_38 hS, li_94 hS, li_102 hS, li_125 hS, li_153 hS, li_170 hS, li_D_1 hS, li_D_2 hS, li_D_3 hS, li_D_4 hS, li_D_5 hS, li_D_26 hS, li_D_r hS, li_G_1 hS, li_G_2 hS, li_G_3 hS, li_rA hS, li_rK hS, li_rX hS, il_0, il_1, il_2, il_3, il_4, il_5, il_6, il_7, il_8, il_9, il_10, il_11, il_12, il_13, il_15, il_16, il_17, il_18, il_19, il_20, il_21, il_22, il_23, il_24, il_26, il_27, il_28, il_30, il_32, il_34, il_36, il_38, il_40, il_43, il_44, il_46, il_47, il_48, il_49, il_50, il_51, il_60, il_64, il_100, il_108, il_111, il_127, il_971, il_972, il_999, il_1000, il_1024, il_1087, il_2500, il_5000, il_9999, il_60000, il_2147483647, nI_add, nI_mulI, nI_subI, nI_divI, nI_cl, nI_leJ, nI_ltJ, nI_eqJ, nI_neM, nI_neM', aw_sI_e, aw_sI_n, aw_sI_2, aw_sL_e, aw_sL_n, aw_sL_1, Option.bind_some, aw_chkT, ck_and0, ck_and1, bI_t, bI_f, nar_0, nar_1]
      refine ih (i + 1) f z.2 (by omega) (by omega) (fun p hp j hj => ?_) (F.tr (z2.mono (by omega) (by omega)))
      by_cases e : p = i
      · subst e; exact z1 j hj
      · rw [(z2 _ (by omega)).1]; exact w1 p (by omega) j hj

theorem C_try {A : St} {σ : Sg} {d0 : Dt} {D r : Nat} {l : List Nat} (hS : Lay σ) (hDn : D < ly_n σ) (hG0 : RepG A d0 D (277 + 4 * D)) (hu : ∀ u, u < 47 → A 14 D u < 50) (hm1 : ∀ t, t < 3 → A 15 D t ≤ 1) (hk1 : A 12 0 D ≤ 1) (hl : l.length ≤ 16) (hr : r < 148) (hcap : Cap σ r 16) (hrow : ∀ i, i < l.length → d0.1 r i = nI (l.getD i 0)) (b1 : ∀ i, l.getD i 0 < 50) : ok (f_X5_trySyllables σ 148 (277 + 4 * D) r (nI l.length) d0) (fun z => Std z.2 l.length (fun p j => cntS A D (fun x => l.getD (p + x) 0) j) ∧ Fr 153 175 d0 z.2) := by
  simp (disch := first | assumption | omega) only [f_X5_trySyllables, il_0, il_1, il_2, il_3, il_4, il_5, il_6, il_7, il_8, il_9, il_10, il_11, il_12, il_13, il_15, il_16, il_17, il_18, il_19, il_20, il_21, il_22, il_23, il_24, il_26, il_27, il_28, il_30, il_32, il_34, il_36, il_38, il_40, il_43, il_44, il_46, il_47, il_48, il_49, il_50, il_51, il_60, il_64, il_100, il_108, il_111, il_127, il_971, il_972, il_999, il_1000, il_1024, il_1087, il_2500, il_5000, il_9999, il_60000, il_2147483647, nI_add, nI_mulI, nI_subI, nI_divI, nI_cl, nI_leJ, nI_ltJ, nI_eqJ, nI_neM, nI_neM']
  refine C_try_L3 (A := A) hS hDn hl hr (fun d1 w1 F1 => ?_) l.length 0 aw_FU d0 (by omega) (by show _ < 5000; omega) (fun p hp => by omega) Fr.rf
  exact C_try_L29 hS hDn (Fr.G hG0 F1 (by omega)) hu hm1 hk1 hl hr hcap (fun j hj => by rw [(F1 r (by omega)).1]; exact hrow j hj) b1 (fun d2 w2 F2 => ok_some ⟨w2, (F1.mono (by omega) (by omega)).tr F2⟩) 972 0 aw_FU d1 (by omega) (by show _ < 5000; omega) w1 Fr.rf
