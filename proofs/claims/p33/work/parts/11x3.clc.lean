theorem il_31 : (31 : Int32) = nI 31 := of_eq_true (eq_true rfl)
/-! the class: the least cost -/
theorem sub_bit {s k j : Nat} (h : s.testBit k = true) : (s - 2 ^ k).testBit j = (s.testBit j && decide (j ≠ k)) := by
  have hk : 0 < 2 ^ k := Nat.pow_pos (by omega)
  have hb : s / 2 ^ k % 2 = 1 := by
    have := Nat.testBit_eq_decide_div_mod_eq (x := s) (i := k)
    rw [h] at this; simpa using this.symm
  have hr : s % 2 ^ k < 2 ^ k := Nat.mod_lt _ hk
  have hs : s = 2 ^ k * (2 * (s / 2 ^ k / 2) + 1) + s % 2 ^ k := by
    have h1 := (Nat.div_add_mod s (2 ^ k)).symm
    have h2 : s / 2 ^ k = 2 * (s / 2 ^ k / 2) + 1 := by omega
    rw [← h2]; exact h1
  have hs2 : s - 2 ^ k = 2 ^ k * (2 * (s / 2 ^ k / 2)) + s % 2 ^ k := by
    have h3 : 2 ^ k * (2 * (s / 2 ^ k / 2) + 1) = 2 ^ k * (2 * (s / 2 ^ k / 2)) + 2 ^ k := by rw [Nat.mul_add, Nat.mul_one]
    omega
  rw [hs2]
  conv => rhs; rw [hs]
  rw [Nat.testBit_two_pow_mul_add _ hr, Nat.testBit_two_pow_mul_add _ hr]
  by_cases e : j < k
  · rw [if_pos e, if_pos e, decide_eq_true (by omega), Bool.and_true]
  · rw [if_neg e, if_neg e]
    by_cases e2 : j = k
    · subst e2
      rw [Nat.sub_self, decide_eq_false (fun h => h rfl), Bool.and_false]
      simp
    · rw [decide_eq_true e2, Bool.and_true]
      obtain ⟨m, hm⟩ : ∃ m, j - k = m + 1 := ⟨j - k - 1, by omega⟩
      rw [hm, Nat.testBit_add_one, Nat.testBit_add_one]
      congr 1; omega
theorem mS_bit {u : Nat → Nat} {s i : Nat} : ∀ n, (mS u n s).testBit i = true ↔ ∃ k, k < n ∧ s.testBit k = true ∧ u k = i := by
  intro n
  induction n with
  | zero => simp [mS, foldR]
  | succ n ih =>
    show (if s.testBit n = true then mS u n s ||| 2 ^ u n else mS u n s).testBit i = true ↔ _
    by_cases e : s.testBit n = true
    · rw [if_pos e, Nat.testBit_or, Nat.testBit_two_pow, Bool.or_eq_true, decide_eq_true_iff, ih]
      constructor
      · rintro (⟨k, h1, h2, h3⟩ | h)
        · exact ⟨k, by omega, h2, h3⟩
        · exact ⟨n, by omega, e, h⟩
      · rintro ⟨k, h1, h2, h3⟩
        by_cases e2 : k = n
        · subst e2; exact Or.inr h3
        · exact Or.inl ⟨k, by omega, h2, h3⟩
    · rw [if_neg e, ih]
      constructor
      · rintro ⟨k, h1, h2, h3⟩; exact ⟨k, by omega, h2, h3⟩
      · rintro ⟨k, h1, h2, h3⟩
        have : k ≠ n := fun h => e (h ▸ h2)
        exact ⟨k, by omega, h2, h3⟩
theorem mS_sub {u : Nat → Nat} {n s k : Nat} (hk : k < n) (hb : s.testBit k = true) (hi : ∀ i j, i < n → j < n → u i = u j → i = j) : mS u n (s - 2 ^ k) = del (mS u n s) (u k) := by
  apply Nat.eq_of_testBit_eq
  intro i
  rw [del_bit]
  have h1 := mS_bit (u := u) (s := s - 2 ^ k) (i := i) n
  have h2 := mS_bit (u := u) (s := s) (i := i) n
  have h3 : (mS u n (s - 2 ^ k)).testBit i = true ↔ ((mS u n s).testBit i && decide (i ≠ u k)) = true := by
    rw [h1, Bool.and_eq_true, h2, decide_eq_true_iff]
    constructor
    · rintro ⟨j, j1, j2, j3⟩
      rw [sub_bit hb, Bool.and_eq_true, decide_eq_true_iff] at j2
      exact ⟨⟨j, j1, j2.1, j3⟩, fun h => j2.2 (hi j k j1 hk (j3.trans h))⟩
    · rintro ⟨⟨j, j1, j2, j3⟩, h⟩
      refine ⟨j, j1, ?_, j3⟩
      rw [sub_bit hb, j2, Bool.true_and, decide_eq_true_iff]
      exact fun e => h (by rw [← j3, e])
  cases e1 : (mS u n (s - 2 ^ k)).testBit i <;> cases e2 : ((mS u n s).testBit i && decide (i ≠ u k))
  · rfl
  · rw [e1, e2] at h3; exact absurd (h3.mpr rfl) (by simp)
  · rw [e1, e2] at h3; exact absurd (h3.mp rfl) (by simp)
  · rfl
theorem nS_sub {n s k : Nat} (hk : k < n) (hb : s.testBit k = true) : nS n (s - 2 ^ k) + 1 = nS n s := by
  have key : ∀ m, sumR (fun j => if s.testBit j = true then 1 else 0) m = sumR (fun j => if (s - 2 ^ k).testBit j = true then 1 else 0) m + if k < m then 1 else 0 := by
    intro m
    induction m with
    | zero => rfl
    | succ m ih =>
      simp only [sumR]
      rw [ih, sub_bit hb]
      by_cases e : m = k
      · subst e
        rw [hb, if_neg (Nat.lt_irrefl _), if_pos rfl, if_neg (by simp), if_pos (Nat.lt_succ_self _)]
      · rw [decide_eq_true e, Bool.and_true]
        by_cases e2 : k < m
        · rw [if_pos e2, if_pos (show k < m + 1 by omega)]; omega
        · rw [if_neg e2, if_neg (show ¬ k < m + 1 by omega)]; omega
  have := key n
  rw [if_pos hk] at this
  exact this.symm
theorem lcT_st {A : St} {D : Nat} {u : Nat → Nat} {n : Nat} : ∀ s x, x < s → lcT A D u n s x = lcV A D u n (lcT A D u n x) x := by
  intro s
  induction s with
  | zero => intro x h; omega
  | succ s ih =>
    intro x hx
    show (if x = s then lcV A D u n (lcT A D u n s) s else lcT A D u n s x) = _
    by_cases e : x = s
    · subst e; rw [if_pos rfl]
    · rw [if_neg e]; exact ih x (by omega)
/-- what lies in the class's row -/
def lcC (A : St) (D : Nat) (u : Nat → Nat) (n s : Nat) : Nat := lcV A D u n (lcT A D u n s) s + (nS n s + 1) * (rdW A D (allS A D) - rdW A D (mS u n s))
theorem rd_0 {A : St} (hW : WF A) (D : Nat) : rdW A D 0 = 0 := by
  unfold rdW
  exact sum_head (fun w hw => by
    rw [if_neg]
    intro h
    have h1 : (hasW A D w).testBit ((own A D w).getD 0 0) = true := hasW_bit.mpr ⟨0, (own_len hW D hw).1, rfl⟩
    have h2 := sub_iff.mp h _ h1
    simp at h2)
theorem mS_z (u : Nat → Nat) : ∀ n, mS u n 0 = 0 := by
  intro n
  induction n with
  | zero => rfl
  | succ n ih => show (if (0 : Nat).testBit n = true then mS u n 0 ||| 2 ^ u n else mS u n 0) = 0; rw [if_neg (by simp), ih]
theorem lcC_0 {A : St} (hW : WF A) (D : Nat) (u : Nat → Nat) (n : Nat) : lcC A D u n 0 = rdW A D (allS A D) := by
  have h1 : ∀ i, foldR (lcI A D u n (lcT A D u n 0) 0) 1 i = 1 := by
    intro i
    induction i with
    | zero => rfl
    | succ i ih => show lcI A D u n (lcT A D u n 0) 0 (foldR (lcI A D u n (lcT A D u n 0) 0) 1 i) i = 1; rw [ih, lcI, if_neg (by simp)]
  have h2 : nS n 0 = 0 := sum_head (fun k _ => by rw [if_neg (by simp)])
  unfold lcC lcV
  rw [if_pos rfl, h1, h2, mS_z, rd_0 hW]; omega
/-- the minimum so far -/
def mnI (acc x : Nat) : Int32 := if acc = 0 then NO else nI (acc - 1 + x)
theorem x10 {k s : Nat} (hk : k < 10) (hs : s < 1024) (h : s.testBit k = true) : nI s ^^^ (nI 1 <<< (nI k &&& nI 31)) = nI (s - 2 ^ k) := (by decide +kernel : ∀ k, k < 10 → ∀ s, s < 1024 → s.testBit k = true → nI s ^^^ (nI 1 <<< (nI k &&& nI 31)) = nI (s - 2 ^ k)) k hk s hs h

theorem C_lo_L36 {A : St} {σ : Sg} {d : Dt} {D : Nat} (hS : Lay σ) (hW : WF A) (hD : D < A 11 0 0) {n s : Nat} {u : Nat → Nat} (hn : n ≤ 10) (hs : s < 2 ^ n) (hs0 : s ≠ 0) (hu : ∀ k, u k < 50) (hin : ∀ i j, i < n → j < n → u i = u j → i = j) (hq : ∀ k, k < n → d.1 181 k = nI (u k)) (hall : ∀ k, k < n → (allS A D).testBit (u k) = true) {x2 : Int32} (hl : ∀ x, x < s → d.1 180 x = nI (lcC A D u n x)) {k : Int32 → Dt → Option (Int32 × Dt)} : ∀ (m i f : Nat), i + m = n → m < f → f_X4_leastOfOrders_L36 σ f k 176 (nI n) x2 (nI s) (mnI (foldR (lcI A D u n (lcT A D u n s) s) 0 i) (nS n s * (rdW A D (allS A D) - rdW A D (mS u n s)))) (nI i) d = k (mnI (foldR (lcI A D u n (lcT A D u n s) s) 0 n) (nS n s * (rdW A D (allS A D) - rdW A D (mS u n s)))) d := by
  intro m
  induction m with
  | zero =>
    intro i f hi hf
    cases f with
    | zero => omega
    | succ f =>
      have hiN : i = n := by omega
      have hp10 := pw10 hn
      show f_X4_leastOfOrders_B36 σ (f_X4_leastOfOrders_L36 σ f k 176 (nI n) x2 (nI s)) k 176 (nI n) x2 (nI s) (mnI (foldR (lcI A D u n (lcT A D u n s) s) 0 i) (nS n s * (rdW A D (allS A D) - rdW A D (mS u n s)))) (nI i) d = _
      simp (disch := first | assumption | omega) only [f_X4_leastOfOrders_B36, lo_0 hS, lo_1 hS, lo_33 hS, lo_34 hS, lo_89 hS, lo_100 hS, lo_123 hS, lo_146 hS, lo_148 hS, lo_176 hS, lo_182 hS, lo_D hS, lo_G hS, lr_37 hS, lr_93 hS, lr_101 hS, lr_124 hS, lr_152 hS, lr_169 hS, lr_0_0 hS, lr_0_1 hS, lr_0_2 hS, lr_0_3 hS, lr_0_5 hS, lr_0_6 hS, lr_0_7 hS, lr_0_8 hS, lr_0_9 hS, lr_0_10 hS, lr_0_11 hS, lr_0_12 hS, lr_1_0 hS, lr_1_2 hS, lr_33_0 hS, lr_33_1 hS, lr_33_2 hS, lr_33_3 hS, lr_34_0 hS, lr_89_0 hS, lr_89_1 hS, lr_89_2 hS, lr_89_3 hS, lr_89_4 hS, lr_89_5 hS, lr_100_0 hS, lr_100_1 hS, lr_123_0 hS, lr_123_1 hS, lr_146_0 hS, lr_148_0 hS, lr_148_1 hS, lr_148_2 hS, lr_148_3 hS, lr_148_4 hS, lr_148_5 hS, lr_176_0 hS, lr_176_1 hS, lr_176_4 hS, lr_176_6 hS, lr_176_7 hS, lr_182_0 hS, lr_D_0 hS, lr_D_1 hS, lr_D_2 hS, lr_D_3 hS, lr_D_5 hS, lr_D_6 hS, lr_D_r hS, lr_31 hS, lr_32 hS, lr_G_2 hS, lr_G_3 hS, lr_G_4 hS, li_2 hS, li_3 hS, li_31 hS, li_32 hS, li_35 hS, li_36 hS, li_37 hS, li_88 hS, li_90 hS, li_91 hS, li_92 hS, li_93 hS, li_98 hS, li_99 hS, li_101 hS, li_122 hS, li_124 hS, li_145 hS, li_147 hS, li_149 hS, li_150 hS, li_151 hS, li_152 hS, li_169 hS, li_175 hS, li_177 hS, li_178 hS, li_179 hS, li_180 hS, li_181 hS, li_183 hS, li_265 hS, li_266 hS, li_267 hS, li_268 hS, li_269 hS, li_270 hS, li_271 hS, li_272 hS, li_273 hS, li_274 hS, li_275 hS, li_276 hS, li_38 hS, li_94 hS, li_102 hS, li_125 hS, li_153 hS, li_170 hS, li_D_1 hS, li_D_2 hS, li_D_3 hS, li_D_4 hS, li_D_5 hS, li_D_26 hS, li_D_r hS, li_G_1 hS, li_G_2 hS, li_G_3 hS, li_rA hS, li_rK hS, li_rX hS, il_0, il_1, il_2, il_3, il_4, il_5, il_6, il_7, il_8, il_9, il_10, il_11, il_12, il_13, il_15, il_16, il_17, il_18, il_19, il_20, il_21, il_22, il_23, il_24, il_26, il_27, il_28, il_30, il_32, il_34, il_36, il_38, il_40, il_43, il_44, il_46, il_47, il_48, il_49, il_50, il_51, il_60, il_64, il_100, il_108, il_111, il_127, il_971, il_972, il_999, il_1000, il_1024, il_1087, il_2500, il_5000, il_9999, il_60000, il_2147483647, nI_add, nI_mulI, nI_subI, nI_divI, nI_cl, nI_leJ, nI_ltJ, nI_eqJ, nI_neM, nI_neM', il_31, aw_sI_e, aw_sI_n, aw_sI_2, aw_sL_e, aw_sL_n, aw_sL_1, Option.bind_some, aw_chkT, ck_and0, ck_and1, bI_t, bI_f, nar_0, nar_1]
      rw [if_pos (by omega)]
      rw [hiN]
      try rfl
  | succ m ih =>
    intro i f hi hf
    cases f with
    | zero => omega
    | succ f =>
      have hlt : i < n := by omega
      have hp10 := pw10 hn
      show f_X4_leastOfOrders_B36 σ (f_X4_leastOfOrders_L36 σ f k 176 (nI n) x2 (nI s)) k 176 (nI n) x2 (nI s) (mnI (foldR (lcI A D u n (lcT A D u n s) s) 0 i) (nS n s * (rdW A D (allS A D) - rdW A D (mS u n s)))) (nI i) d = _
      simp (disch := first | assumption | omega) only [f_X4_leastOfOrders_B36, lo_0 hS, lo_1 hS, lo_33 hS, lo_34 hS, lo_89 hS, lo_100 hS, lo_123 hS, lo_146 hS, lo_148 hS, lo_176 hS, lo_182 hS, lo_D hS, lo_G hS, lr_37 hS, lr_93 hS, lr_101 hS, lr_124 hS, lr_152 hS, lr_169 hS, lr_0_0 hS, lr_0_1 hS, lr_0_2 hS, lr_0_3 hS, lr_0_5 hS, lr_0_6 hS, lr_0_7 hS, lr_0_8 hS, lr_0_9 hS, lr_0_10 hS, lr_0_11 hS, lr_0_12 hS, lr_1_0 hS, lr_1_2 hS, lr_33_0 hS, lr_33_1 hS, lr_33_2 hS, lr_33_3 hS, lr_34_0 hS, lr_89_0 hS, lr_89_1 hS, lr_89_2 hS, lr_89_3 hS, lr_89_4 hS, lr_89_5 hS, lr_100_0 hS, lr_100_1 hS, lr_123_0 hS, lr_123_1 hS, lr_146_0 hS, lr_148_0 hS, lr_148_1 hS, lr_148_2 hS, lr_148_3 hS, lr_148_4 hS, lr_148_5 hS, lr_176_0 hS, lr_176_1 hS, lr_176_4 hS, lr_176_6 hS, lr_176_7 hS, lr_182_0 hS, lr_D_0 hS, lr_D_1 hS, lr_D_2 hS, lr_D_3 hS, lr_D_5 hS, lr_D_6 hS, lr_D_r hS, lr_31 hS, lr_32 hS, lr_G_2 hS, lr_G_3 hS, lr_G_4 hS, li_2 hS, li_3 hS, li_31 hS, li_32 hS, li_35 hS, li_36 hS, li_37 hS, li_88 hS, li_90 hS, li_91 hS, li_92 hS, li_93 hS, li_98 hS, li_99 hS, li_101 hS, li_122 hS, li_124 hS, li_145 hS, li_147 hS, li_149 hS, li_150 hS, li_151 hS, li_152 hS, li_169 hS, li_175 hS, li_177 hS, li_178 hS, li_179 hS, li_180 hS, li_181 hS, li_183 hS, li_265 hS, li_266 hS, li_267 hS, li_268 hS, li_269 hS, li_270 hS, li_271 hS, li_272 hS, li_273 hS, li_274 hS, li_275 hS, li_276 hS, li_38 hS, li_94 hS, li_102 hS, li_125 hS, li_153 hS, li_170 hS, li_D_1 hS, li_D_2 hS, li_D_3 hS, li_D_4 hS, li_D_5 hS, li_D_26 hS, li_D_r hS, li_G_1 hS, li_G_2 hS, li_G_3 hS, li_rA hS, li_rK hS, li_rX hS, il_0, il_1, il_2, il_3, il_4, il_5, il_6, il_7, il_8, il_9, il_10, il_11, il_12, il_13, il_15, il_16, il_17, il_18, il_19, il_20, il_21, il_22, il_23, il_24, il_26, il_27, il_28, il_30, il_32, il_34, il_36, il_38, il_40, il_43, il_44, il_46, il_47, il_48, il_49, il_50, il_51, il_60, il_64, il_100, il_108, il_111, il_127, il_971, il_972, il_999, il_1000, il_1024, il_1087, il_2500, il_5000, il_9999, il_60000, il_2147483647, nI_add, nI_mulI, nI_subI, nI_divI, nI_cl, nI_leJ, nI_ltJ, nI_eqJ, nI_neM, nI_neM', il_31, aw_sI_e, aw_sI_n, aw_sI_2, aw_sL_e, aw_sL_n, aw_sL_1, Option.bind_some, aw_chkT, ck_and0, ck_and1, bI_t, bI_f, nar_0, nar_1]
      rw [if_neg (by omega)]
      have hb := b10 (k := i) (s := s) (by omega) (by omega)
      have hacc := lcI_le (u := u) (t := lcT A D u n s) (z := 0) (c := 199801 * s) (s := s) hW (D := D) hn (by omega) (fun k hk => by
        have hge := bit_ge hk
        have hp : 0 < 2 ^ k := Nat.pow_pos (by omega)
        have := lcT_le (u := u) hW (D := D) hn s (s - 2 ^ k) (by omega)
        omega) i
      have hxb : nS n s * (rdW A D (allS A D) - rdW A D (mS u n s)) ≤ 10 * 19980 := Nat.mul_le_mul (by have := nS_le n s; omega) (by have := rdW_le hW D (allS A D); omega)
      rw [← ih (i + 1) f (by omega) (by omega)]
      have es : foldR (lcI A D u n (lcT A D u n s) s) 0 (i + 1) = lcI A D u n (lcT A D u n s) s (foldR (lcI A D u n (lcT A D u n s) s) 0 i) i := rfl
      rw [es]
      generalize (foldR (lcI A D u n (lcT A D u n s) s) 0 i) = acc at *
      by_cases e : s.testBit i = true
      · have hge := bit_ge e
        have hp : 0 < 2 ^ i := Nat.pow_pos (by omega)
        have hx := x10 (k := i) (s := s) (by omega) (by omega) e
        have q1 := hl (s - 2 ^ i) (by omega)
        have hr1 := rdW_del A D (mS u n s) (u i)
        have hr2 : rdW A D (mS u n s) ≤ rdW A D (allS A D) := rdW_mono (fun x hx => by
          obtain ⟨k, k1, k2, k3⟩ := (mS_bit n).mp hx
          rw [← k3]; exact hall k k1)
        have hC : lcC A D u n (s - 2 ^ i) = lcX A D u n (lcT A D u n s) s i + nS n s * (rdW A D (allS A D) - rdW A D (mS u n s)) := by
          unfold lcC lcX
          rw [nS_sub hlt e, mS_sub hlt e hin, lcT_st s (s - 2 ^ i) (by omega), Nat.add_assoc, ← Nat.mul_add]
          congr 2; omega
        have hxl := lcX_le (u := u) (k := i) (s := s) (t := lcT A D u n s) hW (D := D) hn (lcT_le (u := u) hW (D := D) hn s (s - 2 ^ i) (by omega))
        simp (disch := first | assumption | omega) only [f_X4_leastOfOrders_J82, f_X4_leastOfOrders_J84, hb, e, if_true, Nat.one_ne_zero, if_false, hx, q1, hC, nno, lo_0 hS, lo_1 hS, lo_33 hS, lo_34 hS, lo_89 hS, lo_100 hS, lo_123 hS, lo_146 hS, lo_148 hS, lo_176 hS, lo_182 hS, lo_D hS, lo_G hS, lr_37 hS, lr_93 hS, lr_101 hS, lr_124 hS, lr_152 hS, lr_169 hS, lr_0_0 hS, lr_0_1 hS, lr_0_2 hS, lr_0_3 hS, lr_0_5 hS, lr_0_6 hS, lr_0_7 hS, lr_0_8 hS, lr_0_9 hS, lr_0_10 hS, lr_0_11 hS, lr_0_12 hS, lr_1_0 hS, lr_1_2 hS, lr_33_0 hS, lr_33_1 hS, lr_33_2 hS, lr_33_3 hS, lr_34_0 hS, lr_89_0 hS, lr_89_1 hS, lr_89_2 hS, lr_89_3 hS, lr_89_4 hS, lr_89_5 hS, lr_100_0 hS, lr_100_1 hS, lr_123_0 hS, lr_123_1 hS, lr_146_0 hS, lr_148_0 hS, lr_148_1 hS, lr_148_2 hS, lr_148_3 hS, lr_148_4 hS, lr_148_5 hS, lr_176_0 hS, lr_176_1 hS, lr_176_4 hS, lr_176_6 hS, lr_176_7 hS, lr_182_0 hS, lr_D_0 hS, lr_D_1 hS, lr_D_2 hS, lr_D_3 hS, lr_D_5 hS, lr_D_6 hS, lr_D_r hS, lr_31 hS, lr_32 hS, lr_G_2 hS, lr_G_3 hS, lr_G_4 hS, li_2 hS, li_3 hS, li_31 hS, li_32 hS, li_35 hS, li_36 hS, li_37 hS, li_88 hS, li_90 hS, li_91 hS, li_92 hS, li_93 hS, li_98 hS, li_99 hS, li_101 hS, li_122 hS, li_124 hS, li_145 hS, li_147 hS, li_149 hS, li_150 hS, li_151 hS, li_152 hS, li_169 hS, li_175 hS, li_177 hS, li_178 hS, li_179 hS, li_180 hS, li_181 hS, li_183 hS, li_265 hS, li_266 hS, li_267 hS, li_268 hS, li_269 hS, li_270 hS, li_271 hS, li_272 hS, li_273 hS, li_274 hS, li_275 hS, li_276 hS, li_38 hS, li_94 hS, li_102 hS, li_125 hS, li_153 hS, li_170 hS, li_D_1 hS, li_D_2 hS, li_D_3 hS, li_D_4 hS, li_D_5 hS, li_D_26 hS, li_D_r hS, li_G_1 hS, li_G_2 hS, li_G_3 hS, li_rA hS, li_rK hS, li_rX hS, il_0, il_1, il_2, il_3, il_4, il_5, il_6, il_7, il_8, il_9, il_10, il_11, il_12, il_13, il_15, il_16, il_17, il_18, il_19, il_20, il_21, il_22, il_23, il_24, il_26, il_27, il_28, il_30, il_32, il_34, il_36, il_38, il_40, il_43, il_44, il_46, il_47, il_48, il_49, il_50, il_51, il_60, il_64, il_100, il_108, il_111, il_127, il_971, il_972, il_999, il_1000, il_1024, il_1087, il_2500, il_5000, il_9999, il_60000, il_2147483647, nI_add, nI_mulI, nI_subI, nI_divI, nI_cl, nI_leJ, nI_ltJ, nI_eqJ, nI_neM, nI_neM', il_31, aw_sI_e, aw_sI_n, aw_sI_2, aw_sL_e, aw_sL_n, aw_sL_1, Option.bind_some, aw_chkT, ck_and0, ck_and1, bI_t, bI_f, nar_0, nar_1]
        generalize hXX : lcX A D u n (lcT A D u n s) s i = XX at *
        generalize nS n s * (rdW A D (allS A D) - rdW A D (mS u n s)) = cc at *
        by_cases e0 : acc = 0
        · have el : lcI A D u n (lcT A D u n s) s acc i = XX + 1 := by rw [lcI, if_pos e, if_pos e0, hXX]
          have m1 : mnI acc cc = NO := if_pos e0
          have m2 : mnI (XX + 1) cc = nI (XX + cc) := by unfold mnI; rw [if_neg (by omega), Nat.add_sub_cancel]
          rw [el, m1, m2, if_pos rfl]
        · have el : lcI A D u n (lcT A D u n s) s acc i = min acc (XX + 1) := by rw [lcI, if_pos e, if_neg e0, hXX]
          have m1 : mnI acc cc = nI (acc - 1 + cc) := if_neg e0
          have m2 : mnI (min acc (XX + 1)) cc = nI (min acc (XX + 1) - 1 + cc) := if_neg (by omega)
          rw [el, m1, m2]
          simp (disch := first | assumption | omega) only [NO_n, nI_ltJ, if_false]
          by_cases e4 : XX + cc < acc - 1 + cc
          · rw [if_pos e4, show min acc (XX + 1) - 1 + cc = XX + cc by omega]
          · rw [if_neg e4, show min acc (XX + 1) - 1 + cc = acc - 1 + cc by omega]
      · simp (disch := first | assumption | omega) only [f_X4_leastOfOrders_J84, hb, e, Bool.false_eq_true, if_false, if_true, lo_0 hS, lo_1 hS, lo_33 hS, lo_34 hS, lo_89 hS, lo_100 hS, lo_123 hS, lo_146 hS, lo_148 hS, lo_176 hS, lo_182 hS, lo_D hS, lo_G hS, lr_37 hS, lr_93 hS, lr_101 hS, lr_124 hS, lr_152 hS, lr_169 hS, lr_0_0 hS, lr_0_1 hS, lr_0_2 hS, lr_0_3 hS, lr_0_5 hS, lr_0_6 hS, lr_0_7 hS, lr_0_8 hS, lr_0_9 hS, lr_0_10 hS, lr_0_11 hS, lr_0_12 hS, lr_1_0 hS, lr_1_2 hS, lr_33_0 hS, lr_33_1 hS, lr_33_2 hS, lr_33_3 hS, lr_34_0 hS, lr_89_0 hS, lr_89_1 hS, lr_89_2 hS, lr_89_3 hS, lr_89_4 hS, lr_89_5 hS, lr_100_0 hS, lr_100_1 hS, lr_123_0 hS, lr_123_1 hS, lr_146_0 hS, lr_148_0 hS, lr_148_1 hS, lr_148_2 hS, lr_148_3 hS, lr_148_4 hS, lr_148_5 hS, lr_176_0 hS, lr_176_1 hS, lr_176_4 hS, lr_176_6 hS, lr_176_7 hS, lr_182_0 hS, lr_D_0 hS, lr_D_1 hS, lr_D_2 hS, lr_D_3 hS, lr_D_5 hS, lr_D_6 hS, lr_D_r hS, lr_31 hS, lr_32 hS, lr_G_2 hS, lr_G_3 hS, lr_G_4 hS, li_2 hS, li_3 hS, li_31 hS, li_32 hS, li_35 hS, li_36 hS, li_37 hS, li_88 hS, li_90 hS, li_91 hS, li_92 hS, li_93 hS, li_98 hS, li_99 hS, li_101 hS, li_122 hS, li_124 hS, li_145 hS, li_147 hS, li_149 hS, li_150 hS, li_151 hS, li_152 hS, li_169 hS, li_175 hS, li_177 hS, li_178 hS, li_179 hS, li_180 hS, li_181 hS, li_183 hS, li_265 hS, li_266 hS, li_267 hS, li_268 hS, li_269 hS, li_270 hS, li_271 hS, li_272 hS, li_273 hS, li_274 hS, li_275 hS, li_276 hS, li_38 hS, li_94 hS, li_102 hS, li_125 hS, li_153 hS, li_170 hS, li_D_1 hS, li_D_2 hS, li_D_3 hS, li_D_4 hS, li_D_5 hS, li_D_26 hS, li_D_r hS, li_G_1 hS, li_G_2 hS, li_G_3 hS, li_rA hS, li_rK hS, li_rX hS, il_0, il_1, il_2, il_3, il_4, il_5, il_6, il_7, il_8, il_9, il_10, il_11, il_12, il_13, il_15, il_16, il_17, il_18, il_19, il_20, il_21, il_22, il_23, il_24, il_26, il_27, il_28, il_30, il_32, il_34, il_36, il_38, il_40, il_43, il_44, il_46, il_47, il_48, il_49, il_50, il_51, il_60, il_64, il_100, il_108, il_111, il_127, il_971, il_972, il_999, il_1000, il_1024, il_1087, il_2500, il_5000, il_9999, il_60000, il_2147483647, nI_add, nI_mulI, nI_subI, nI_divI, nI_cl, nI_leJ, nI_ltJ, nI_eqJ, nI_neM, nI_neM', il_31, aw_sI_e, aw_sI_n, aw_sI_2, aw_sL_e, aw_sL_n, aw_sL_1, Option.bind_some, aw_chkT, ck_and0, ck_and1, bI_t, bI_f, nar_0, nar_1]
        rw [lcI, if_neg e]

theorem C_si_L5 {A : St} {σ : Sg} {d : Dt} (hS : Lay σ) {n s : Nat} {u : Nat → Nat} (hn : n ≤ 10) (hs : s < 1024) (hu : ∀ k, u k < 50) (hq : ∀ k, k < n → d.1 181 k = nI (u k)) {k : Int64 → Dt → Option (Int64 × Dt)} : ∀ (m i f : Nat), i + m = n → m < f → f_X4_signsIn_L5 σ f k 176 (nI s) (nI n) (nL (mS u i s)) (nI i) d = k (nL (mS u n s)) d := by
  intro m
  induction m with
  | zero =>
    intro i f hi hf
    cases f with
    | zero => omega
    | succ f =>
      have hiN : i = n := by omega
      show f_X4_signsIn_B5 σ (f_X4_signsIn_L5 σ f k 176 (nI s) (nI n)) k 176 (nI s) (nI n) (nL (mS u i s)) (nI i) d = _
      simp (disch := first | assumption | omega) only [f_X4_signsIn_B5, lo_0 hS, lo_1 hS, lo_33 hS, lo_34 hS, lo_89 hS, lo_100 hS, lo_123 hS, lo_146 hS, lo_148 hS, lo_176 hS, lo_182 hS, lo_D hS, lo_G hS, lr_37 hS, lr_93 hS, lr_101 hS, lr_124 hS, lr_152 hS, lr_169 hS, lr_0_0 hS, lr_0_1 hS, lr_0_2 hS, lr_0_3 hS, lr_0_5 hS, lr_0_6 hS, lr_0_7 hS, lr_0_8 hS, lr_0_9 hS, lr_0_10 hS, lr_0_11 hS, lr_0_12 hS, lr_1_0 hS, lr_1_2 hS, lr_33_0 hS, lr_33_1 hS, lr_33_2 hS, lr_33_3 hS, lr_34_0 hS, lr_89_0 hS, lr_89_1 hS, lr_89_2 hS, lr_89_3 hS, lr_89_4 hS, lr_89_5 hS, lr_100_0 hS, lr_100_1 hS, lr_123_0 hS, lr_123_1 hS, lr_146_0 hS, lr_148_0 hS, lr_148_1 hS, lr_148_2 hS, lr_148_3 hS, lr_148_4 hS, lr_148_5 hS, lr_176_0 hS, lr_176_1 hS, lr_176_4 hS, lr_176_6 hS, lr_176_7 hS, lr_182_0 hS, lr_D_0 hS, lr_D_1 hS, lr_D_2 hS, lr_D_3 hS, lr_D_5 hS, lr_D_6 hS, lr_D_r hS, lr_31 hS, lr_32 hS, lr_G_2 hS, lr_G_3 hS, lr_G_4 hS, li_2 hS, li_3 hS, li_31 hS, li_32 hS, li_35 hS, li_36 hS, li_37 hS, li_88 hS, li_90 hS, li_91 hS, li_92 hS, li_93 hS, li_98 hS, li_99 hS, li_101 hS, li_122 hS, li_124 hS, li_145 hS, li_147 hS, li_149 hS, li_150 hS, li_151 hS, li_152 hS, li_169 hS, li_175 hS, li_177 hS, li_178 hS, li_179 hS, li_180 hS, li_181 hS, li_183 hS, li_265 hS, li_266 hS, li_267 hS, li_268 hS, li_269 hS, li_270 hS, li_271 hS, li_272 hS, li_273 hS, li_274 hS, li_275 hS, li_276 hS, li_38 hS, li_94 hS, li_102 hS, li_125 hS, li_153 hS, li_170 hS, li_D_1 hS, li_D_2 hS, li_D_3 hS, li_D_4 hS, li_D_5 hS, li_D_26 hS, li_D_r hS, li_G_1 hS, li_G_2 hS, li_G_3 hS, li_rA hS, li_rK hS, li_rX hS, il_0, il_1, il_2, il_3, il_4, il_5, il_6, il_7, il_8, il_9, il_10, il_11, il_12, il_13, il_15, il_16, il_17, il_18, il_19, il_20, il_21, il_22, il_23, il_24, il_26, il_27, il_28, il_30, il_32, il_34, il_36, il_38, il_40, il_43, il_44, il_46, il_47, il_48, il_49, il_50, il_51, il_60, il_64, il_100, il_108, il_111, il_127, il_971, il_972, il_999, il_1000, il_1024, il_1087, il_2500, il_5000, il_9999, il_60000, il_2147483647, nI_add, nI_mulI, nI_subI, nI_divI, nI_cl, nI_leJ, nI_ltJ, nI_eqJ, nI_neM, nI_neM', il_31, aw_sI_e, aw_sI_n, aw_sI_2, aw_sL_e, aw_sL_n, aw_sL_1, Option.bind_some, aw_chkT, ck_and0, ck_and1, bI_t, bI_f, nar_0, nar_1]
      rw [if_pos (by omega)]
      rw [hiN]
      try rfl
  | succ m ih =>
    intro i f hi hf
    cases f with
    | zero => omega
    | succ f =>
      have hlt : i < n := by omega
      show f_X4_signsIn_B5 σ (f_X4_signsIn_L5 σ f k 176 (nI s) (nI n)) k 176 (nI s) (nI n) (nL (mS u i s)) (nI i) d = _
      simp (disch := first | assumption | omega) only [f_X4_signsIn_B5, lo_0 hS, lo_1 hS, lo_33 hS, lo_34 hS, lo_89 hS, lo_100 hS, lo_123 hS, lo_146 hS, lo_148 hS, lo_176 hS, lo_182 hS, lo_D hS, lo_G hS, lr_37 hS, lr_93 hS, lr_101 hS, lr_124 hS, lr_152 hS, lr_169 hS, lr_0_0 hS, lr_0_1 hS, lr_0_2 hS, lr_0_3 hS, lr_0_5 hS, lr_0_6 hS, lr_0_7 hS, lr_0_8 hS, lr_0_9 hS, lr_0_10 hS, lr_0_11 hS, lr_0_12 hS, lr_1_0 hS, lr_1_2 hS, lr_33_0 hS, lr_33_1 hS, lr_33_2 hS, lr_33_3 hS, lr_34_0 hS, lr_89_0 hS, lr_89_1 hS, lr_89_2 hS, lr_89_3 hS, lr_89_4 hS, lr_89_5 hS, lr_100_0 hS, lr_100_1 hS, lr_123_0 hS, lr_123_1 hS, lr_146_0 hS, lr_148_0 hS, lr_148_1 hS, lr_148_2 hS, lr_148_3 hS, lr_148_4 hS, lr_148_5 hS, lr_176_0 hS, lr_176_1 hS, lr_176_4 hS, lr_176_6 hS, lr_176_7 hS, lr_182_0 hS, lr_D_0 hS, lr_D_1 hS, lr_D_2 hS, lr_D_3 hS, lr_D_5 hS, lr_D_6 hS, lr_D_r hS, lr_31 hS, lr_32 hS, lr_G_2 hS, lr_G_3 hS, lr_G_4 hS, li_2 hS, li_3 hS, li_31 hS, li_32 hS, li_35 hS, li_36 hS, li_37 hS, li_88 hS, li_90 hS, li_91 hS, li_92 hS, li_93 hS, li_98 hS, li_99 hS, li_101 hS, li_122 hS, li_124 hS, li_145 hS, li_147 hS, li_149 hS, li_150 hS, li_151 hS, li_152 hS, li_169 hS, li_175 hS, li_177 hS, li_178 hS, li_179 hS, li_180 hS, li_181 hS, li_183 hS, li_265 hS, li_266 hS, li_267 hS, li_268 hS, li_269 hS, li_270 hS, li_271 hS, li_272 hS, li_273 hS, li_274 hS, li_275 hS, li_276 hS, li_38 hS, li_94 hS, li_102 hS, li_125 hS, li_153 hS, li_170 hS, li_D_1 hS, li_D_2 hS, li_D_3 hS, li_D_4 hS, li_D_5 hS, li_D_26 hS, li_D_r hS, li_G_1 hS, li_G_2 hS, li_G_3 hS, li_rA hS, li_rK hS, li_rX hS, il_0, il_1, il_2, il_3, il_4, il_5, il_6, il_7, il_8, il_9, il_10, il_11, il_12, il_13, il_15, il_16, il_17, il_18, il_19, il_20, il_21, il_22, il_23, il_24, il_26, il_27, il_28, il_30, il_32, il_34, il_36, il_38, il_40, il_43, il_44, il_46, il_47, il_48, il_49, il_50, il_51, il_60, il_64, il_100, il_108, il_111, il_127, il_971, il_972, il_999, il_1000, il_1024, il_1087, il_2500, il_5000, il_9999, il_60000, il_2147483647, nI_add, nI_mulI, nI_subI, nI_divI, nI_cl, nI_leJ, nI_ltJ, nI_eqJ, nI_neM, nI_neM', il_31, aw_sI_e, aw_sI_n, aw_sI_2, aw_sL_e, aw_sL_n, aw_sL_1, Option.bind_some, aw_chkT, ck_and0, ck_and1, bI_t, bI_f, nar_0, nar_1]
      rw [if_neg (by omega)]
      have q1 := hq i hlt
      have t1 := hu i
      have hb := b10 (k := i) (s := s) (by omega) hs
      rw [← ih (i + 1) f (by omega) (by omega)]
      have e1 : mS u (i + 1) s = if s.testBit i = true then mS u i s ||| 2 ^ u i else mS u i s := rfl
      rw [e1]
      simp (disch := first | assumption | omega) only [f_X4_signsIn_J32, hb, q1, jl_1, jl_63, nI_L, nL_b1, nL_orL, lo_0 hS, lo_1 hS, lo_33 hS, lo_34 hS, lo_89 hS, lo_100 hS, lo_123 hS, lo_146 hS, lo_148 hS, lo_176 hS, lo_182 hS, lo_D hS, lo_G hS, lr_37 hS, lr_93 hS, lr_101 hS, lr_124 hS, lr_152 hS, lr_169 hS, lr_0_0 hS, lr_0_1 hS, lr_0_2 hS, lr_0_3 hS, lr_0_5 hS, lr_0_6 hS, lr_0_7 hS, lr_0_8 hS, lr_0_9 hS, lr_0_10 hS, lr_0_11 hS, lr_0_12 hS, lr_1_0 hS, lr_1_2 hS, lr_33_0 hS, lr_33_1 hS, lr_33_2 hS, lr_33_3 hS, lr_34_0 hS, lr_89_0 hS, lr_89_1 hS, lr_89_2 hS, lr_89_3 hS, lr_89_4 hS, lr_89_5 hS, lr_100_0 hS, lr_100_1 hS, lr_123_0 hS, lr_123_1 hS, lr_146_0 hS, lr_148_0 hS, lr_148_1 hS, lr_148_2 hS, lr_148_3 hS, lr_148_4 hS, lr_148_5 hS, lr_176_0 hS, lr_176_1 hS, lr_176_4 hS, lr_176_6 hS, lr_176_7 hS, lr_182_0 hS, lr_D_0 hS, lr_D_1 hS, lr_D_2 hS, lr_D_3 hS, lr_D_5 hS, lr_D_6 hS, lr_D_r hS, lr_31 hS, lr_32 hS, lr_G_2 hS, lr_G_3 hS, lr_G_4 hS, li_2 hS, li_3 hS, li_31 hS, li_32 hS, li_35 hS, li_36 hS, li_37 hS, li_88 hS, li_90 hS, li_91 hS, li_92 hS, li_93 hS, li_98 hS, li_99 hS, li_101 hS, li_122 hS, li_124 hS, li_145 hS, li_147 hS, li_149 hS, li_150 hS, li_151 hS, li_152 hS, li_169 hS, li_175 hS, li_177 hS, li_178 hS, li_179 hS, li_180 hS, li_181 hS, li_183 hS, li_265 hS, li_266 hS, li_267 hS, li_268 hS, li_269 hS, li_270 hS, li_271 hS, li_272 hS, li_273 hS, li_274 hS, li_275 hS, li_276 hS, li_38 hS, li_94 hS, li_102 hS, li_125 hS, li_153 hS, li_170 hS, li_D_1 hS, li_D_2 hS, li_D_3 hS, li_D_4 hS, li_D_5 hS, li_D_26 hS, li_D_r hS, li_G_1 hS, li_G_2 hS, li_G_3 hS, li_rA hS, li_rK hS, li_rX hS, il_0, il_1, il_2, il_3, il_4, il_5, il_6, il_7, il_8, il_9, il_10, il_11, il_12, il_13, il_15, il_16, il_17, il_18, il_19, il_20, il_21, il_22, il_23, il_24, il_26, il_27, il_28, il_30, il_32, il_34, il_36, il_38, il_40, il_43, il_44, il_46, il_47, il_48, il_49, il_50, il_51, il_60, il_64, il_100, il_108, il_111, il_127, il_971, il_972, il_999, il_1000, il_1024, il_1087, il_2500, il_5000, il_9999, il_60000, il_2147483647, nI_add, nI_mulI, nI_subI, nI_divI, nI_cl, nI_leJ, nI_ltJ, nI_eqJ, nI_neM, nI_neM', il_31, aw_sI_e, aw_sI_n, aw_sI_2, aw_sL_e, aw_sL_n, aw_sL_1, Option.bind_some, aw_chkT, ck_and0, ck_and1, bI_t, bI_f, nar_0, nar_1]
      by_cases e : s.testBit i = true
      · simp (disch := first | assumption | omega) only [e, if_true, Nat.one_ne_zero, if_false, nI_eqJ]
      · simp (disch := first | assumption | omega) only [e, if_false, if_true, Bool.false_eq_true]

theorem C_signsIn {A : St} {σ : Sg} {d : Dt} (hS : Lay σ) {n s : Nat} {u : Nat → Nat} (hn : n ≤ 10) (hs : s < 1024) (hu : ∀ k, u k < 50) (hq : ∀ k, k < n → d.1 181 k = nI (u k)) : f_X4_signsIn σ 176 (nI s) (nI n) d = some (nL (mS u n s), d) := by
  have h := C_si_L5 (A := A) (k := fun x d => some (x, d)) (s := s) hS hn hs hu hq n 0 aw_FU (by omega) (by show _ < 5000; omega)
  exact h

theorem C_lo_L23 {A : St} {σ : Sg} {d0 : Dt} {D : Nat} {Q : Int32 × Dt → Prop} {k : Dt → Option (Int32 × Dt)} (hS : Lay σ) (hW : WF A) (hD : D < A 11 0 0) (hP0 : Prm A D d0) {n : Nat} {u : Nat → Nat} (hn : n ≤ 10) (hu : ∀ k, u k < 50) (hin : ∀ i j, i < n → j < n → u i = u j → i = j) (hq0 : ∀ k, k < n → d0.1 181 k = nI (u k)) (hall : ∀ k, k < n → (allS A D).testBit (u k) = true) (hk : ∀ d, (∀ x, x < 2 ^ n → d.1 180 x = nI (lcC A D u n x)) → Fr 180 180 d0 d → ok (k d) Q) : ∀ (m i f : Nat) (d : Dt), i + m = 2 ^ n - 1 → m < f → (∀ x, x < i + 1 → d.1 180 x = nI (lcC A D u n x)) → Fr 180 180 d0 d → ok (f_X4_leastOfOrders_L23 σ f k 176 (nI n) (nI (rdW A D (allS A D))) (nI (i + 1)) d) Q := by
  intro m
  induction m with
  | zero =>
    intro i f d hi hf w1 F
    cases f with
    | zero => omega
    | succ f =>
      have hp10 := pw10 hn
      have hpp := p10 hn
      show ok (f_X4_leastOfOrders_B23 σ (f_X4_leastOfOrders_L23 σ f k 176 (nI n) (nI (rdW A D (allS A D)))) k 176 (nI n) (nI (rdW A D (allS A D))) (nI (i + 1)) d) Q
      simp (disch := first | assumption | omega) only [f_X4_leastOfOrders_B23, hpp, nno, lo_0 hS, lo_1 hS, lo_33 hS, lo_34 hS, lo_89 hS, lo_100 hS, lo_123 hS, lo_146 hS, lo_148 hS, lo_176 hS, lo_182 hS, lo_D hS, lo_G hS, lr_37 hS, lr_93 hS, lr_101 hS, lr_124 hS, lr_152 hS, lr_169 hS, lr_0_0 hS, lr_0_1 hS, lr_0_2 hS, lr_0_3 hS, lr_0_5 hS, lr_0_6 hS, lr_0_7 hS, lr_0_8 hS, lr_0_9 hS, lr_0_10 hS, lr_0_11 hS, lr_0_12 hS, lr_1_0 hS, lr_1_2 hS, lr_33_0 hS, lr_33_1 hS, lr_33_2 hS, lr_33_3 hS, lr_34_0 hS, lr_89_0 hS, lr_89_1 hS, lr_89_2 hS, lr_89_3 hS, lr_89_4 hS, lr_89_5 hS, lr_100_0 hS, lr_100_1 hS, lr_123_0 hS, lr_123_1 hS, lr_146_0 hS, lr_148_0 hS, lr_148_1 hS, lr_148_2 hS, lr_148_3 hS, lr_148_4 hS, lr_148_5 hS, lr_176_0 hS, lr_176_1 hS, lr_176_4 hS, lr_176_6 hS, lr_176_7 hS, lr_182_0 hS, lr_D_0 hS, lr_D_1 hS, lr_D_2 hS, lr_D_3 hS, lr_D_5 hS, lr_D_6 hS, lr_D_r hS, lr_31 hS, lr_32 hS, lr_G_2 hS, lr_G_3 hS, lr_G_4 hS, li_2 hS, li_3 hS, li_31 hS, li_32 hS, li_35 hS, li_36 hS, li_37 hS, li_88 hS, li_90 hS, li_91 hS, li_92 hS, li_93 hS, li_98 hS, li_99 hS, li_101 hS, li_122 hS, li_124 hS, li_145 hS, li_147 hS, li_149 hS, li_150 hS, li_151 hS, li_152 hS, li_169 hS, li_175 hS, li_177 hS, li_178 hS, li_179 hS, li_180 hS, li_181 hS, li_183 hS, li_265 hS, li_266 hS, li_267 hS, li_268 hS, li_269 hS, li_270 hS, li_271 hS, li_272 hS, li_273 hS, li_274 hS, li_275 hS, li_276 hS, li_38 hS, li_94 hS, li_102 hS, li_125 hS, li_153 hS, li_170 hS, li_D_1 hS, li_D_2 hS, li_D_3 hS, li_D_4 hS, li_D_5 hS, li_D_26 hS, li_D_r hS, li_G_1 hS, li_G_2 hS, li_G_3 hS, li_rA hS, li_rK hS, li_rX hS, il_0, il_1, il_2, il_3, il_4, il_5, il_6, il_7, il_8, il_9, il_10, il_11, il_12, il_13, il_15, il_16, il_17, il_18, il_19, il_20, il_21, il_22, il_23, il_24, il_26, il_27, il_28, il_30, il_32, il_34, il_36, il_38, il_40, il_43, il_44, il_46, il_47, il_48, il_49, il_50, il_51, il_60, il_64, il_100, il_108, il_111, il_127, il_971, il_972, il_999, il_1000, il_1024, il_1087, il_2500, il_5000, il_9999, il_60000, il_2147483647, nI_add, nI_mulI, nI_subI, nI_divI, nI_cl, nI_leJ, nI_ltJ, nI_eqJ, nI_neM, nI_neM', il_31, aw_sI_e, aw_sI_n, aw_sI_2, aw_sL_e, aw_sL_n, aw_sL_1, Option.bind_some, aw_chkT, ck_and0, ck_and1, bI_t, bI_f, nar_0, nar_1]
      rw [if_pos (by omega)]
      exact hk d (fun x hx => w1 x (by omega)) F
  | succ m ih =>
    intro i f d hi hf w1 F
    cases f with
    | zero => omega
    | succ f =>
      have hp10 := pw10 hn
      have hpp := p10 hn
      show ok (f_X4_leastOfOrders_B23 σ (f_X4_leastOfOrders_L23 σ f k 176 (nI n) (nI (rdW A D (allS A D)))) k 176 (nI n) (nI (rdW A D (allS A D))) (nI (i + 1)) d) Q
      simp (disch := first | assumption | omega) only [f_X4_leastOfOrders_B23, hpp, nno, lo_0 hS, lo_1 hS, lo_33 hS, lo_34 hS, lo_89 hS, lo_100 hS, lo_123 hS, lo_146 hS, lo_148 hS, lo_176 hS, lo_182 hS, lo_D hS, lo_G hS, lr_37 hS, lr_93 hS, lr_101 hS, lr_124 hS, lr_152 hS, lr_169 hS, lr_0_0 hS, lr_0_1 hS, lr_0_2 hS, lr_0_3 hS, lr_0_5 hS, lr_0_6 hS, lr_0_7 hS, lr_0_8 hS, lr_0_9 hS, lr_0_10 hS, lr_0_11 hS, lr_0_12 hS, lr_1_0 hS, lr_1_2 hS, lr_33_0 hS, lr_33_1 hS, lr_33_2 hS, lr_33_3 hS, lr_34_0 hS, lr_89_0 hS, lr_89_1 hS, lr_89_2 hS, lr_89_3 hS, lr_89_4 hS, lr_89_5 hS, lr_100_0 hS, lr_100_1 hS, lr_123_0 hS, lr_123_1 hS, lr_146_0 hS, lr_148_0 hS, lr_148_1 hS, lr_148_2 hS, lr_148_3 hS, lr_148_4 hS, lr_148_5 hS, lr_176_0 hS, lr_176_1 hS, lr_176_4 hS, lr_176_6 hS, lr_176_7 hS, lr_182_0 hS, lr_D_0 hS, lr_D_1 hS, lr_D_2 hS, lr_D_3 hS, lr_D_5 hS, lr_D_6 hS, lr_D_r hS, lr_31 hS, lr_32 hS, lr_G_2 hS, lr_G_3 hS, lr_G_4 hS, li_2 hS, li_3 hS, li_31 hS, li_32 hS, li_35 hS, li_36 hS, li_37 hS, li_88 hS, li_90 hS, li_91 hS, li_92 hS, li_93 hS, li_98 hS, li_99 hS, li_101 hS, li_122 hS, li_124 hS, li_145 hS, li_147 hS, li_149 hS, li_150 hS, li_151 hS, li_152 hS, li_169 hS, li_175 hS, li_177 hS, li_178 hS, li_179 hS, li_180 hS, li_181 hS, li_183 hS, li_265 hS, li_266 hS, li_267 hS, li_268 hS, li_269 hS, li_270 hS, li_271 hS, li_272 hS, li_273 hS, li_274 hS, li_275 hS, li_276 hS, li_38 hS, li_94 hS, li_102 hS, li_125 hS, li_153 hS, li_170 hS, li_D_1 hS, li_D_2 hS, li_D_3 hS, li_D_4 hS, li_D_5 hS, li_D_26 hS, li_D_r hS, li_G_1 hS, li_G_2 hS, li_G_3 hS, li_rA hS, li_rK hS, li_rX hS, il_0, il_1, il_2, il_3, il_4, il_5, il_6, il_7, il_8, il_9, il_10, il_11, il_12, il_13, il_15, il_16, il_17, il_18, il_19, il_20, il_21, il_22, il_23, il_24, il_26, il_27, il_28, il_30, il_32, il_34, il_36, il_38, il_40, il_43, il_44, il_46, il_47, il_48, il_49, il_50, il_51, il_60, il_64, il_100, il_108, il_111, il_127, il_971, il_972, il_999, il_1000, il_1024, il_1087, il_2500, il_5000, il_9999, il_60000, il_2147483647, nI_add, nI_mulI, nI_subI, nI_divI, nI_cl, nI_leJ, nI_ltJ, nI_eqJ, nI_neM, nI_neM', il_31, aw_sI_e, aw_sI_n, aw_sI_2, aw_sL_e, aw_sL_n, aw_sL_1, Option.bind_some, aw_chkT, ck_and0, ck_and1, bI_t, bI_f, nar_0, nar_1]
      rw [if_neg (by omega)]
      have hP := hP0.fr F (by omega)
      have hq : ∀ k, k < n → d.1 181 k = nI (u k) := fun k hk => by rw [(F 181 (by omega)).1]; exact hq0 k hk
      have h := C_lo_L36 (x2 := nI (rdW A D (allS A D))) (s := i + 1) (k := fun x4_13 d_14 => (f_X4_signsIn σ 176 (nI (i + 1)) (nI n) d_14).bind (fun z_18 => (f_X4_weightRead σ 176 z_18.1 z_18.2).bind (fun z_20 => f_X4_leastOfOrders_L23 σ f k 176 (nI n) (nI (rdW A D (allS A D))) (nI (i + 1 + 1)) (aw_sI z_20.2 180 (i + 1) ((x4_13 + nI (rdW A D (allS A D))) - z_20.1))))) hS hW hD hn (show i + 1 < 2 ^ n by omega) (by omega) hu hin hq hall w1 n 0 aw_FU (by omega) (by show _ < 5000; omega)
      have hsi := C_signsIn (A := A) (d := d) (s := i + 1) hS hn (by omega) hu hq
      have hwr := C_weightRead hS hW hD hP (L := mS u n (i + 1))
      have hr2 : rdW A D (mS u n (i + 1)) ≤ rdW A D (allS A D) := rdW_mono (fun x hx => by
        obtain ⟨k, k1, k2, k3⟩ := (mS_bit n).mp hx
        rw [← k3]; exact hall k k1)
      have hpos := lcI_pos (A := A) (D := D) (u := u) (n := n) (s := i + 1) (z := 0) (t := lcT A D u n (i + 1)) n (Or.inl (some_bit (by omega) (by omega)))
      have hval : mnI (foldR (lcI A D u n (lcT A D u n (i + 1)) (i + 1)) 0 n) (nS n (i + 1) * (rdW A D (allS A D) - rdW A D (mS u n (i + 1)))) + nI (rdW A D (allS A D)) - nI (rdW A D (mS u n (i + 1))) = nI (lcC A D u n (i + 1)) := by
        unfold mnI
        rw [if_neg (by omega), nI_add, nI_subI (by omega)]
        congr 1
        unfold lcC lcV
        rw [if_neg (by omega), Nat.add_mul]
        omega
      have e0 : foldR (lcI A D u n (lcT A D u n (i + 1)) (i + 1)) 0 0 = 0 := rfl
      rw [e0, hsi] at h
      simp only [Option.bind_some, hwr, hval] at h
      have e1 : mnI 0 (nS n (i + 1) * (rdW A D (allS A D) - rdW A D (mS u n (i + 1)))) = NO := rfl
      rw [e1] at h
      rw [h]
      refine ih (i + 1) f _ (by omega) (by omega) (fun x hx => ?_) (F.w (by omega))
      by_cases e : x = i + 1
      · rw [aw_sI_e rfl e, e]
      · rw [aw_sI_n (by omega)]; exact w1 x (by omega)
