/-! the model: the least cost -/
def del (a s : Nat) : Nat := a ^^^ (a &&& 2 ^ s)
theorem del_bit (a s i : Nat) : (del a s).testBit i = (a.testBit i && decide (i ≠ s)) := by
  unfold del
  rw [Nat.testBit_xor, Nat.testBit_and, Nat.testBit_two_pow]
  by_cases e : s = i
  · subst e; simp
  · have e' : ¬ i = s := fun h => e h.symm
    simp [e, e']
theorem nL_del {a s : Nat} : nL a &&& ~~~ nL (2 ^ s) = nL (del a s) := by
  apply Int64.toBitVec_inj.mp
  apply BitVec.eq_of_getLsbD_eq
  intro i hi
  simp only [Int64.toBitVec_and, Int64.toBitVec_not, nL_bv, BitVec.getLsbD_and, BitVec.getLsbD_not, BitVec.getLsbD_ofNat, hi, decide_true, Bool.true_and, del_bit, Nat.testBit_two_pow]
  by_cases e : s = i
  · subst e; simp
  · have e' : ¬ i = s := fun h => e h.symm
    simp [e, e']

theorem b10 {k s : Nat} (hk : k < 10) (hs : s < 1024) : (nI s >>> (nI k &&& nI 31)) &&& nI 1 = nI (if s.testBit k = true then 1 else 0) := (by decide +kernel : ∀ k, k < 10 → ∀ s, s < 1024 → (nI s >>> (nI k &&& nI 31)) &&& nI 1 = nI (if s.testBit k = true then 1 else 0)) k hk s hs
theorem d10 {k s : Nat} (hk : k < 10) (hs : s < 1024) (h : s.testBit k = true) : nI s &&& ((nI 1 <<< (nI k &&& nI 31)) ^^^ (-nI 1)) = nI (s - 2 ^ k) := (by decide +kernel : ∀ k, k < 10 → ∀ s, s < 1024 → s.testBit k = true → nI s &&& ((nI 1 <<< (nI k &&& nI 31)) ^^^ (-nI 1)) = nI (s - 2 ^ k)) k hk s hs h
theorem p10 {n : Nat} (hn : n ≤ 10) : nI 1 <<< (nI n &&& nI 31) = nI (2 ^ n) := (by decide +kernel : ∀ n, n ≤ 10 → nI 1 <<< (nI n &&& nI 31) = nI (2 ^ n)) n hn
theorem pw10 {n : Nat} (hn : n ≤ 10) : 1 ≤ 2 ^ n ∧ 2 ^ n ≤ 1024 := ⟨Nat.pow_pos (by omega), Nat.pow_le_pow_right (n := 2) (by omega) hn⟩
theorem bit_ge {s k : Nat} (h : s.testBit k = true) : 2 ^ k ≤ s := Nat.ge_two_pow_of_testBit h
/-- the signs of a set of places, and how many -/
def mS (u : Nat → Nat) (n s : Nat) : Nat := foldR (fun m k => if s.testBit k = true then m ||| 2 ^ u k else m) 0 n
def nS (n s : Nat) : Nat := sumR (fun k => if s.testBit k = true then 1 else 0) n
theorem mS_lt {u : Nat → Nat} (hu : ∀ k, u k < 50) (s : Nat) : ∀ n, mS u n s < L50 := by
  intro n
  induction n with
  | zero => exact (by decide : 0 < L50)
  | succ n ih =>
    show (if s.testBit n = true then mS u n s ||| 2 ^ u n else mS u n s) < L50
    split
    · exact or50 ih (pow50 (hu n))
    · exact ih
theorem nS_le (n s : Nat) : nS n s ≤ n := by
  have h := sumR_le (g := fun k => if s.testBit k = true then 1 else 0) (n := n) (c := 1) (fun u _ => by show (if _ then _ else _) ≤ 1; split <;> omega)
  unfold nS; omega
/-- one step: the value with place k last -/
def lcX (A : St) (D : Nat) (u : Nat → Nat) (n : Nat) (t : Nat → Nat) (s k : Nat) : Nat := t (s - 2 ^ k) + nS n s * (rdW A D (mS u n s) - rdW A D (del (mS u n s) (u k)))
def lcI (A : St) (D : Nat) (u : Nat → Nat) (n : Nat) (t : Nat → Nat) (s acc k : Nat) : Nat := if s.testBit k = true then (if acc = 0 then lcX A D u n t s k + 1 else min acc (lcX A D u n t s k + 1)) else acc
def lcV (A : St) (D : Nat) (u : Nat → Nat) (n : Nat) (t : Nat → Nat) (s : Nat) : Nat := foldR (lcI A D u n t s) (if s = 0 then 1 else 0) n - 1
def lcT (A : St) (D : Nat) (u : Nat → Nat) (n : Nat) : Nat → Nat → Nat
  | 0 => fun _ => 0
  | s + 1 => fun x => if x = s then lcV A D u n (lcT A D u n s) s else lcT A D u n s x
def lcS (A : St) (D : Nat) (u : Nat → Nat) (n : Nat) : Nat := lcT A D u n (2 ^ n) (2 ^ n - 1)
theorem rdW_mono {A : St} {D a b : Nat} (h : ∀ s, a.testBit s = true → b.testBit s = true) : rdW A D a ≤ rdW A D b := by
  unfold rdW
  generalize A 2 0 0 = n
  induction n with
  | zero => exact Nat.le_refl _
  | succ n ih =>
    simp only [sumR]
    refine Nat.add_le_add ih ?_
    by_cases e : sub (hasW A D n) a = true
    · rw [if_pos e, if_pos (sub_iff.mpr (fun s hs => h s (sub_iff.mp e s hs)))]; exact Nat.le_refl _
    · rw [if_neg e]; exact Nat.zero_le _
theorem rdW_del (A : St) (D a s : Nat) : rdW A D (del a s) ≤ rdW A D a := rdW_mono (fun i h => by rw [del_bit] at h; simp at h; exact h.1)
/-- the values stay small -/
theorem lcX_le {A : St} (hW : WF A) {D : Nat} {u : Nat → Nat} {n s k c : Nat} {t : Nat → Nat} (hn : n ≤ 10) (h : t (s - 2 ^ k) ≤ c) : lcX A D u n t s k ≤ c + 199800 := by
  have h1 := nS_le n s
  have h2 := rdW_le hW D (mS u n s)
  have h3 : nS n s * (rdW A D (mS u n s) - rdW A D (del (mS u n s) (u k))) ≤ 10 * 19980 := Nat.mul_le_mul (by omega) (by omega)
  unfold lcX; omega
theorem lcI_le {A : St} (hW : WF A) {D : Nat} {u : Nat → Nat} {n s c z : Nat} {t : Nat → Nat} (hn : n ≤ 10) (hz : z ≤ 1) (h : ∀ k, s.testBit k = true → t (s - 2 ^ k) ≤ c) : ∀ i, foldR (lcI A D u n t s) z i ≤ c + 199801 := by
  intro i
  induction i with
  | zero => show z ≤ _; omega
  | succ i ih =>
    show lcI A D u n t s (foldR (lcI A D u n t s) z i) i ≤ _
    unfold lcI
    split
    · next hb =>
      have := lcX_le (u := u) hW (D := D) hn (h i hb)
      split <;> omega
    · exact ih
/-- every entry of the table, by how many steps it took -/
theorem lcT_le {A : St} (hW : WF A) {D : Nat} {u : Nat → Nat} {n : Nat} (hn : n ≤ 10) : ∀ s x, x < s → lcT A D u n s x ≤ 199801 * x + 199801 := by
  intro s
  induction s with
  | zero => intro x hx; omega
  | succ s ih =>
    intro x hx
    show (if x = s then lcV A D u n (lcT A D u n s) s else lcT A D u n s x) ≤ _
    by_cases e : x = s
    · rw [if_pos e]
      subst e
      unfold lcV
      have h := lcI_le (u := u) (t := lcT A D u n x) (z := if x = 0 then 1 else 0) (c := 199801 * x) (s := x) hW (D := D) hn (by split <;> omega) (fun k hk => by
        have hge := bit_ge hk
        have hp : 0 < 2 ^ k := Nat.pow_pos (by omega)
        have := ih (x - 2 ^ k) (by omega)
        omega) n
      omega
    · rw [if_neg e]; exact ih x (by omega)
theorem lcI_pos {A : St} {D : Nat} {u : Nat → Nat} {n s z : Nat} {t : Nat → Nat} : ∀ i, (∃ k, k < i ∧ s.testBit k = true) ∨ 0 < z → 0 < foldR (lcI A D u n t s) z i := by
  intro i
  induction i with
  | zero => rintro (⟨k, h, _⟩ | h); · omega
            · exact h
  | succ i ih =>
    intro h
    show 0 < lcI A D u n t s (foldR (lcI A D u n t s) z i) i
    unfold lcI
    by_cases hb : s.testBit i = true
    · rw [if_pos hb]; split <;> omega
    · rw [if_neg hb]
      refine ih ?_
      rcases h with ⟨k, h1, h2⟩ | h
      · have : k ≠ i := fun e => hb (e ▸ h2)
        exact Or.inl ⟨k, by omega, h2⟩
      · exact Or.inr h
theorem some_bit {s n : Nat} (hs : s < 2 ^ n) (h0 : s ≠ 0) : ∃ k, k < n ∧ s.testBit k = true := by
  obtain ⟨k, hk⟩ := Nat.exists_testBit_of_ne_zero h0
  refine ⟨k, ?_, hk⟩
  rcases Nat.lt_or_ge k n with h | h
  · exact h
  · rw [Nat.testBit_lt_two_pow (Nat.lt_of_lt_of_le hs (Nat.pow_le_pow_right (by omega) h))] at hk; exact absurd hk (by simp)

theorem M_lc_L68 {A : St} {σ : Sg} {d : Dt} {D : Nat} (hS : Lay σ) (hW : WF A) (hM : RepM A d) (hD : D < A 11 0 0) {n s : Nat} {u : Nat → Nat} (hn : n ≤ 10) (hs : s < 1024) (hu : ∀ k, u k < 50) (hq : ∀ k, k < n → d.1 289 k = nI (u k)) {k : Int64 → Int32 → Dt → Option (Int32 × Dt)} : ∀ (m i f : Nat), i + m = n → m < f → f_X11_leastCost_L68 σ f k 265 (nI n) (nI s) (nL (mS u i s)) (nI (nS i s)) (nI i) d = k (nL (mS u n s)) (nI (nS n s)) d := by
  intro m
  induction m with
  | zero =>
    intro i f hi hf
    cases f with
    | zero => omega
    | succ f =>
      have hiN : i = n := by omega
      show f_X11_leastCost_B68 σ (f_X11_leastCost_L68 σ f k 265 (nI n) (nI s)) k 265 (nI n) (nI s) (nL (mS u i s)) (nI (nS i s)) (nI i) d = _
      simp (disch := first | assumption | omega) only [f_X11_leastCost_B68, lo_0 hS, lo_1 hS, lo_33 hS, lo_34 hS, lo_89 hS, lo_100 hS, lo_123 hS, lo_146 hS, lo_148 hS, lo_176 hS, lo_182 hS, lo_265 hS, lo_D hS, lo_G hS, lr_37 hS, lr_93 hS, lr_101 hS, lr_124 hS, lr_152 hS, lr_169 hS, lr_0_0 hS, lr_0_1 hS, lr_0_2 hS, lr_0_3 hS, lr_0_5 hS, lr_0_6 hS, lr_0_7 hS, lr_0_8 hS, lr_0_9 hS, lr_0_10 hS, lr_0_11 hS, lr_0_12 hS, lr_1_0 hS, lr_1_2 hS, lr_33_0 hS, lr_33_1 hS, lr_33_2 hS, lr_33_3 hS, lr_34_0 hS, lr_89_0 hS, lr_89_1 hS, lr_89_2 hS, lr_89_3 hS, lr_89_4 hS, lr_89_5 hS, lr_100_0 hS, lr_100_1 hS, lr_123_0 hS, lr_123_1 hS, lr_146_0 hS, lr_148_0 hS, lr_148_1 hS, lr_148_2 hS, lr_148_3 hS, lr_148_4 hS, lr_148_5 hS, lr_176_0 hS, lr_176_1 hS, lr_176_4 hS, lr_176_6 hS, lr_176_7 hS, lr_182_0 hS, lr_265_1 hS, lr_265_3 hS, lr_265_4 hS, lr_265_5 hS, lr_265_6 hS, lr_265_7 hS, lr_265_8 hS, lr_265_9 hS, lr_265_10 hS, lr_265_12 hS, lr_265_13 hS, lr_265_14 hS, lr_265_15 hS, lr_265_16 hS, lr_265_17 hS, lr_265_18 hS, lr_265_19 hS, lr_265_20 hS, lr_265_21 hS, lr_265_22 hS, lr_265_23 hS, lr_265_24 hS, lr_265_25 hS, lr_265_26 hS, lr_265_27 hS, lr_265_28 hS, lr_265_29 hS, lr_265_30 hS, lr_D_0 hS, lr_D_1 hS, lr_D_2 hS, lr_D_3 hS, lr_D_5 hS, lr_D_6 hS, lr_D_r hS, lr_31 hS, lr_32 hS, lr_G_2 hS, lr_G_3 hS, lr_G_4 hS, li_2 hS, li_3 hS, li_31 hS, li_32 hS, li_35 hS, li_36 hS, li_37 hS, li_88 hS, li_90 hS, li_91 hS, li_92 hS, li_93 hS, li_98 hS, li_99 hS, li_101 hS, li_122 hS, li_124 hS, li_145 hS, li_147 hS, li_149 hS, li_150 hS, li_151 hS, li_152 hS, li_169 hS, li_175 hS, li_177 hS, li_178 hS, li_179 hS, li_180 hS, li_181 hS, li_183 hS, li_266 hS, li_267 hS, li_268 hS, li_269 hS, li_270 hS, li_271 hS, li_272 hS, li_273 hS, li_274 hS, li_275 hS, li_276 hS, li_277 hS, li_278 hS, li_279 hS, li_280 hS, li_281 hS, li_282 hS, li_283 hS, li_284 hS, li_285 hS, li_286 hS, li_287 hS, li_288 hS, li_289 hS, li_290 hS, li_291 hS, li_292 hS, li_293 hS, li_294 hS, li_38 hS, li_94 hS, li_102 hS, li_125 hS, li_153 hS, li_170 hS, li_D_1 hS, li_D_2 hS, li_D_3 hS, li_D_4 hS, li_D_5 hS, li_D_26 hS, li_D_r hS, li_G_1 hS, li_G_2 hS, li_G_3 hS, il_0, il_1, il_2, il_3, il_4, il_5, il_6, il_7, il_8, il_9, il_10, il_11, il_12, il_15, il_16, il_17, il_18, il_20, il_27, il_31, il_32, il_35, il_36, il_40, il_43, il_44, il_46, il_47, il_49, il_50, il_80, il_99, il_100, il_108, il_111, il_127, il_235, il_250, il_640, il_971, il_972, il_999, il_1000, il_1024, il_2500, il_4444, il_9999, il_2147483647, nI_add, nI_mulI, nI_subI, nI_divI, nI_cl, nI_leJ, nI_ltJ, nI_eqJ, nI_neM, nI_neM', aw_sI_e, aw_sI_n, aw_sI_2, aw_sL_e, aw_sL_n, aw_sL_1, Option.bind_some, aw_chkT, ck_and0, ck_and1, bI_t, bI_f, nar_0, nar_1]
      rw [if_pos (by omega)]
      rw [hiN]
      try rfl
  | succ m ih =>
    intro i f hi hf
    cases f with
    | zero => omega
    | succ f =>
      have hlt : i < n := by omega
      show f_X11_leastCost_B68 σ (f_X11_leastCost_L68 σ f k 265 (nI n) (nI s)) k 265 (nI n) (nI s) (nL (mS u i s)) (nI (nS i s)) (nI i) d = _
      simp (disch := first | assumption | omega) only [f_X11_leastCost_B68, lo_0 hS, lo_1 hS, lo_33 hS, lo_34 hS, lo_89 hS, lo_100 hS, lo_123 hS, lo_146 hS, lo_148 hS, lo_176 hS, lo_182 hS, lo_265 hS, lo_D hS, lo_G hS, lr_37 hS, lr_93 hS, lr_101 hS, lr_124 hS, lr_152 hS, lr_169 hS, lr_0_0 hS, lr_0_1 hS, lr_0_2 hS, lr_0_3 hS, lr_0_5 hS, lr_0_6 hS, lr_0_7 hS, lr_0_8 hS, lr_0_9 hS, lr_0_10 hS, lr_0_11 hS, lr_0_12 hS, lr_1_0 hS, lr_1_2 hS, lr_33_0 hS, lr_33_1 hS, lr_33_2 hS, lr_33_3 hS, lr_34_0 hS, lr_89_0 hS, lr_89_1 hS, lr_89_2 hS, lr_89_3 hS, lr_89_4 hS, lr_89_5 hS, lr_100_0 hS, lr_100_1 hS, lr_123_0 hS, lr_123_1 hS, lr_146_0 hS, lr_148_0 hS, lr_148_1 hS, lr_148_2 hS, lr_148_3 hS, lr_148_4 hS, lr_148_5 hS, lr_176_0 hS, lr_176_1 hS, lr_176_4 hS, lr_176_6 hS, lr_176_7 hS, lr_182_0 hS, lr_265_1 hS, lr_265_3 hS, lr_265_4 hS, lr_265_5 hS, lr_265_6 hS, lr_265_7 hS, lr_265_8 hS, lr_265_9 hS, lr_265_10 hS, lr_265_12 hS, lr_265_13 hS, lr_265_14 hS, lr_265_15 hS, lr_265_16 hS, lr_265_17 hS, lr_265_18 hS, lr_265_19 hS, lr_265_20 hS, lr_265_21 hS, lr_265_22 hS, lr_265_23 hS, lr_265_24 hS, lr_265_25 hS, lr_265_26 hS, lr_265_27 hS, lr_265_28 hS, lr_265_29 hS, lr_265_30 hS, lr_D_0 hS, lr_D_1 hS, lr_D_2 hS, lr_D_3 hS, lr_D_5 hS, lr_D_6 hS, lr_D_r hS, lr_31 hS, lr_32 hS, lr_G_2 hS, lr_G_3 hS, lr_G_4 hS, li_2 hS, li_3 hS, li_31 hS, li_32 hS, li_35 hS, li_36 hS, li_37 hS, li_88 hS, li_90 hS, li_91 hS, li_92 hS, li_93 hS, li_98 hS, li_99 hS, li_101 hS, li_122 hS, li_124 hS, li_145 hS, li_147 hS, li_149 hS, li_150 hS, li_151 hS, li_152 hS, li_169 hS, li_175 hS, li_177 hS, li_178 hS, li_179 hS, li_180 hS, li_181 hS, li_183 hS, li_266 hS, li_267 hS, li_268 hS, li_269 hS, li_270 hS, li_271 hS, li_272 hS, li_273 hS, li_274 hS, li_275 hS, li_276 hS, li_277 hS, li_278 hS, li_279 hS, li_280 hS, li_281 hS, li_282 hS, li_283 hS, li_284 hS, li_285 hS, li_286 hS, li_287 hS, li_288 hS, li_289 hS, li_290 hS, li_291 hS, li_292 hS, li_293 hS, li_294 hS, li_38 hS, li_94 hS, li_102 hS, li_125 hS, li_153 hS, li_170 hS, li_D_1 hS, li_D_2 hS, li_D_3 hS, li_D_4 hS, li_D_5 hS, li_D_26 hS, li_D_r hS, li_G_1 hS, li_G_2 hS, li_G_3 hS, il_0, il_1, il_2, il_3, il_4, il_5, il_6, il_7, il_8, il_9, il_10, il_11, il_12, il_15, il_16, il_17, il_18, il_20, il_27, il_31, il_32, il_35, il_36, il_40, il_43, il_44, il_46, il_47, il_49, il_50, il_80, il_99, il_100, il_108, il_111, il_127, il_235, il_250, il_640, il_971, il_972, il_999, il_1000, il_1024, il_2500, il_4444, il_9999, il_2147483647, nI_add, nI_mulI, nI_subI, nI_divI, nI_cl, nI_leJ, nI_ltJ, nI_eqJ, nI_neM, nI_neM', aw_sI_e, aw_sI_n, aw_sI_2, aw_sL_e, aw_sL_n, aw_sL_1, Option.bind_some, aw_chkT, ck_and0, ck_and1, bI_t, bI_f, nar_0, nar_1]
      rw [if_neg (by omega)]
      have q1 := hq i hlt
      have t1 := hu i
      rw [← ih (i + 1) f (by omega) (by omega)]
      have e1 : mS u (i + 1) s = if s.testBit i = true then mS u i s ||| 2 ^ u i else mS u i s := rfl
      have e2 : nS (i + 1) s = nS i s + if s.testBit i = true then 1 else 0 := rfl
      rw [e1, e2]
      have hb := b10 (k := i) (s := s) (by omega) hs
      simp (disch := first | assumption | omega) only [f_X11_leastCost_J99, hb, q1, jl_0, jl_1, jl_63, nI_L, nL_b1, nL_orL, lo_0 hS, lo_1 hS, lo_33 hS, lo_34 hS, lo_89 hS, lo_100 hS, lo_123 hS, lo_146 hS, lo_148 hS, lo_176 hS, lo_182 hS, lo_265 hS, lo_D hS, lo_G hS, lr_37 hS, lr_93 hS, lr_101 hS, lr_124 hS, lr_152 hS, lr_169 hS, lr_0_0 hS, lr_0_1 hS, lr_0_2 hS, lr_0_3 hS, lr_0_5 hS, lr_0_6 hS, lr_0_7 hS, lr_0_8 hS, lr_0_9 hS, lr_0_10 hS, lr_0_11 hS, lr_0_12 hS, lr_1_0 hS, lr_1_2 hS, lr_33_0 hS, lr_33_1 hS, lr_33_2 hS, lr_33_3 hS, lr_34_0 hS, lr_89_0 hS, lr_89_1 hS, lr_89_2 hS, lr_89_3 hS, lr_89_4 hS, lr_89_5 hS, lr_100_0 hS, lr_100_1 hS, lr_123_0 hS, lr_123_1 hS, lr_146_0 hS, lr_148_0 hS, lr_148_1 hS, lr_148_2 hS, lr_148_3 hS, lr_148_4 hS, lr_148_5 hS, lr_176_0 hS, lr_176_1 hS, lr_176_4 hS, lr_176_6 hS, lr_176_7 hS, lr_182_0 hS, lr_265_1 hS, lr_265_3 hS, lr_265_4 hS, lr_265_5 hS, lr_265_6 hS, lr_265_7 hS, lr_265_8 hS, lr_265_9 hS, lr_265_10 hS, lr_265_12 hS, lr_265_13 hS, lr_265_14 hS, lr_265_15 hS, lr_265_16 hS, lr_265_17 hS, lr_265_18 hS, lr_265_19 hS, lr_265_20 hS, lr_265_21 hS, lr_265_22 hS, lr_265_23 hS, lr_265_24 hS, lr_265_25 hS, lr_265_26 hS, lr_265_27 hS, lr_265_28 hS, lr_265_29 hS, lr_265_30 hS, lr_D_0 hS, lr_D_1 hS, lr_D_2 hS, lr_D_3 hS, lr_D_5 hS, lr_D_6 hS, lr_D_r hS, lr_31 hS, lr_32 hS, lr_G_2 hS, lr_G_3 hS, lr_G_4 hS, li_2 hS, li_3 hS, li_31 hS, li_32 hS, li_35 hS, li_36 hS, li_37 hS, li_88 hS, li_90 hS, li_91 hS, li_92 hS, li_93 hS, li_98 hS, li_99 hS, li_101 hS, li_122 hS, li_124 hS, li_145 hS, li_147 hS, li_149 hS, li_150 hS, li_151 hS, li_152 hS, li_169 hS, li_175 hS, li_177 hS, li_178 hS, li_179 hS, li_180 hS, li_181 hS, li_183 hS, li_266 hS, li_267 hS, li_268 hS, li_269 hS, li_270 hS, li_271 hS, li_272 hS, li_273 hS, li_274 hS, li_275 hS, li_276 hS, li_277 hS, li_278 hS, li_279 hS, li_280 hS, li_281 hS, li_282 hS, li_283 hS, li_284 hS, li_285 hS, li_286 hS, li_287 hS, li_288 hS, li_289 hS, li_290 hS, li_291 hS, li_292 hS, li_293 hS, li_294 hS, li_38 hS, li_94 hS, li_102 hS, li_125 hS, li_153 hS, li_170 hS, li_D_1 hS, li_D_2 hS, li_D_3 hS, li_D_4 hS, li_D_5 hS, li_D_26 hS, li_D_r hS, li_G_1 hS, li_G_2 hS, li_G_3 hS, il_0, il_1, il_2, il_3, il_4, il_5, il_6, il_7, il_8, il_9, il_10, il_11, il_12, il_15, il_16, il_17, il_18, il_20, il_27, il_31, il_32, il_35, il_36, il_40, il_43, il_44, il_46, il_47, il_49, il_50, il_80, il_99, il_100, il_108, il_111, il_127, il_235, il_250, il_640, il_971, il_972, il_999, il_1000, il_1024, il_2500, il_4444, il_9999, il_2147483647, nI_add, nI_mulI, nI_subI, nI_divI, nI_cl, nI_leJ, nI_ltJ, nI_eqJ, nI_neM, nI_neM', aw_sI_e, aw_sI_n, aw_sI_2, aw_sL_e, aw_sL_n, aw_sL_1, Option.bind_some, aw_chkT, ck_and0, ck_and1, bI_t, bI_f, nar_0, nar_1]
      by_cases e : s.testBit i = true
      · simp only [e, if_true, ↓reduceIte, Nat.reduceEqDiff, Nat.one_ne_zero, if_true, if_false]
      · simp (disch := first | assumption | omega) only [e, if_false, ↓reduceIte, Nat.reduceEqDiff, Nat.one_ne_zero, if_true, if_false, Nat.zero_ne_one, Nat.or_zero, Bool.false_eq_true, nI_eqJ]

theorem M_lc_L145 {A : St} {σ : Sg} {d0 : Dt} {D : Nat} {Q : Int32 × Dt → Prop} {k : Dt → Option (Int32 × Dt)} (hS : Lay σ) (hW : WF A) (hM0 : RepM A d0) (hD : D < A 11 0 0) (hU0 : Us A D d0) {n s : Nat} {u : Nat → Nat} (hn : n ≤ 10) (hs : s < 2 ^ n) (hu : ∀ k, u k < 50) (hq : ∀ k, k < n → d0.1 289 k = nI (u k)) (hk : ∀ d, d.1 292 s = dI (foldR (lcI A D u n (lcT A D u n s) s) (if s = 0 then 1 else 0) n) → (∀ x, x < s → d.1 292 x = nI (lcT A D u n s x)) → Fr 292 292 d0 d → ok (k d) Q) : ∀ (m i f : Nat) (d : Dt), i + m = n → m < f → d.1 292 s = dI (foldR (lcI A D u n (lcT A D u n s) s) (if s = 0 then 1 else 0) i) → (∀ x, x < s → d.1 292 x = nI (lcT A D u n s x)) → Fr 292 292 d0 d → ok (f_X11_leastCost_L145 σ f k 265 (nI n) (nI s) (nL (mS u n s)) (nI (nS n s)) (nI (rdW A D (mS u n s))) (nI i) d) Q := by
  intro m
  induction m with
  | zero =>
    intro i f d hi hf g1 g2 F
    cases f with
    | zero => omega
    | succ f =>
      have hp10 := pw10 hn
      show ok (f_X11_leastCost_B145 σ (f_X11_leastCost_L145 σ f k 265 (nI n) (nI s) (nL (mS u n s)) (nI (nS n s)) (nI (rdW A D (mS u n s)))) k 265 (nI n) (nI s) (nL (mS u n s)) (nI (nS n s)) (nI (rdW A D (mS u n s))) (nI i) d) Q
      simp (disch := first | assumption | omega) only [f_X11_leastCost_B145, lo_0 hS, lo_1 hS, lo_33 hS, lo_34 hS, lo_89 hS, lo_100 hS, lo_123 hS, lo_146 hS, lo_148 hS, lo_176 hS, lo_182 hS, lo_265 hS, lo_D hS, lo_G hS, lr_37 hS, lr_93 hS, lr_101 hS, lr_124 hS, lr_152 hS, lr_169 hS, lr_0_0 hS, lr_0_1 hS, lr_0_2 hS, lr_0_3 hS, lr_0_5 hS, lr_0_6 hS, lr_0_7 hS, lr_0_8 hS, lr_0_9 hS, lr_0_10 hS, lr_0_11 hS, lr_0_12 hS, lr_1_0 hS, lr_1_2 hS, lr_33_0 hS, lr_33_1 hS, lr_33_2 hS, lr_33_3 hS, lr_34_0 hS, lr_89_0 hS, lr_89_1 hS, lr_89_2 hS, lr_89_3 hS, lr_89_4 hS, lr_89_5 hS, lr_100_0 hS, lr_100_1 hS, lr_123_0 hS, lr_123_1 hS, lr_146_0 hS, lr_148_0 hS, lr_148_1 hS, lr_148_2 hS, lr_148_3 hS, lr_148_4 hS, lr_148_5 hS, lr_176_0 hS, lr_176_1 hS, lr_176_4 hS, lr_176_6 hS, lr_176_7 hS, lr_182_0 hS, lr_265_1 hS, lr_265_3 hS, lr_265_4 hS, lr_265_5 hS, lr_265_6 hS, lr_265_7 hS, lr_265_8 hS, lr_265_9 hS, lr_265_10 hS, lr_265_12 hS, lr_265_13 hS, lr_265_14 hS, lr_265_15 hS, lr_265_16 hS, lr_265_17 hS, lr_265_18 hS, lr_265_19 hS, lr_265_20 hS, lr_265_21 hS, lr_265_22 hS, lr_265_23 hS, lr_265_24 hS, lr_265_25 hS, lr_265_26 hS, lr_265_27 hS, lr_265_28 hS, lr_265_29 hS, lr_265_30 hS, lr_D_0 hS, lr_D_1 hS, lr_D_2 hS, lr_D_3 hS, lr_D_5 hS, lr_D_6 hS, lr_D_r hS, lr_31 hS, lr_32 hS, lr_G_2 hS, lr_G_3 hS, lr_G_4 hS, li_2 hS, li_3 hS, li_31 hS, li_32 hS, li_35 hS, li_36 hS, li_37 hS, li_88 hS, li_90 hS, li_91 hS, li_92 hS, li_93 hS, li_98 hS, li_99 hS, li_101 hS, li_122 hS, li_124 hS, li_145 hS, li_147 hS, li_149 hS, li_150 hS, li_151 hS, li_152 hS, li_169 hS, li_175 hS, li_177 hS, li_178 hS, li_179 hS, li_180 hS, li_181 hS, li_183 hS, li_266 hS, li_267 hS, li_268 hS, li_269 hS, li_270 hS, li_271 hS, li_272 hS, li_273 hS, li_274 hS, li_275 hS, li_276 hS, li_277 hS, li_278 hS, li_279 hS, li_280 hS, li_281 hS, li_282 hS, li_283 hS, li_284 hS, li_285 hS, li_286 hS, li_287 hS, li_288 hS, li_289 hS, li_290 hS, li_291 hS, li_292 hS, li_293 hS, li_294 hS, li_38 hS, li_94 hS, li_102 hS, li_125 hS, li_153 hS, li_170 hS, li_D_1 hS, li_D_2 hS, li_D_3 hS, li_D_4 hS, li_D_5 hS, li_D_26 hS, li_D_r hS, li_G_1 hS, li_G_2 hS, li_G_3 hS, il_0, il_1, il_2, il_3, il_4, il_5, il_6, il_7, il_8, il_9, il_10, il_11, il_12, il_15, il_16, il_17, il_18, il_20, il_27, il_31, il_32, il_35, il_36, il_40, il_43, il_44, il_46, il_47, il_49, il_50, il_80, il_99, il_100, il_108, il_111, il_127, il_235, il_250, il_640, il_971, il_972, il_999, il_1000, il_1024, il_2500, il_4444, il_9999, il_2147483647, nI_add, nI_mulI, nI_subI, nI_divI, nI_cl, nI_leJ, nI_ltJ, nI_eqJ, nI_neM, nI_neM', aw_sI_e, aw_sI_n, aw_sI_2, aw_sL_e, aw_sL_n, aw_sL_1, Option.bind_some, aw_chkT, ck_and0, ck_and1, bI_t, bI_f, nar_0, nar_1]
      rw [if_pos (by omega)]
      obtain rfl : i = n := by omega
      exact hk d g1 g2 F
  | succ m ih =>
    intro i f d hi hf g1 g2 F
    cases f with
    | zero => omega
    | succ f =>
      have hp10 := pw10 hn
      show ok (f_X11_leastCost_B145 σ (f_X11_leastCost_L145 σ f k 265 (nI n) (nI s) (nL (mS u n s)) (nI (nS n s)) (nI (rdW A D (mS u n s)))) k 265 (nI n) (nI s) (nL (mS u n s)) (nI (nS n s)) (nI (rdW A D (mS u n s))) (nI i) d) Q
      simp (disch := first | assumption | omega) only [f_X11_leastCost_B145, lo_0 hS, lo_1 hS, lo_33 hS, lo_34 hS, lo_89 hS, lo_100 hS, lo_123 hS, lo_146 hS, lo_148 hS, lo_176 hS, lo_182 hS, lo_265 hS, lo_D hS, lo_G hS, lr_37 hS, lr_93 hS, lr_101 hS, lr_124 hS, lr_152 hS, lr_169 hS, lr_0_0 hS, lr_0_1 hS, lr_0_2 hS, lr_0_3 hS, lr_0_5 hS, lr_0_6 hS, lr_0_7 hS, lr_0_8 hS, lr_0_9 hS, lr_0_10 hS, lr_0_11 hS, lr_0_12 hS, lr_1_0 hS, lr_1_2 hS, lr_33_0 hS, lr_33_1 hS, lr_33_2 hS, lr_33_3 hS, lr_34_0 hS, lr_89_0 hS, lr_89_1 hS, lr_89_2 hS, lr_89_3 hS, lr_89_4 hS, lr_89_5 hS, lr_100_0 hS, lr_100_1 hS, lr_123_0 hS, lr_123_1 hS, lr_146_0 hS, lr_148_0 hS, lr_148_1 hS, lr_148_2 hS, lr_148_3 hS, lr_148_4 hS, lr_148_5 hS, lr_176_0 hS, lr_176_1 hS, lr_176_4 hS, lr_176_6 hS, lr_176_7 hS, lr_182_0 hS, lr_265_1 hS, lr_265_3 hS, lr_265_4 hS, lr_265_5 hS, lr_265_6 hS, lr_265_7 hS, lr_265_8 hS, lr_265_9 hS, lr_265_10 hS, lr_265_12 hS, lr_265_13 hS, lr_265_14 hS, lr_265_15 hS, lr_265_16 hS, lr_265_17 hS, lr_265_18 hS, lr_265_19 hS, lr_265_20 hS, lr_265_21 hS, lr_265_22 hS, lr_265_23 hS, lr_265_24 hS, lr_265_25 hS, lr_265_26 hS, lr_265_27 hS, lr_265_28 hS, lr_265_29 hS, lr_265_30 hS, lr_D_0 hS, lr_D_1 hS, lr_D_2 hS, lr_D_3 hS, lr_D_5 hS, lr_D_6 hS, lr_D_r hS, lr_31 hS, lr_32 hS, lr_G_2 hS, lr_G_3 hS, lr_G_4 hS, li_2 hS, li_3 hS, li_31 hS, li_32 hS, li_35 hS, li_36 hS, li_37 hS, li_88 hS, li_90 hS, li_91 hS, li_92 hS, li_93 hS, li_98 hS, li_99 hS, li_101 hS, li_122 hS, li_124 hS, li_145 hS, li_147 hS, li_149 hS, li_150 hS, li_151 hS, li_152 hS, li_169 hS, li_175 hS, li_177 hS, li_178 hS, li_179 hS, li_180 hS, li_181 hS, li_183 hS, li_266 hS, li_267 hS, li_268 hS, li_269 hS, li_270 hS, li_271 hS, li_272 hS, li_273 hS, li_274 hS, li_275 hS, li_276 hS, li_277 hS, li_278 hS, li_279 hS, li_280 hS, li_281 hS, li_282 hS, li_283 hS, li_284 hS, li_285 hS, li_286 hS, li_287 hS, li_288 hS, li_289 hS, li_290 hS, li_291 hS, li_292 hS, li_293 hS, li_294 hS, li_38 hS, li_94 hS, li_102 hS, li_125 hS, li_153 hS, li_170 hS, li_D_1 hS, li_D_2 hS, li_D_3 hS, li_D_4 hS, li_D_5 hS, li_D_26 hS, li_D_r hS, li_G_1 hS, li_G_2 hS, li_G_3 hS, il_0, il_1, il_2, il_3, il_4, il_5, il_6, il_7, il_8, il_9, il_10, il_11, il_12, il_15, il_16, il_17, il_18, il_20, il_27, il_31, il_32, il_35, il_36, il_40, il_43, il_44, il_46, il_47, il_49, il_50, il_80, il_99, il_100, il_108, il_111, il_127, il_235, il_250, il_640, il_971, il_972, il_999, il_1000, il_1024, il_2500, il_4444, il_9999, il_2147483647, nI_add, nI_mulI, nI_subI, nI_divI, nI_cl, nI_leJ, nI_ltJ, nI_eqJ, nI_neM, nI_neM', aw_sI_e, aw_sI_n, aw_sI_2, aw_sL_e, aw_sL_n, aw_sL_1, Option.bind_some, aw_chkT, ck_and0, ck_and1, bI_t, bI_f, nar_0, nar_1]
      rw [if_neg (by omega)]
      have hM := hM0.frH F (by omega)
      have hh : ∀ w, w < A 2 0 0 → d.2 291 w = nL (hasW A D w) := fun w hw => by rw [(F 291 (by omega)).2]; exact hU0.2.1 w hw
      have q1 : d.1 289 i = nI (u i) := by rw [(F 289 (by omega)).1]; exact hq i (by omega)
      have t1 := hu i
      have hb := b10 (k := i) (s := s) (by omega) (by omega)
      have es : foldR (lcI A D u n (lcT A D u n s) s) (if s = 0 then 1 else 0) (i + 1) = lcI A D u n (lcT A D u n s) s (foldR (lcI A D u n (lcT A D u n s) s) (if s = 0 then 1 else 0) i) i := rfl
      have IH : ∀ d', d'.1 292 s = dI (lcI A D u n (lcT A D u n s) s (foldR (lcI A D u n (lcT A D u n s) s) (if s = 0 then 1 else 0) i) i) → (∀ x, x < s → d'.1 292 x = nI (lcT A D u n s x)) → Fr 292 292 d0 d' → ok (f_X11_leastCost_L145 σ f k 265 (nI n) (nI s) (nL (mS u n s)) (nI (nS n s)) (nI (rdW A D (mS u n s))) (nI (i + 1)) d') Q := fun d' a1 a2 a3 => ih (i + 1) f d' (by omega) (by omega) a1 a2 a3
      have hacc := lcI_le (u := u) (t := lcT A D u n s) (z := if s = 0 then 1 else 0) (c := 199801 * s) (s := s) hW (D := D) hn (by split <;> omega) (fun k hk => by
        have hge := bit_ge hk
        have hp : 0 < 2 ^ k := Nat.pow_pos (by omega)
        have := lcT_le (u := u) hW (D := D) hn s (s - 2 ^ k) (by omega)
        omega) i
      generalize (foldR (lcI A D u n (lcT A D u n s) s) (if s = 0 then 1 else 0) i) = acc at *
      by_cases e : s.testBit i = true
      · have hge := bit_ge e
        have hp : 0 < 2 ^ i := Nat.pow_pos (by omega)
        have q2 := g2 (s - 2 ^ i) (by omega)
        have q3 := M_read hS hW hM hD hh (s := del (mS u n s) (u i))
        have hd : nI s &&& ((nI 1 <<< (nI i &&& nI 31)) ^^^ NO) = nI (s - 2 ^ i) := d10 (k := i) (s := s) (by omega) (by omega) e
        have hr := rdW_del A D (mS u n s) (u i)
        have hx : lcT A D u n s (s - 2 ^ i) + nS n s * (rdW A D (mS u n s) - rdW A D (del (mS u n s) (u i))) = lcX A D u n (lcT A D u n s) s i := rfl
        have hxl := lcX_le (u := u) (k := i) (s := s) (t := lcT A D u n s) hW (D := D) hn (lcT_le (u := u) hW (D := D) hn s (s - 2 ^ i) (by omega))
        simp (disch := first | assumption | omega) only [f_X11_leastCost_J229, f_X11_leastCost_J240, f_X11_leastCost_J241, hb, e, hd, q1, q2, q3, g1, jl_0, jl_1, jl_63, jl_not, nL_del, nI_L, nL_b1, nL_orL, hx, nno, ↓reduceIte, Nat.reduceEqDiff, Nat.one_ne_zero, if_true, if_false, lo_0 hS, lo_1 hS, lo_33 hS, lo_34 hS, lo_89 hS, lo_100 hS, lo_123 hS, lo_146 hS, lo_148 hS, lo_176 hS, lo_182 hS, lo_265 hS, lo_D hS, lo_G hS, lr_37 hS, lr_93 hS, lr_101 hS, lr_124 hS, lr_152 hS, lr_169 hS, lr_0_0 hS, lr_0_1 hS, lr_0_2 hS, lr_0_3 hS, lr_0_5 hS, lr_0_6 hS, lr_0_7 hS, lr_0_8 hS, lr_0_9 hS, lr_0_10 hS, lr_0_11 hS, lr_0_12 hS, lr_1_0 hS, lr_1_2 hS, lr_33_0 hS, lr_33_1 hS, lr_33_2 hS, lr_33_3 hS, lr_34_0 hS, lr_89_0 hS, lr_89_1 hS, lr_89_2 hS, lr_89_3 hS, lr_89_4 hS, lr_89_5 hS, lr_100_0 hS, lr_100_1 hS, lr_123_0 hS, lr_123_1 hS, lr_146_0 hS, lr_148_0 hS, lr_148_1 hS, lr_148_2 hS, lr_148_3 hS, lr_148_4 hS, lr_148_5 hS, lr_176_0 hS, lr_176_1 hS, lr_176_4 hS, lr_176_6 hS, lr_176_7 hS, lr_182_0 hS, lr_265_1 hS, lr_265_3 hS, lr_265_4 hS, lr_265_5 hS, lr_265_6 hS, lr_265_7 hS, lr_265_8 hS, lr_265_9 hS, lr_265_10 hS, lr_265_12 hS, lr_265_13 hS, lr_265_14 hS, lr_265_15 hS, lr_265_16 hS, lr_265_17 hS, lr_265_18 hS, lr_265_19 hS, lr_265_20 hS, lr_265_21 hS, lr_265_22 hS, lr_265_23 hS, lr_265_24 hS, lr_265_25 hS, lr_265_26 hS, lr_265_27 hS, lr_265_28 hS, lr_265_29 hS, lr_265_30 hS, lr_D_0 hS, lr_D_1 hS, lr_D_2 hS, lr_D_3 hS, lr_D_5 hS, lr_D_6 hS, lr_D_r hS, lr_31 hS, lr_32 hS, lr_G_2 hS, lr_G_3 hS, lr_G_4 hS, li_2 hS, li_3 hS, li_31 hS, li_32 hS, li_35 hS, li_36 hS, li_37 hS, li_88 hS, li_90 hS, li_91 hS, li_92 hS, li_93 hS, li_98 hS, li_99 hS, li_101 hS, li_122 hS, li_124 hS, li_145 hS, li_147 hS, li_149 hS, li_150 hS, li_151 hS, li_152 hS, li_169 hS, li_175 hS, li_177 hS, li_178 hS, li_179 hS, li_180 hS, li_181 hS, li_183 hS, li_266 hS, li_267 hS, li_268 hS, li_269 hS, li_270 hS, li_271 hS, li_272 hS, li_273 hS, li_274 hS, li_275 hS, li_276 hS, li_277 hS, li_278 hS, li_279 hS, li_280 hS, li_281 hS, li_282 hS, li_283 hS, li_284 hS, li_285 hS, li_286 hS, li_287 hS, li_288 hS, li_289 hS, li_290 hS, li_291 hS, li_292 hS, li_293 hS, li_294 hS, li_38 hS, li_94 hS, li_102 hS, li_125 hS, li_153 hS, li_170 hS, li_D_1 hS, li_D_2 hS, li_D_3 hS, li_D_4 hS, li_D_5 hS, li_D_26 hS, li_D_r hS, li_G_1 hS, li_G_2 hS, li_G_3 hS, il_0, il_1, il_2, il_3, il_4, il_5, il_6, il_7, il_8, il_9, il_10, il_11, il_12, il_15, il_16, il_17, il_18, il_20, il_27, il_31, il_32, il_35, il_36, il_40, il_43, il_44, il_46, il_47, il_49, il_50, il_80, il_99, il_100, il_108, il_111, il_127, il_235, il_250, il_640, il_971, il_972, il_999, il_1000, il_1024, il_2500, il_4444, il_9999, il_2147483647, nI_add, nI_mulI, nI_subI, nI_divI, nI_cl, nI_leJ, nI_ltJ, nI_eqJ, nI_neM, nI_neM', aw_sI_e, aw_sI_n, aw_sI_2, aw_sL_e, aw_sL_n, aw_sL_1, Option.bind_some, aw_chkT, ck_and0, ck_and1, bI_t, bI_f, nar_0, nar_1]
        by_cases e0 : acc = 0
        · have e3 : dI acc = NO := by rw [e0]; exact dI_0
          rw [if_pos e3]
          refine IH _ ?_ (fun x hx => by rw [aw_sI_n (by omega)]; exact g2 x hx) (F.w (by omega))
          rw [aw_sI_e rfl rfl, lcI, if_pos e, if_pos e0, dI_s _ (by omega), Nat.add_sub_cancel]
        · have e3 : ¬ dI acc = NO := by rw [dI_s _ (by omega), NO_n (by omega)]; exact not_false
          rw [if_neg e3]
          rw [dI_s acc (by omega)]
          simp (disch := first | assumption | omega) only [il_0, il_1, il_2, il_3, il_4, il_5, il_6, il_7, il_8, il_9, il_10, il_11, il_12, il_15, il_16, il_17, il_18, il_20, il_27, il_31, il_32, il_35, il_36, il_40, il_43, il_44, il_46, il_47, il_49, il_50, il_80, il_99, il_100, il_108, il_111, il_127, il_235, il_250, il_640, il_971, il_972, il_999, il_1000, il_1024, il_2500, il_4444, il_9999, il_2147483647, nI_add, nI_mulI, nI_subI, nI_divI, nI_cl, nI_leJ, nI_ltJ, nI_eqJ, nI_neM, nI_neM']
          by_cases e4 : acc - 1 ≤ lcX A D u n (lcT A D u n s) s i
          · rw [if_pos e4]
            refine IH _ ?_ (fun x hx => by rw [aw_sI_n (by omega)]; exact g2 x hx) (F.w (by omega))
            rw [aw_sI_e rfl rfl, lcI, if_pos e, if_neg e0, dI_s _ (by omega)]
            congr 1; omega
          · rw [if_neg e4]
            refine IH _ ?_ (fun x hx => by rw [aw_sI_n (by omega)]; exact g2 x hx) (F.w (by omega))
            rw [aw_sI_e rfl rfl, lcI, if_pos e, if_neg e0, dI_s _ (by omega)]
            congr 1; omega
      · simp (disch := first | assumption | omega) only [f_X11_leastCost_J241, hb, e, ↓reduceIte, Nat.reduceEqDiff, Nat.one_ne_zero, if_true, if_false, Bool.false_eq_true, Nat.zero_ne_one, lo_0 hS, lo_1 hS, lo_33 hS, lo_34 hS, lo_89 hS, lo_100 hS, lo_123 hS, lo_146 hS, lo_148 hS, lo_176 hS, lo_182 hS, lo_265 hS, lo_D hS, lo_G hS, lr_37 hS, lr_93 hS, lr_101 hS, lr_124 hS, lr_152 hS, lr_169 hS, lr_0_0 hS, lr_0_1 hS, lr_0_2 hS, lr_0_3 hS, lr_0_5 hS, lr_0_6 hS, lr_0_7 hS, lr_0_8 hS, lr_0_9 hS, lr_0_10 hS, lr_0_11 hS, lr_0_12 hS, lr_1_0 hS, lr_1_2 hS, lr_33_0 hS, lr_33_1 hS, lr_33_2 hS, lr_33_3 hS, lr_34_0 hS, lr_89_0 hS, lr_89_1 hS, lr_89_2 hS, lr_89_3 hS, lr_89_4 hS, lr_89_5 hS, lr_100_0 hS, lr_100_1 hS, lr_123_0 hS, lr_123_1 hS, lr_146_0 hS, lr_148_0 hS, lr_148_1 hS, lr_148_2 hS, lr_148_3 hS, lr_148_4 hS, lr_148_5 hS, lr_176_0 hS, lr_176_1 hS, lr_176_4 hS, lr_176_6 hS, lr_176_7 hS, lr_182_0 hS, lr_265_1 hS, lr_265_3 hS, lr_265_4 hS, lr_265_5 hS, lr_265_6 hS, lr_265_7 hS, lr_265_8 hS, lr_265_9 hS, lr_265_10 hS, lr_265_12 hS, lr_265_13 hS, lr_265_14 hS, lr_265_15 hS, lr_265_16 hS, lr_265_17 hS, lr_265_18 hS, lr_265_19 hS, lr_265_20 hS, lr_265_21 hS, lr_265_22 hS, lr_265_23 hS, lr_265_24 hS, lr_265_25 hS, lr_265_26 hS, lr_265_27 hS, lr_265_28 hS, lr_265_29 hS, lr_265_30 hS, lr_D_0 hS, lr_D_1 hS, lr_D_2 hS, lr_D_3 hS, lr_D_5 hS, lr_D_6 hS, lr_D_r hS, lr_31 hS, lr_32 hS, lr_G_2 hS, lr_G_3 hS, lr_G_4 hS, li_2 hS, li_3 hS, li_31 hS, li_32 hS, li_35 hS, li_36 hS, li_37 hS, li_88 hS, li_90 hS, li_91 hS, li_92 hS, li_93 hS, li_98 hS, li_99 hS, li_101 hS, li_122 hS, li_124 hS, li_145 hS, li_147 hS, li_149 hS, li_150 hS, li_151 hS, li_152 hS, li_169 hS, li_175 hS, li_177 hS, li_178 hS, li_179 hS, li_180 hS, li_181 hS, li_183 hS, li_266 hS, li_267 hS, li_268 hS, li_269 hS, li_270 hS, li_271 hS, li_272 hS, li_273 hS, li_274 hS, li_275 hS, li_276 hS, li_277 hS, li_278 hS, li_279 hS, li_280 hS, li_281 hS, li_282 hS, li_283 hS, li_284 hS, li_285 hS, li_286 hS, li_287 hS, li_288 hS, li_289 hS, li_290 hS, li_291 hS, li_292 hS, li_293 hS, li_294 hS, li_38 hS, li_94 hS, li_102 hS, li_125 hS, li_153 hS, li_170 hS, li_D_1 hS, li_D_2 hS, li_D_3 hS, li_D_4 hS, li_D_5 hS, li_D_26 hS, li_D_r hS, li_G_1 hS, li_G_2 hS, li_G_3 hS, il_0, il_1, il_2, il_3, il_4, il_5, il_6, il_7, il_8, il_9, il_10, il_11, il_12, il_15, il_16, il_17, il_18, il_20, il_27, il_31, il_32, il_35, il_36, il_40, il_43, il_44, il_46, il_47, il_49, il_50, il_80, il_99, il_100, il_108, il_111, il_127, il_235, il_250, il_640, il_971, il_972, il_999, il_1000, il_1024, il_2500, il_4444, il_9999, il_2147483647, nI_add, nI_mulI, nI_subI, nI_divI, nI_cl, nI_leJ, nI_ltJ, nI_eqJ, nI_neM, nI_neM', aw_sI_e, aw_sI_n, aw_sI_2, aw_sL_e, aw_sL_n, aw_sL_1, Option.bind_some, aw_chkT, ck_and0, ck_and1, bI_t, bI_f, nar_0, nar_1]
        refine IH d ?_ g2 F
        rw [g1, lcI, if_neg e]

theorem M_lc_L52 {A : St} {σ : Sg} {d0 : Dt} {D : Nat} {Q : Int32 × Dt → Prop} {k : Dt → Option (Int32 × Dt)} (hS : Lay σ) (hW : WF A) (hM0 : RepM A d0) (hD : D < A 11 0 0) (hU0 : Us A D d0) {n : Nat} {u : Nat → Nat} (hn : n ≤ 10) (hu : ∀ k, u k < 50) (hq : ∀ k, k < n → d0.1 289 k = nI (u k)) (hk : ∀ d, (∀ x, x < 2 ^ n → d.1 292 x = nI (lcT A D u n (2 ^ n) x)) → Fr 292 292 d0 d → ok (k d) Q) : ∀ (m i f : Nat) (d : Dt), i + m = 2 ^ n → m < f → (∀ x, x < i → d.1 292 x = nI (lcT A D u n i x)) → Fr 292 292 d0 d → ok (f_X11_leastCost_L52 σ f k 265 (nI n) (nI i) d) Q := by
  intro m
  induction m with
  | zero =>
    intro i f d hi hf g2 F
    cases f with
    | zero => omega
    | succ f =>
      have hp10 := pw10 hn
      have hpp := p10 hn
      show ok (f_X11_leastCost_B52 σ (f_X11_leastCost_L52 σ f k 265 (nI n)) k 265 (nI n) (nI i) d) Q
      simp (disch := first | assumption | omega) only [f_X11_leastCost_B52, hpp, lo_0 hS, lo_1 hS, lo_33 hS, lo_34 hS, lo_89 hS, lo_100 hS, lo_123 hS, lo_146 hS, lo_148 hS, lo_176 hS, lo_182 hS, lo_265 hS, lo_D hS, lo_G hS, lr_37 hS, lr_93 hS, lr_101 hS, lr_124 hS, lr_152 hS, lr_169 hS, lr_0_0 hS, lr_0_1 hS, lr_0_2 hS, lr_0_3 hS, lr_0_5 hS, lr_0_6 hS, lr_0_7 hS, lr_0_8 hS, lr_0_9 hS, lr_0_10 hS, lr_0_11 hS, lr_0_12 hS, lr_1_0 hS, lr_1_2 hS, lr_33_0 hS, lr_33_1 hS, lr_33_2 hS, lr_33_3 hS, lr_34_0 hS, lr_89_0 hS, lr_89_1 hS, lr_89_2 hS, lr_89_3 hS, lr_89_4 hS, lr_89_5 hS, lr_100_0 hS, lr_100_1 hS, lr_123_0 hS, lr_123_1 hS, lr_146_0 hS, lr_148_0 hS, lr_148_1 hS, lr_148_2 hS, lr_148_3 hS, lr_148_4 hS, lr_148_5 hS, lr_176_0 hS, lr_176_1 hS, lr_176_4 hS, lr_176_6 hS, lr_176_7 hS, lr_182_0 hS, lr_265_1 hS, lr_265_3 hS, lr_265_4 hS, lr_265_5 hS, lr_265_6 hS, lr_265_7 hS, lr_265_8 hS, lr_265_9 hS, lr_265_10 hS, lr_265_12 hS, lr_265_13 hS, lr_265_14 hS, lr_265_15 hS, lr_265_16 hS, lr_265_17 hS, lr_265_18 hS, lr_265_19 hS, lr_265_20 hS, lr_265_21 hS, lr_265_22 hS, lr_265_23 hS, lr_265_24 hS, lr_265_25 hS, lr_265_26 hS, lr_265_27 hS, lr_265_28 hS, lr_265_29 hS, lr_265_30 hS, lr_D_0 hS, lr_D_1 hS, lr_D_2 hS, lr_D_3 hS, lr_D_5 hS, lr_D_6 hS, lr_D_r hS, lr_31 hS, lr_32 hS, lr_G_2 hS, lr_G_3 hS, lr_G_4 hS, li_2 hS, li_3 hS, li_31 hS, li_32 hS, li_35 hS, li_36 hS, li_37 hS, li_88 hS, li_90 hS, li_91 hS, li_92 hS, li_93 hS, li_98 hS, li_99 hS, li_101 hS, li_122 hS, li_124 hS, li_145 hS, li_147 hS, li_149 hS, li_150 hS, li_151 hS, li_152 hS, li_169 hS, li_175 hS, li_177 hS, li_178 hS, li_179 hS, li_180 hS, li_181 hS, li_183 hS, li_266 hS, li_267 hS, li_268 hS, li_269 hS, li_270 hS, li_271 hS, li_272 hS, li_273 hS, li_274 hS, li_275 hS, li_276 hS, li_277 hS, li_278 hS, li_279 hS, li_280 hS, li_281 hS, li_282 hS, li_283 hS, li_284 hS, li_285 hS, li_286 hS, li_287 hS, li_288 hS, li_289 hS, li_290 hS, li_291 hS, li_292 hS, li_293 hS, li_294 hS, li_38 hS, li_94 hS, li_102 hS, li_125 hS, li_153 hS, li_170 hS, li_D_1 hS, li_D_2 hS, li_D_3 hS, li_D_4 hS, li_D_5 hS, li_D_26 hS, li_D_r hS, li_G_1 hS, li_G_2 hS, li_G_3 hS, il_0, il_1, il_2, il_3, il_4, il_5, il_6, il_7, il_8, il_9, il_10, il_11, il_12, il_15, il_16, il_17, il_18, il_20, il_27, il_31, il_32, il_35, il_36, il_40, il_43, il_44, il_46, il_47, il_49, il_50, il_80, il_99, il_100, il_108, il_111, il_127, il_235, il_250, il_640, il_971, il_972, il_999, il_1000, il_1024, il_2500, il_4444, il_9999, il_2147483647, nI_add, nI_mulI, nI_subI, nI_divI, nI_cl, nI_leJ, nI_ltJ, nI_eqJ, nI_neM, nI_neM', aw_sI_e, aw_sI_n, aw_sI_2, aw_sL_e, aw_sL_n, aw_sL_1, Option.bind_some, aw_chkT, ck_and0, ck_and1, bI_t, bI_f, nar_0, nar_1]
      rw [if_pos (by omega)]
      obtain rfl : i = 2 ^ n := by omega
      exact hk d g2 F
  | succ m ih =>
    intro i f d hi hf g2 F
    cases f with
    | zero => omega
    | succ f =>
      have hp10 := pw10 hn
      have hpp := p10 hn
      show ok (f_X11_leastCost_B52 σ (f_X11_leastCost_L52 σ f k 265 (nI n)) k 265 (nI n) (nI i) d) Q
      simp (disch := first | assumption | omega) only [f_X11_leastCost_B52, hpp, lo_0 hS, lo_1 hS, lo_33 hS, lo_34 hS, lo_89 hS, lo_100 hS, lo_123 hS, lo_146 hS, lo_148 hS, lo_176 hS, lo_182 hS, lo_265 hS, lo_D hS, lo_G hS, lr_37 hS, lr_93 hS, lr_101 hS, lr_124 hS, lr_152 hS, lr_169 hS, lr_0_0 hS, lr_0_1 hS, lr_0_2 hS, lr_0_3 hS, lr_0_5 hS, lr_0_6 hS, lr_0_7 hS, lr_0_8 hS, lr_0_9 hS, lr_0_10 hS, lr_0_11 hS, lr_0_12 hS, lr_1_0 hS, lr_1_2 hS, lr_33_0 hS, lr_33_1 hS, lr_33_2 hS, lr_33_3 hS, lr_34_0 hS, lr_89_0 hS, lr_89_1 hS, lr_89_2 hS, lr_89_3 hS, lr_89_4 hS, lr_89_5 hS, lr_100_0 hS, lr_100_1 hS, lr_123_0 hS, lr_123_1 hS, lr_146_0 hS, lr_148_0 hS, lr_148_1 hS, lr_148_2 hS, lr_148_3 hS, lr_148_4 hS, lr_148_5 hS, lr_176_0 hS, lr_176_1 hS, lr_176_4 hS, lr_176_6 hS, lr_176_7 hS, lr_182_0 hS, lr_265_1 hS, lr_265_3 hS, lr_265_4 hS, lr_265_5 hS, lr_265_6 hS, lr_265_7 hS, lr_265_8 hS, lr_265_9 hS, lr_265_10 hS, lr_265_12 hS, lr_265_13 hS, lr_265_14 hS, lr_265_15 hS, lr_265_16 hS, lr_265_17 hS, lr_265_18 hS, lr_265_19 hS, lr_265_20 hS, lr_265_21 hS, lr_265_22 hS, lr_265_23 hS, lr_265_24 hS, lr_265_25 hS, lr_265_26 hS, lr_265_27 hS, lr_265_28 hS, lr_265_29 hS, lr_265_30 hS, lr_D_0 hS, lr_D_1 hS, lr_D_2 hS, lr_D_3 hS, lr_D_5 hS, lr_D_6 hS, lr_D_r hS, lr_31 hS, lr_32 hS, lr_G_2 hS, lr_G_3 hS, lr_G_4 hS, li_2 hS, li_3 hS, li_31 hS, li_32 hS, li_35 hS, li_36 hS, li_37 hS, li_88 hS, li_90 hS, li_91 hS, li_92 hS, li_93 hS, li_98 hS, li_99 hS, li_101 hS, li_122 hS, li_124 hS, li_145 hS, li_147 hS, li_149 hS, li_150 hS, li_151 hS, li_152 hS, li_169 hS, li_175 hS, li_177 hS, li_178 hS, li_179 hS, li_180 hS, li_181 hS, li_183 hS, li_266 hS, li_267 hS, li_268 hS, li_269 hS, li_270 hS, li_271 hS, li_272 hS, li_273 hS, li_274 hS, li_275 hS, li_276 hS, li_277 hS, li_278 hS, li_279 hS, li_280 hS, li_281 hS, li_282 hS, li_283 hS, li_284 hS, li_285 hS, li_286 hS, li_287 hS, li_288 hS, li_289 hS, li_290 hS, li_291 hS, li_292 hS, li_293 hS, li_294 hS, li_38 hS, li_94 hS, li_102 hS, li_125 hS, li_153 hS, li_170 hS, li_D_1 hS, li_D_2 hS, li_D_3 hS, li_D_4 hS, li_D_5 hS, li_D_26 hS, li_D_r hS, li_G_1 hS, li_G_2 hS, li_G_3 hS, il_0, il_1, il_2, il_3, il_4, il_5, il_6, il_7, il_8, il_9, il_10, il_11, il_12, il_15, il_16, il_17, il_18, il_20, il_27, il_31, il_32, il_35, il_36, il_40, il_43, il_44, il_46, il_47, il_49, il_50, il_80, il_99, il_100, il_108, il_111, il_127, il_235, il_250, il_640, il_971, il_972, il_999, il_1000, il_1024, il_2500, il_4444, il_9999, il_2147483647, nI_add, nI_mulI, nI_subI, nI_divI, nI_cl, nI_leJ, nI_ltJ, nI_eqJ, nI_neM, nI_neM', aw_sI_e, aw_sI_n, aw_sI_2, aw_sL_e, aw_sL_n, aw_sL_1, Option.bind_some, aw_chkT, ck_and0, ck_and1, bI_t, bI_f, nar_0, nar_1]
      rw [if_neg (by omega)]
      have hM := hM0.frH F (by omega)
      have hU : Us A D d := ⟨fun w hw => (hU0.1 w hw).x (F 284 (by omega)).1 (F 285 (by omega)).1, fun w hw => by rw [(F 291 (by omega)).2]; exact hU0.2.1 w hw, fun j hj => by rw [(F 289 (by omega)).1]; exact hU0.2.2 j hj⟩
      have hq' : ∀ k, k < n → d.1 289 k = nI (u k) := fun k hk => by rw [(F 289 (by omega)).1]; exact hq k hk
      have q2 := M_read hS hW hM hD hU.2.1 (s := mS u n i)
      have FIN : ∀ v : Int32, v = dI (if i = 0 then 1 else 0) → ok (f_X11_leastCost_L145 σ aw_FU (fun d_34 => f_X11_leastCost_L52 σ f k 265 (nI n) (nI (i + 1)) d_34) 265 (nI n) (nI i) (nL (mS u n i)) (nI (nS n i)) (nI (rdW A D (mS u n i))) (nI 0) (aw_sI d 292 i v)) Q := fun v hv => by
        refine M_lc_L145 hS hW (hM.w_x (by omega)) hD (d0 := aw_sI d 292 i v) ⟨fun w hw => (hU.1 w hw).x (by funext b; exact aw_sI_n (by omega)) (by funext b; exact aw_sI_n (by omega)), fun w hw => hU.2.1 w hw, fun j hj => by rw [aw_sI_n (by omega)]; exact hU.2.2 j hj⟩ hn (show i < 2 ^ n by omega) hu (fun k hk => by rw [aw_sI_n (by omega)]; exact hq' k hk) (fun d' a1 a2 a3 => ?_) n 0 aw_FU _ (by omega) (by show _ < 5000; omega) (by rw [aw_sI_e rfl rfl, hv]; rfl) (fun x hx => by rw [aw_sI_n (by omega)]; exact g2 x hx) Fr.rf
        refine ih (i + 1) f d' (by omega) (by omega) (fun x hx => ?_) ((F.w (by omega)).tr a3)
        show _ = nI (if x = i then lcV A D u n (lcT A D u n i) i else lcT A D u n i x)
        by_cases e : x = i
        · subst e
          rw [if_pos rfl, a1]
          have hpos := lcI_pos (A := A) (D := D) (u := u) (n := n) (s := x) (z := if x = 0 then 1 else 0) (t := lcT A D u n x) n (by
            by_cases e0 : x = 0
            · right; rw [if_pos e0]; omega
            · left; exact some_bit (by omega) e0)
          rw [dI_s _ hpos]; rfl
        · rw [if_neg e]; exact a2 x (by omega)
      have h := M_lc_L68 (k := fun x4_14 x6_15 d_16 => aw_chk (aw_O σ 11 32 265) ((f_X11_read σ 265 x4_14 d_16).bind (fun z_17 => (σ.2.2 265 29).bind (fun q_20 => if nI i = nI 0 then f_X11_leastCost_J141 σ (f_X11_leastCost_L52 σ f k 265 (nI n)) (nI 0) (nI i) q_20 265 (nI n) (nI i) x4_14 x6_15 z_17.1 z_17.2 else f_X11_leastCost_J141 σ (f_X11_leastCost_L52 σ f k 265 (nI n)) (-nI 1) (nI i) q_20 265 (nI n) (nI i) x4_14 x6_15 z_17.1 z_17.2)))) hS hW hM hD hn (show i < 1024 by omega) hu hq' n 0 aw_FU (by omega) (by show _ < 5000; omega)
      simp (disch := first | assumption | omega) only [f_X11_leastCost_J141, q2, nno, lo_0 hS, lo_1 hS, lo_33 hS, lo_34 hS, lo_89 hS, lo_100 hS, lo_123 hS, lo_146 hS, lo_148 hS, lo_176 hS, lo_182 hS, lo_265 hS, lo_D hS, lo_G hS, lr_37 hS, lr_93 hS, lr_101 hS, lr_124 hS, lr_152 hS, lr_169 hS, lr_0_0 hS, lr_0_1 hS, lr_0_2 hS, lr_0_3 hS, lr_0_5 hS, lr_0_6 hS, lr_0_7 hS, lr_0_8 hS, lr_0_9 hS, lr_0_10 hS, lr_0_11 hS, lr_0_12 hS, lr_1_0 hS, lr_1_2 hS, lr_33_0 hS, lr_33_1 hS, lr_33_2 hS, lr_33_3 hS, lr_34_0 hS, lr_89_0 hS, lr_89_1 hS, lr_89_2 hS, lr_89_3 hS, lr_89_4 hS, lr_89_5 hS, lr_100_0 hS, lr_100_1 hS, lr_123_0 hS, lr_123_1 hS, lr_146_0 hS, lr_148_0 hS, lr_148_1 hS, lr_148_2 hS, lr_148_3 hS, lr_148_4 hS, lr_148_5 hS, lr_176_0 hS, lr_176_1 hS, lr_176_4 hS, lr_176_6 hS, lr_176_7 hS, lr_182_0 hS, lr_265_1 hS, lr_265_3 hS, lr_265_4 hS, lr_265_5 hS, lr_265_6 hS, lr_265_7 hS, lr_265_8 hS, lr_265_9 hS, lr_265_10 hS, lr_265_12 hS, lr_265_13 hS, lr_265_14 hS, lr_265_15 hS, lr_265_16 hS, lr_265_17 hS, lr_265_18 hS, lr_265_19 hS, lr_265_20 hS, lr_265_21 hS, lr_265_22 hS, lr_265_23 hS, lr_265_24 hS, lr_265_25 hS, lr_265_26 hS, lr_265_27 hS, lr_265_28 hS, lr_265_29 hS, lr_265_30 hS, lr_D_0 hS, lr_D_1 hS, lr_D_2 hS, lr_D_3 hS, lr_D_5 hS, lr_D_6 hS, lr_D_r hS, lr_31 hS, lr_32 hS, lr_G_2 hS, lr_G_3 hS, lr_G_4 hS, li_2 hS, li_3 hS, li_31 hS, li_32 hS, li_35 hS, li_36 hS, li_37 hS, li_88 hS, li_90 hS, li_91 hS, li_92 hS, li_93 hS, li_98 hS, li_99 hS, li_101 hS, li_122 hS, li_124 hS, li_145 hS, li_147 hS, li_149 hS, li_150 hS, li_151 hS, li_152 hS, li_169 hS, li_175 hS, li_177 hS, li_178 hS, li_179 hS, li_180 hS, li_181 hS, li_183 hS, li_266 hS, li_267 hS, li_268 hS, li_269 hS, li_270 hS, li_271 hS, li_272 hS, li_273 hS, li_274 hS, li_275 hS, li_276 hS, li_277 hS, li_278 hS, li_279 hS, li_280 hS, li_281 hS, li_282 hS, li_283 hS, li_284 hS, li_285 hS, li_286 hS, li_287 hS, li_288 hS, li_289 hS, li_290 hS, li_291 hS, li_292 hS, li_293 hS, li_294 hS, li_38 hS, li_94 hS, li_102 hS, li_125 hS, li_153 hS, li_170 hS, li_D_1 hS, li_D_2 hS, li_D_3 hS, li_D_4 hS, li_D_5 hS, li_D_26 hS, li_D_r hS, li_G_1 hS, li_G_2 hS, li_G_3 hS, il_0, il_1, il_2, il_3, il_4, il_5, il_6, il_7, il_8, il_9, il_10, il_11, il_12, il_15, il_16, il_17, il_18, il_20, il_27, il_31, il_32, il_35, il_36, il_40, il_43, il_44, il_46, il_47, il_49, il_50, il_80, il_99, il_100, il_108, il_111, il_127, il_235, il_250, il_640, il_971, il_972, il_999, il_1000, il_1024, il_2500, il_4444, il_9999, il_2147483647, nI_add, nI_mulI, nI_subI, nI_divI, nI_cl, nI_leJ, nI_ltJ, nI_eqJ, nI_neM, nI_neM', aw_sI_e, aw_sI_n, aw_sI_2, aw_sL_e, aw_sL_n, aw_sL_1, Option.bind_some, aw_chkT, ck_and0, ck_and1, bI_t, bI_f, nar_0, nar_1] at h
      have e1 : mS u 0 i = 0 := rfl
      have e2 : nS 0 i = 0 := rfl
      rw [e1, e2] at h
      simp (disch := first | assumption | omega) only [f_X11_leastCost_J141, jl_0, nno, lo_0 hS, lo_1 hS, lo_33 hS, lo_34 hS, lo_89 hS, lo_100 hS, lo_123 hS, lo_146 hS, lo_148 hS, lo_176 hS, lo_182 hS, lo_265 hS, lo_D hS, lo_G hS, lr_37 hS, lr_93 hS, lr_101 hS, lr_124 hS, lr_152 hS, lr_169 hS, lr_0_0 hS, lr_0_1 hS, lr_0_2 hS, lr_0_3 hS, lr_0_5 hS, lr_0_6 hS, lr_0_7 hS, lr_0_8 hS, lr_0_9 hS, lr_0_10 hS, lr_0_11 hS, lr_0_12 hS, lr_1_0 hS, lr_1_2 hS, lr_33_0 hS, lr_33_1 hS, lr_33_2 hS, lr_33_3 hS, lr_34_0 hS, lr_89_0 hS, lr_89_1 hS, lr_89_2 hS, lr_89_3 hS, lr_89_4 hS, lr_89_5 hS, lr_100_0 hS, lr_100_1 hS, lr_123_0 hS, lr_123_1 hS, lr_146_0 hS, lr_148_0 hS, lr_148_1 hS, lr_148_2 hS, lr_148_3 hS, lr_148_4 hS, lr_148_5 hS, lr_176_0 hS, lr_176_1 hS, lr_176_4 hS, lr_176_6 hS, lr_176_7 hS, lr_182_0 hS, lr_265_1 hS, lr_265_3 hS, lr_265_4 hS, lr_265_5 hS, lr_265_6 hS, lr_265_7 hS, lr_265_8 hS, lr_265_9 hS, lr_265_10 hS, lr_265_12 hS, lr_265_13 hS, lr_265_14 hS, lr_265_15 hS, lr_265_16 hS, lr_265_17 hS, lr_265_18 hS, lr_265_19 hS, lr_265_20 hS, lr_265_21 hS, lr_265_22 hS, lr_265_23 hS, lr_265_24 hS, lr_265_25 hS, lr_265_26 hS, lr_265_27 hS, lr_265_28 hS, lr_265_29 hS, lr_265_30 hS, lr_D_0 hS, lr_D_1 hS, lr_D_2 hS, lr_D_3 hS, lr_D_5 hS, lr_D_6 hS, lr_D_r hS, lr_31 hS, lr_32 hS, lr_G_2 hS, lr_G_3 hS, lr_G_4 hS, li_2 hS, li_3 hS, li_31 hS, li_32 hS, li_35 hS, li_36 hS, li_37 hS, li_88 hS, li_90 hS, li_91 hS, li_92 hS, li_93 hS, li_98 hS, li_99 hS, li_101 hS, li_122 hS, li_124 hS, li_145 hS, li_147 hS, li_149 hS, li_150 hS, li_151 hS, li_152 hS, li_169 hS, li_175 hS, li_177 hS, li_178 hS, li_179 hS, li_180 hS, li_181 hS, li_183 hS, li_266 hS, li_267 hS, li_268 hS, li_269 hS, li_270 hS, li_271 hS, li_272 hS, li_273 hS, li_274 hS, li_275 hS, li_276 hS, li_277 hS, li_278 hS, li_279 hS, li_280 hS, li_281 hS, li_282 hS, li_283 hS, li_284 hS, li_285 hS, li_286 hS, li_287 hS, li_288 hS, li_289 hS, li_290 hS, li_291 hS, li_292 hS, li_293 hS, li_294 hS, li_38 hS, li_94 hS, li_102 hS, li_125 hS, li_153 hS, li_170 hS, li_D_1 hS, li_D_2 hS, li_D_3 hS, li_D_4 hS, li_D_5 hS, li_D_26 hS, li_D_r hS, li_G_1 hS, li_G_2 hS, li_G_3 hS, il_0, il_1, il_2, il_3, il_4, il_5, il_6, il_7, il_8, il_9, il_10, il_11, il_12, il_15, il_16, il_17, il_18, il_20, il_27, il_31, il_32, il_35, il_36, il_40, il_43, il_44, il_46, il_47, il_49, il_50, il_80, il_99, il_100, il_108, il_111, il_127, il_235, il_250, il_640, il_971, il_972, il_999, il_1000, il_1024, il_2500, il_4444, il_9999, il_2147483647, nI_add, nI_mulI, nI_subI, nI_divI, nI_cl, nI_leJ, nI_ltJ, nI_eqJ, nI_neM, nI_neM', aw_sI_e, aw_sI_n, aw_sI_2, aw_sL_e, aw_sL_n, aw_sL_1, Option.bind_some, aw_chkT, ck_and0, ck_and1, bI_t, bI_f, nar_0, nar_1]
      rw [h]
      by_cases e : i = 0
      · rw [if_pos e]
        exact FIN _ (by rw [if_pos e]; rfl)
      · rw [if_neg e]
        exact FIN _ (by rw [if_neg e]; rfl)

