/-! spellings: what they are -/
/-- the signs of a syllable -/
def syl (A : St) (D c : Nat) : List Nat :=
  ((if A 12 0 D = 0 then (if ofc c 0 = 8 then [] else [A 14 D (ofc c 0)]) ++ [A 14 D (8 + ofc c 1)] else [A 14 D (4 * ofc c 0 + ofc c 1)]) ++ (if A 15 D (ofc c 3) = 0 then [] else [A 14 D (44 + ofc c 3)])) ++ (if ofc c 2 = 8 then [] else [A 14 D ((if A 12 0 D = 0 then 0 else 36) + ofc c 2)])
/-- the spelling of so many syllables of a word -/
def spl (A : St) (D b w : Nat) : Nat → List Nat
  | 0 => []
  | k + 1 => spl A D b w k ++ syl A D (spk A b w k)
def sp (A : St) (D b w : Nat) : List Nat := spl A D b w (A 3 0 w)
theorem syl_len (A : St) (D c : Nat) : 1 ≤ (syl A D c).length ∧ (syl A D c).length ≤ 4 := by
  unfold syl
  by_cases h1 : A 12 0 D = 0 <;> by_cases h2 : ofc c 0 = 8 <;> by_cases h3 : A 15 D (ofc c 3) = 0 <;> by_cases h4 : ofc c 2 = 8 <;> simp [h1, h2, h3, h4]
theorem spl_len (A : St) (D b w k : Nat) : k ≤ (spl A D b w k).length ∧ (spl A D b w k).length ≤ 4 * k := by
  induction k with
  | zero => simp [spl]
  | succ k ih =>
    have h := syl_len A D (spk A b w k)
    simp only [spl, List.length_append]; omega
/-- a list written -/
def Wr (c s : Nat) (l : List Nat) (d d' : Dt) : Prop := (∀ i, i < l.length → d'.1 c (s + i) = nI (l.getD i 0)) ∧ (∀ a b, ¬ (a = c ∧ s ≤ b ∧ b < s + l.length) → d'.1 a b = d.1 a b) ∧ d'.2 = d.2
theorem Wr.nil {c s : Nat} {d : Dt} : Wr c s [] d d := ⟨fun i hi => by simp at hi, fun _ _ _ => rfl, rfl⟩
theorem Wr.snoc {c s v : Nat} {l : List Nat} {d d' : Dt} (h : Wr c s l d d') : Wr c s (l ++ [v]) d (aw_sI d' c (s + l.length) (nI v)) := by
  refine ⟨fun i hi => ?_, fun a b hab => ?_, h.2.2⟩
  · simp only [List.length_append, List.length_cons, List.length_nil] at hi
    by_cases e : i = l.length
    · subst e
      rw [aw_sI_e rfl rfl]
      simp [List.getD_eq_getElem?_getD]
    · rw [aw_sI_n (by omega), h.1 i (by omega)]
      congr 1
      simp only [List.getD_eq_getElem?_getD]
      rw [List.getElem?_append_left (by omega)]
  · simp only [List.length_append, List.length_cons, List.length_nil] at hab
    rw [aw_sI_n (by omega), h.2.1 a b (by omega)]
theorem Wr.app {c s : Nat} {l1 l2 : List Nat} {d d1 d2 : Dt} (h : Wr c s l1 d d1) (g : Wr c (s + l1.length) l2 d1 d2) : Wr c s (l1 ++ l2) d d2 := by
  refine ⟨fun i hi => ?_, fun a b hab => ?_, g.2.2.trans h.2.2⟩
  · rw [List.length_append] at hi
    simp only [List.getD_eq_getElem?_getD]
    by_cases e : i < l1.length
    · rw [g.2.1 c (s + i) (by omega), h.1 i e, List.getElem?_append_left e, List.getD_eq_getElem?_getD]
    · have h1 := g.1 (i - l1.length) (by omega)
      rw [show s + l1.length + (i - l1.length) = s + i by omega] at h1
      rw [List.getElem?_append_right (by omega), ← List.getD_eq_getElem?_getD, ← h1]
  · rw [List.length_append] at hab
    rw [g.2.1 a b (by omega), h.2.1 a b (by omega)]
theorem Wr.o {c s : Nat} {l : List Nat} {d d' : Dt} (h : Wr c s l d d') {a : Nat} (ha : a ≠ c) : d'.1 a = d.1 a := by
  funext b; exact h.2.1 a b (by omega)
/-- cells from lo to hi alone -/
def Fr (lo hi : Nat) (d d' : Dt) : Prop := ∀ c, ¬ (lo ≤ c ∧ c ≤ hi) → d'.1 c = d.1 c ∧ d'.2 c = d.2 c
theorem Fr.rf {lo hi : Nat} {d : Dt} : Fr lo hi d d := fun _ _ => ⟨rfl, rfl⟩
theorem Fr.tr {lo hi : Nat} {a b c : Dt} (h : Fr lo hi a b) (g : Fr lo hi b c) : Fr lo hi a c := fun k hk => ⟨(g k hk).1.trans (h k hk).1, (g k hk).2.trans (h k hk).2⟩
theorem Fr.mono {lo hi lo' hi' : Nat} {a b : Dt} (h : Fr lo hi a b) (h1 : lo' ≤ lo) (h2 : hi ≤ hi') : Fr lo' hi' a b := fun k hk => h k (by omega)
theorem Fr.w {lo hi : Nat} {a b : Dt} {c j : Nat} {v : Int32} (hc : lo ≤ c ∧ c ≤ hi) (h : Fr lo hi a b) : Fr lo hi a (aw_sI b c j v) := fun k hk => ⟨by rw [← (h k hk).1]; funext i; exact aw_sI_n (by omega), (h k hk).2⟩
theorem Fr.wl {lo hi : Nat} {a b : Dt} {c j : Nat} {v : Int64} (hc : lo ≤ c ∧ c ≤ hi) (h : Fr lo hi a b) : Fr lo hi a (aw_sL b c j v) := fun k hk => ⟨(h k hk).1, by rw [← (h k hk).2]; funext i; exact aw_sL_n (by omega)⟩
theorem Wr.fr {c s : Nat} {l : List Nat} {d d' : Dt} (h : Wr c s l d d') : Fr c c d d' := fun a ha => ⟨h.o (by omega), by rw [h.2.2]⟩
theorem RepM.frH {A : St} {lo hi : Nat} {d d' : Dt} (h : RepM A d) (F : Fr lo hi d d') (h1 : 284 ≤ lo) : RepM A d' := h.scr (fun k hk => (F k (by omega)).1) (fun j _ => by rw [(F 265 (by omega)).1])
theorem Fr.frM {lo hi : Nat} {d d' : Dt} (F : Fr lo hi d d') (h1 : 265 ≤ lo) (h2 : hi ≤ 293) : FrM d d' := fun k hk => F k (by omega)
/-! the model: a word spoken -/
theorem M_of {σ : Sg} {d : Dt} {c p : Nat} (hc : c < 2147483648) (hp : p < 4) : f_X11_of σ (nI c) (nI p) d = some (nI (ofc c p), d) := by
  rcases (show p = 0 ∨ p = 1 ∨ p = 2 ∨ p = 3 by omega) with rfl | rfl | rfl | rfl
  · simp (disch := first | assumption | omega) [f_X11_of_J42, f_X11_of, ofc, il_0, il_1, il_2, il_3, il_4, il_5, il_6, il_7, il_8, il_9, il_10, il_11, il_12, il_15, il_16, il_17, il_18, il_20, il_27, il_31, il_32, il_35, il_36, il_40, il_43, il_44, il_46, il_47, il_49, il_50, il_80, il_99, il_100, il_108, il_111, il_127, il_235, il_250, il_640, il_971, il_972, il_999, il_1000, il_1024, il_2500, il_4444, il_9999, il_2147483647, nI_add, nI_mulI, nI_subI, nI_divI, nI_cl, nI_leJ, nI_ltJ, nI_eqJ, nI_neM, nI_neM']
  · have e : c / 27 - c / 27 / 4 * 4 = c / 27 % 4 := by omega
    simp (disch := first | assumption | omega) [f_X11_of_J42, f_X11_of, ofc, e, il_0, il_1, il_2, il_3, il_4, il_5, il_6, il_7, il_8, il_9, il_10, il_11, il_12, il_15, il_16, il_17, il_18, il_20, il_27, il_31, il_32, il_35, il_36, il_40, il_43, il_44, il_46, il_47, il_49, il_50, il_80, il_99, il_100, il_108, il_111, il_127, il_235, il_250, il_640, il_971, il_972, il_999, il_1000, il_1024, il_2500, il_4444, il_9999, il_2147483647, nI_add, nI_mulI, nI_subI, nI_divI, nI_cl, nI_leJ, nI_ltJ, nI_eqJ, nI_neM, nI_neM']
  · have e : c / 3 - c / 3 / 9 * 9 = c / 3 % 9 := by omega
    simp (disch := first | assumption | omega) [f_X11_of_J42, f_X11_of, ofc, e, il_0, il_1, il_2, il_3, il_4, il_5, il_6, il_7, il_8, il_9, il_10, il_11, il_12, il_15, il_16, il_17, il_18, il_20, il_27, il_31, il_32, il_35, il_36, il_40, il_43, il_44, il_46, il_47, il_49, il_50, il_80, il_99, il_100, il_108, il_111, il_127, il_235, il_250, il_640, il_971, il_972, il_999, il_1000, il_1024, il_2500, il_4444, il_9999, il_2147483647, nI_add, nI_mulI, nI_subI, nI_divI, nI_cl, nI_leJ, nI_ltJ, nI_eqJ, nI_neM, nI_neM']
  · have e : c - c / 3 * 3 = c % 3 := by omega
    simp (disch := first | assumption | omega) [f_X11_of_J42, f_X11_of, ofc, e, il_0, il_1, il_2, il_3, il_4, il_5, il_6, il_7, il_8, il_9, il_10, il_11, il_12, il_15, il_16, il_17, il_18, il_20, il_27, il_31, il_32, il_35, il_36, il_40, il_43, il_44, il_46, il_47, il_49, il_50, il_80, il_99, il_100, il_108, il_111, il_127, il_235, il_250, il_640, il_971, il_972, il_999, il_1000, il_1024, il_2500, il_4444, il_9999, il_2147483647, nI_add, nI_mulI, nI_subI, nI_divI, nI_cl, nI_leJ, nI_ltJ, nI_eqJ, nI_neM, nI_neM']
theorem M_times {σ : Sg} {d : Dt} {p : Nat} (hp : p < 4) : f_X11_times σ (nI p) d = some (nI (stp p), d) := by
  rcases (show p = 0 ∨ p = 1 ∨ p = 2 ∨ p = 3 by omega) with rfl | rfl | rfl | rfl <;> simp (disch := first | assumption | omega) [f_X11_times_J29, f_X11_times, stp, il_0, il_1, il_2, il_3, il_4, il_5, il_6, il_7, il_8, il_9, il_10, il_11, il_12, il_15, il_16, il_17, il_18, il_20, il_27, il_31, il_32, il_35, il_36, il_40, il_43, il_44, il_46, il_47, il_49, il_50, il_80, il_99, il_100, il_108, il_111, il_127, il_235, il_250, il_640, il_971, il_972, il_999, il_1000, il_1024, il_2500, il_4444, il_9999, il_2147483647, nI_add, nI_mulI, nI_subI, nI_divI, nI_cl, nI_leJ, nI_ltJ, nI_eqJ, nI_neM, nI_neM']

theorem M_speaks_L2 {A : St} {σ : Sg} {d0 : Dt} {w : Nat} {Q : Unit × Dt → Prop} (hS : Lay σ) (hW : WF A) (hM0 : RepM A d0) (hw : w < A 2 0 0) {xb : Int32} {k : Dt → Option (Unit × Dt)} (hk : ∀ d', (∀ j, j < A 3 0 w → d'.1 286 j = nI (A 4 w j)) → Fr 286 286 d0 d' → ok (k d') Q) : ∀ (m i f : Nat) (d : Dt), i + m = A 3 0 w → m < f → (∀ j, j < i → d.1 286 j = nI (A 4 w j)) → Fr 286 286 d0 d → ok (f_X11_speaks_L2 σ f k 265 xb (nI w) (nI i) d) Q := by
  have w2 := hW.words
  have hl := (hW.w hw).2.1
  intro m
  induction m with
  | zero =>
    intro i f d hi hf g1 F
    cases f with
    | zero => omega
    | succ f =>
      have hM := hM0.frH F (by omega)
      have q1 := rm_len hM (show w < 20 by omega)
      show ok (f_X11_speaks_B2 σ (f_X11_speaks_L2 σ f k 265 xb (nI w)) k 265 xb (nI w) (nI i) d) Q
      simp (disch := first | assumption | omega) only [f_X11_speaks_B2, q1, lo_0 hS, lo_1 hS, lo_33 hS, lo_34 hS, lo_89 hS, lo_100 hS, lo_123 hS, lo_146 hS, lo_148 hS, lo_176 hS, lo_182 hS, lo_265 hS, lo_D hS, lo_G hS, lr_37 hS, lr_93 hS, lr_101 hS, lr_124 hS, lr_152 hS, lr_169 hS, lr_0_0 hS, lr_0_1 hS, lr_0_2 hS, lr_0_3 hS, lr_0_5 hS, lr_0_6 hS, lr_0_7 hS, lr_0_8 hS, lr_0_9 hS, lr_0_10 hS, lr_0_11 hS, lr_0_12 hS, lr_1_0 hS, lr_1_2 hS, lr_33_0 hS, lr_33_1 hS, lr_33_2 hS, lr_33_3 hS, lr_34_0 hS, lr_89_0 hS, lr_89_1 hS, lr_89_2 hS, lr_89_3 hS, lr_89_4 hS, lr_89_5 hS, lr_100_0 hS, lr_100_1 hS, lr_123_0 hS, lr_123_1 hS, lr_146_0 hS, lr_148_0 hS, lr_148_1 hS, lr_148_2 hS, lr_148_3 hS, lr_148_4 hS, lr_148_5 hS, lr_176_0 hS, lr_176_1 hS, lr_176_4 hS, lr_176_6 hS, lr_176_7 hS, lr_182_0 hS, lr_265_1 hS, lr_265_3 hS, lr_265_4 hS, lr_265_5 hS, lr_265_6 hS, lr_265_7 hS, lr_265_8 hS, lr_265_9 hS, lr_265_10 hS, lr_265_12 hS, lr_265_13 hS, lr_265_14 hS, lr_265_15 hS, lr_265_16 hS, lr_265_17 hS, lr_265_18 hS, lr_265_19 hS, lr_265_20 hS, lr_265_21 hS, lr_265_22 hS, lr_265_23 hS, lr_265_24 hS, lr_265_25 hS, lr_265_26 hS, lr_265_27 hS, lr_265_28 hS, lr_265_29 hS, lr_265_30 hS, lr_D_0 hS, lr_D_1 hS, lr_D_2 hS, lr_D_3 hS, lr_D_5 hS, lr_D_6 hS, lr_D_r hS, lr_31 hS, lr_32 hS, lr_G_2 hS, lr_G_3 hS, lr_G_4 hS, li_2 hS, li_3 hS, li_31 hS, li_32 hS, li_35 hS, li_36 hS, li_37 hS, li_88 hS, li_90 hS, li_91 hS, li_92 hS, li_93 hS, li_98 hS, li_99 hS, li_101 hS, li_122 hS, li_124 hS, li_145 hS, li_147 hS, li_149 hS, li_150 hS, li_151 hS, li_152 hS, li_169 hS, li_175 hS, li_177 hS, li_178 hS, li_179 hS, li_180 hS, li_181 hS, li_183 hS, li_266 hS, li_267 hS, li_268 hS, li_269 hS, li_270 hS, li_271 hS, li_272 hS, li_273 hS, li_274 hS, li_275 hS, li_276 hS, li_277 hS, li_278 hS, li_279 hS, li_280 hS, li_281 hS, li_282 hS, li_283 hS, li_284 hS, li_285 hS, li_286 hS, li_287 hS, li_288 hS, li_289 hS, li_290 hS, li_291 hS, li_292 hS, li_293 hS, li_294 hS, li_38 hS, li_94 hS, li_102 hS, li_125 hS, li_153 hS, li_170 hS, li_D_1 hS, li_D_2 hS, li_D_3 hS, li_D_4 hS, li_D_5 hS, li_D_26 hS, li_D_r hS, li_G_1 hS, li_G_2 hS, li_G_3 hS, il_0, il_1, il_2, il_3, il_4, il_5, il_6, il_7, il_8, il_9, il_10, il_11, il_12, il_15, il_16, il_17, il_18, il_20, il_27, il_31, il_32, il_35, il_36, il_40, il_43, il_44, il_46, il_47, il_49, il_50, il_80, il_99, il_100, il_108, il_111, il_127, il_235, il_250, il_640, il_971, il_972, il_999, il_1000, il_1024, il_2500, il_4444, il_9999, il_2147483647, nI_add, nI_mulI, nI_subI, nI_divI, nI_cl, nI_leJ, nI_ltJ, nI_eqJ, nI_neM, nI_neM', aw_sI_e, aw_sI_n, aw_sI_2, aw_sL_e, aw_sL_n, aw_sL_1, Option.bind_some, aw_chkT, ck_and0, ck_and1, bI_t, bI_f, nar_0, nar_1]
      rw [if_pos (by omega)]
      exact hk d (fun j hj => g1 j (by omega)) F
  | succ m ih =>
    intro i f d hi hf g1 F
    cases f with
    | zero => omega
    | succ f =>
      have hM := hM0.frH F (by omega)
      have q1 := rm_len hM (show w < 20 by omega)
      show ok (f_X11_speaks_B2 σ (f_X11_speaks_L2 σ f k 265 xb (nI w)) k 265 xb (nI w) (nI i) d) Q
      simp (disch := first | assumption | omega) only [f_X11_speaks_B2, q1, lo_0 hS, lo_1 hS, lo_33 hS, lo_34 hS, lo_89 hS, lo_100 hS, lo_123 hS, lo_146 hS, lo_148 hS, lo_176 hS, lo_182 hS, lo_265 hS, lo_D hS, lo_G hS, lr_37 hS, lr_93 hS, lr_101 hS, lr_124 hS, lr_152 hS, lr_169 hS, lr_0_0 hS, lr_0_1 hS, lr_0_2 hS, lr_0_3 hS, lr_0_5 hS, lr_0_6 hS, lr_0_7 hS, lr_0_8 hS, lr_0_9 hS, lr_0_10 hS, lr_0_11 hS, lr_0_12 hS, lr_1_0 hS, lr_1_2 hS, lr_33_0 hS, lr_33_1 hS, lr_33_2 hS, lr_33_3 hS, lr_34_0 hS, lr_89_0 hS, lr_89_1 hS, lr_89_2 hS, lr_89_3 hS, lr_89_4 hS, lr_89_5 hS, lr_100_0 hS, lr_100_1 hS, lr_123_0 hS, lr_123_1 hS, lr_146_0 hS, lr_148_0 hS, lr_148_1 hS, lr_148_2 hS, lr_148_3 hS, lr_148_4 hS, lr_148_5 hS, lr_176_0 hS, lr_176_1 hS, lr_176_4 hS, lr_176_6 hS, lr_176_7 hS, lr_182_0 hS, lr_265_1 hS, lr_265_3 hS, lr_265_4 hS, lr_265_5 hS, lr_265_6 hS, lr_265_7 hS, lr_265_8 hS, lr_265_9 hS, lr_265_10 hS, lr_265_12 hS, lr_265_13 hS, lr_265_14 hS, lr_265_15 hS, lr_265_16 hS, lr_265_17 hS, lr_265_18 hS, lr_265_19 hS, lr_265_20 hS, lr_265_21 hS, lr_265_22 hS, lr_265_23 hS, lr_265_24 hS, lr_265_25 hS, lr_265_26 hS, lr_265_27 hS, lr_265_28 hS, lr_265_29 hS, lr_265_30 hS, lr_D_0 hS, lr_D_1 hS, lr_D_2 hS, lr_D_3 hS, lr_D_5 hS, lr_D_6 hS, lr_D_r hS, lr_31 hS, lr_32 hS, lr_G_2 hS, lr_G_3 hS, lr_G_4 hS, li_2 hS, li_3 hS, li_31 hS, li_32 hS, li_35 hS, li_36 hS, li_37 hS, li_88 hS, li_90 hS, li_91 hS, li_92 hS, li_93 hS, li_98 hS, li_99 hS, li_101 hS, li_122 hS, li_124 hS, li_145 hS, li_147 hS, li_149 hS, li_150 hS, li_151 hS, li_152 hS, li_169 hS, li_175 hS, li_177 hS, li_178 hS, li_179 hS, li_180 hS, li_181 hS, li_183 hS, li_266 hS, li_267 hS, li_268 hS, li_269 hS, li_270 hS, li_271 hS, li_272 hS, li_273 hS, li_274 hS, li_275 hS, li_276 hS, li_277 hS, li_278 hS, li_279 hS, li_280 hS, li_281 hS, li_282 hS, li_283 hS, li_284 hS, li_285 hS, li_286 hS, li_287 hS, li_288 hS, li_289 hS, li_290 hS, li_291 hS, li_292 hS, li_293 hS, li_294 hS, li_38 hS, li_94 hS, li_102 hS, li_125 hS, li_153 hS, li_170 hS, li_D_1 hS, li_D_2 hS, li_D_3 hS, li_D_4 hS, li_D_5 hS, li_D_26 hS, li_D_r hS, li_G_1 hS, li_G_2 hS, li_G_3 hS, il_0, il_1, il_2, il_3, il_4, il_5, il_6, il_7, il_8, il_9, il_10, il_11, il_12, il_15, il_16, il_17, il_18, il_20, il_27, il_31, il_32, il_35, il_36, il_40, il_43, il_44, il_46, il_47, il_49, il_50, il_80, il_99, il_100, il_108, il_111, il_127, il_235, il_250, il_640, il_971, il_972, il_999, il_1000, il_1024, il_2500, il_4444, il_9999, il_2147483647, nI_add, nI_mulI, nI_subI, nI_divI, nI_cl, nI_leJ, nI_ltJ, nI_eqJ, nI_neM, nI_neM', aw_sI_e, aw_sI_n, aw_sI_2, aw_sL_e, aw_sL_n, aw_sL_1, Option.bind_some, aw_chkT, ck_and0, ck_and1, bI_t, bI_f, nar_0, nar_1]
      rw [if_neg (by omega)]
      have q2 := rm_row hM (show w < 20 by omega) (show i < 4 by omega)
      rw [q2]
      refine ih (i + 1) f _ (by omega) (by omega) (fun j hj => ?_) (F.w (by omega))
      by_cases e : j = i
      · rw [aw_sI_e rfl e, e]
      · rw [aw_sI_n (by omega)]; exact g1 j (by omega)

theorem nvv_id {p f t b n k r : Nat} (h : ¬ (b = 0 ∨ k + 1 = n)) : nvv p f t b n k r = r := by unfold nvv; rw [if_neg h]
theorem M_speaks_L82 {A : St} {σ : Sg} {d0 : Dt} {w s : Nat} {Q : Unit × Dt → Prop} (hS : Lay σ) (hW : WF A) (hM0 : RepM A d0) (hw : w < A 2 0 0) {x c b : Nat} {xb : Int32} {r : Nat → Nat} {k : Dt → Option (Unit × Dt)} (hx : x < 3) (hc : c < A 6 0 x) (hr : ∀ k, k < A 3 0 w → r k < 972) (hs : s = if A 10 x c = 0 then 0 else A 3 0 w - 1)
    (hk : ∀ d', (∀ j, j < A 3 0 w → d'.1 286 j = nI (nvv (A 7 x c) (A 8 x c) (A 9 x c) (A 10 x c) (A 3 0 w) j (r j))) → Fr 286 286 d0 d' → ok (k d') Q) :
    ∀ (m i f : Nat) (d : Dt), i + m = A 3 0 w → m < f → s ≤ i → (∀ j, j < A 3 0 w → d.1 286 j = nI (if j < i then nvv (A 7 x c) (A 8 x c) (A 9 x c) (A 10 x c) (A 3 0 w) j (r j) else r j)) → Fr 286 286 d0 d → ok (f_X11_speaks_L82 σ f k 265 xb (nI w) (nI (6 * x + c)) (nI i) d) Q := by
  have w2 := hW.words
  have hl := hW.w hw
  have hx6 := (hW.x hx).1
  obtain ⟨c1, c2, c3, c4⟩ := (hW.x hx).2 c hc
  have hv9 := vals9 (A 7 x c)
  intro m
  induction m with
  | zero =>
    intro i f d hi hf hs1 g1 F
    cases f with
    | zero => omega
    | succ f =>
      have hM := hM0.frH F (by omega)
      have q1 := rm_len hM (show w < 20 by omega)
      have e0 : A 3 0 w ≤ i := by omega
      show ok (f_X11_speaks_B82 σ (f_X11_speaks_L82 σ f k 265 xb (nI w) (nI (6 * x + c))) k 265 xb (nI w) (nI (6 * x + c)) (nI i) d) Q
      simp (disch := first | assumption | omega) only [f_X11_speaks_B82, q1, lo_0 hS, lo_1 hS, lo_33 hS, lo_34 hS, lo_89 hS, lo_100 hS, lo_123 hS, lo_146 hS, lo_148 hS, lo_176 hS, lo_182 hS, lo_265 hS, lo_D hS, lo_G hS, lr_37 hS, lr_93 hS, lr_101 hS, lr_124 hS, lr_152 hS, lr_169 hS, lr_0_0 hS, lr_0_1 hS, lr_0_2 hS, lr_0_3 hS, lr_0_5 hS, lr_0_6 hS, lr_0_7 hS, lr_0_8 hS, lr_0_9 hS, lr_0_10 hS, lr_0_11 hS, lr_0_12 hS, lr_1_0 hS, lr_1_2 hS, lr_33_0 hS, lr_33_1 hS, lr_33_2 hS, lr_33_3 hS, lr_34_0 hS, lr_89_0 hS, lr_89_1 hS, lr_89_2 hS, lr_89_3 hS, lr_89_4 hS, lr_89_5 hS, lr_100_0 hS, lr_100_1 hS, lr_123_0 hS, lr_123_1 hS, lr_146_0 hS, lr_148_0 hS, lr_148_1 hS, lr_148_2 hS, lr_148_3 hS, lr_148_4 hS, lr_148_5 hS, lr_176_0 hS, lr_176_1 hS, lr_176_4 hS, lr_176_6 hS, lr_176_7 hS, lr_182_0 hS, lr_265_1 hS, lr_265_3 hS, lr_265_4 hS, lr_265_5 hS, lr_265_6 hS, lr_265_7 hS, lr_265_8 hS, lr_265_9 hS, lr_265_10 hS, lr_265_12 hS, lr_265_13 hS, lr_265_14 hS, lr_265_15 hS, lr_265_16 hS, lr_265_17 hS, lr_265_18 hS, lr_265_19 hS, lr_265_20 hS, lr_265_21 hS, lr_265_22 hS, lr_265_23 hS, lr_265_24 hS, lr_265_25 hS, lr_265_26 hS, lr_265_27 hS, lr_265_28 hS, lr_265_29 hS, lr_265_30 hS, lr_D_0 hS, lr_D_1 hS, lr_D_2 hS, lr_D_3 hS, lr_D_5 hS, lr_D_6 hS, lr_D_r hS, lr_31 hS, lr_32 hS, lr_G_2 hS, lr_G_3 hS, lr_G_4 hS, li_2 hS, li_3 hS, li_31 hS, li_32 hS, li_35 hS, li_36 hS, li_37 hS, li_88 hS, li_90 hS, li_91 hS, li_92 hS, li_93 hS, li_98 hS, li_99 hS, li_101 hS, li_122 hS, li_124 hS, li_145 hS, li_147 hS, li_149 hS, li_150 hS, li_151 hS, li_152 hS, li_169 hS, li_175 hS, li_177 hS, li_178 hS, li_179 hS, li_180 hS, li_181 hS, li_183 hS, li_266 hS, li_267 hS, li_268 hS, li_269 hS, li_270 hS, li_271 hS, li_272 hS, li_273 hS, li_274 hS, li_275 hS, li_276 hS, li_277 hS, li_278 hS, li_279 hS, li_280 hS, li_281 hS, li_282 hS, li_283 hS, li_284 hS, li_285 hS, li_286 hS, li_287 hS, li_288 hS, li_289 hS, li_290 hS, li_291 hS, li_292 hS, li_293 hS, li_294 hS, li_38 hS, li_94 hS, li_102 hS, li_125 hS, li_153 hS, li_170 hS, li_D_1 hS, li_D_2 hS, li_D_3 hS, li_D_4 hS, li_D_5 hS, li_D_26 hS, li_D_r hS, li_G_1 hS, li_G_2 hS, li_G_3 hS, il_0, il_1, il_2, il_3, il_4, il_5, il_6, il_7, il_8, il_9, il_10, il_11, il_12, il_15, il_16, il_17, il_18, il_20, il_27, il_31, il_32, il_35, il_36, il_40, il_43, il_44, il_46, il_47, il_49, il_50, il_80, il_99, il_100, il_108, il_111, il_127, il_235, il_250, il_640, il_971, il_972, il_999, il_1000, il_1024, il_2500, il_4444, il_9999, il_2147483647, nI_add, nI_mulI, nI_subI, nI_divI, nI_cl, nI_leJ, nI_ltJ, nI_eqJ, nI_neM, nI_neM', aw_sI_e, aw_sI_n, aw_sI_2, aw_sL_e, aw_sL_n, aw_sL_1, Option.bind_some, aw_chkT, ck_and0, ck_and1, bI_t, bI_f, nar_0, nar_1]
      rw [if_pos e0]
      exact hk d (fun j hj => by rw [g1 j hj, if_pos (by omega)]) F
  | succ m ih =>
    intro i f d hi hf hs1 g1 F
    cases f with
    | zero => omega
    | succ f =>
      have hM := hM0.frH F (by omega)
      have q1 := rm_len hM (show w < 20 by omega)
      have q2 := rm_part hM hx (show c < 6 by omega)
      have q3 := rm_fr hM hx (show c < 6 by omega)
      have q4 := rm_to hM hx (show c < 6 by omega)
      have qr : d.1 286 i = nI (r i) := by rw [g1 i (by omega), if_neg (by omega)]
      have hri := hr i (by omega)
      have hofc : ofc (r i) (A 7 x c) < 9 := Nat.lt_of_lt_of_le (ofc_lt hri c1) (vals9 _)
      have e0 : ¬ A 3 0 w ≤ i := by omega
      have hm : A 10 x c = 0 ∨ i + 1 = A 3 0 w := by
        by_cases e : A 10 x c = 0
        · exact Or.inl e
        · rw [if_neg e] at hs; right; omega
      have IHs : ∀ d2, d2.1 286 i = nI (alt1 (A 7 x c) (A 8 x c) (A 9 x c) (r i)) → (∀ k, k ≠ i → d2.1 286 k = d.1 286 k) → Fr 286 286 d d2 → ok (f_X11_speaks_L82 σ f k 265 xb (nI w) (nI (6 * x + c)) (nI (i + 1)) d2) Q := by
        intro d2 a1 a2 a3
        refine ih (i + 1) f d2 (by omega) (by omega) (by omega) (fun j hj => ?_) (F.tr a3)
        by_cases e : j = i
        · subst e; rw [a1, if_pos (by omega)]; unfold nvv; rw [if_pos hm]
        · rw [a2 j e, g1 j hj]
          by_cases e2 : j < i
          · rw [if_pos e2, if_pos (by omega)]
          · rw [if_neg e2, if_neg (by omega)]
      show ok (f_X11_speaks_B82 σ (f_X11_speaks_L82 σ f k 265 xb (nI w) (nI (6 * x + c))) k 265 xb (nI w) (nI (6 * x + c)) (nI i) d) Q
      simp (disch := first | assumption | omega) only [f_X11_speaks_B82, f_X11_speaks_J151, q1, q2, q3, q4, qr, M_of, M_times, ↓reduceIte, Nat.reduceEqDiff, Nat.one_ne_zero, if_true, if_false, lo_0 hS, lo_1 hS, lo_33 hS, lo_34 hS, lo_89 hS, lo_100 hS, lo_123 hS, lo_146 hS, lo_148 hS, lo_176 hS, lo_182 hS, lo_265 hS, lo_D hS, lo_G hS, lr_37 hS, lr_93 hS, lr_101 hS, lr_124 hS, lr_152 hS, lr_169 hS, lr_0_0 hS, lr_0_1 hS, lr_0_2 hS, lr_0_3 hS, lr_0_5 hS, lr_0_6 hS, lr_0_7 hS, lr_0_8 hS, lr_0_9 hS, lr_0_10 hS, lr_0_11 hS, lr_0_12 hS, lr_1_0 hS, lr_1_2 hS, lr_33_0 hS, lr_33_1 hS, lr_33_2 hS, lr_33_3 hS, lr_34_0 hS, lr_89_0 hS, lr_89_1 hS, lr_89_2 hS, lr_89_3 hS, lr_89_4 hS, lr_89_5 hS, lr_100_0 hS, lr_100_1 hS, lr_123_0 hS, lr_123_1 hS, lr_146_0 hS, lr_148_0 hS, lr_148_1 hS, lr_148_2 hS, lr_148_3 hS, lr_148_4 hS, lr_148_5 hS, lr_176_0 hS, lr_176_1 hS, lr_176_4 hS, lr_176_6 hS, lr_176_7 hS, lr_182_0 hS, lr_265_1 hS, lr_265_3 hS, lr_265_4 hS, lr_265_5 hS, lr_265_6 hS, lr_265_7 hS, lr_265_8 hS, lr_265_9 hS, lr_265_10 hS, lr_265_12 hS, lr_265_13 hS, lr_265_14 hS, lr_265_15 hS, lr_265_16 hS, lr_265_17 hS, lr_265_18 hS, lr_265_19 hS, lr_265_20 hS, lr_265_21 hS, lr_265_22 hS, lr_265_23 hS, lr_265_24 hS, lr_265_25 hS, lr_265_26 hS, lr_265_27 hS, lr_265_28 hS, lr_265_29 hS, lr_265_30 hS, lr_D_0 hS, lr_D_1 hS, lr_D_2 hS, lr_D_3 hS, lr_D_5 hS, lr_D_6 hS, lr_D_r hS, lr_31 hS, lr_32 hS, lr_G_2 hS, lr_G_3 hS, lr_G_4 hS, li_2 hS, li_3 hS, li_31 hS, li_32 hS, li_35 hS, li_36 hS, li_37 hS, li_88 hS, li_90 hS, li_91 hS, li_92 hS, li_93 hS, li_98 hS, li_99 hS, li_101 hS, li_122 hS, li_124 hS, li_145 hS, li_147 hS, li_149 hS, li_150 hS, li_151 hS, li_152 hS, li_169 hS, li_175 hS, li_177 hS, li_178 hS, li_179 hS, li_180 hS, li_181 hS, li_183 hS, li_266 hS, li_267 hS, li_268 hS, li_269 hS, li_270 hS, li_271 hS, li_272 hS, li_273 hS, li_274 hS, li_275 hS, li_276 hS, li_277 hS, li_278 hS, li_279 hS, li_280 hS, li_281 hS, li_282 hS, li_283 hS, li_284 hS, li_285 hS, li_286 hS, li_287 hS, li_288 hS, li_289 hS, li_290 hS, li_291 hS, li_292 hS, li_293 hS, li_294 hS, li_38 hS, li_94 hS, li_102 hS, li_125 hS, li_153 hS, li_170 hS, li_D_1 hS, li_D_2 hS, li_D_3 hS, li_D_4 hS, li_D_5 hS, li_D_26 hS, li_D_r hS, li_G_1 hS, li_G_2 hS, li_G_3 hS, il_0, il_1, il_2, il_3, il_4, il_5, il_6, il_7, il_8, il_9, il_10, il_11, il_12, il_15, il_16, il_17, il_18, il_20, il_27, il_31, il_32, il_35, il_36, il_40, il_43, il_44, il_46, il_47, il_49, il_50, il_80, il_99, il_100, il_108, il_111, il_127, il_235, il_250, il_640, il_971, il_972, il_999, il_1000, il_1024, il_2500, il_4444, il_9999, il_2147483647, nI_add, nI_mulI, nI_subI, nI_divI, nI_cl, nI_leJ, nI_ltJ, nI_eqJ, nI_neM, nI_neM', aw_sI_e, aw_sI_n, aw_sI_2, aw_sL_e, aw_sL_n, aw_sL_1, Option.bind_some, aw_chkT, ck_and0, ck_and1, bI_t, bI_f, nar_0, nar_1]
      rw [if_neg e0]
      by_cases ho : ofc (r i) (A 7 x c) = A 8 x c
      · rw [if_pos ho]
        refine IHs _ ?_ (fun j hj => aw_sI_n (by omega)) (Fr.rf.w (by omega))
        rw [aw_sI_e rfl rfl, nI_alt (ofc_stp c1 ho)]; simp only [alt1, ho, if_true]
      · rw [if_neg ho]
        refine IHs d ?_ (fun j hj => rfl) Fr.rf
        rw [qr]; simp only [alt1, ho, if_false]

/-- all changes, one by one -/
theorem M_speaks_L39 {A : St} {σ : Sg} {d0 : Dt} {w : Nat} {Q : Unit × Dt → Prop} (hS : Lay σ) (hW : WF A) (hM0 : RepM A d0) (hw : w < A 2 0 0) {x : Nat} {k : Dt → Option (Unit × Dt)} (hx : x < 3)
    (hk : ∀ d', (∀ j, j < A 3 0 w → d'.1 286 j = nI (alts A x (A 3 0 w) j (A 4 w j) (A 6 0 x))) → Fr 286 286 d0 d' → ok (k d') Q) :
    ∀ (m i f : Nat) (d : Dt), i + m = A 6 0 x → m < f → (∀ j, j < A 3 0 w → d.1 286 j = nI (alts A x (A 3 0 w) j (A 4 w j) i)) → Fr 286 286 d0 d → ok (f_X11_speaks_L39 σ f k 265 (nI x) (nI w) (nI (6 * x + i)) d) Q := by
  have w2 := hW.words
  have hl := hW.w hw
  have hx6 := (hW.x hx).1
  intro m
  induction m with
  | zero =>
    intro i f d hi hf g1 F
    cases f with
    | zero => omega
    | succ f =>
      have hM := hM0.frH F (by omega)
      have q1 := rm_chs hM hx
      have e0 : 6 * x + A 6 0 x ≤ 6 * x + i := by omega
      have ei : i = A 6 0 x := by omega
      show ok (f_X11_speaks_B39 σ (f_X11_speaks_L39 σ f k 265 (nI x) (nI w)) k 265 (nI x) (nI w) (nI (6 * x + i)) d) Q
      simp (disch := first | assumption | omega) only [f_X11_speaks_B39, q1, nno, NO_n, NO_n2, NO_lt, NO_le, NO_lt2, NO_le2, ↓reduceIte, Nat.reduceEqDiff, Nat.one_ne_zero, if_true, if_false, lo_0 hS, lo_1 hS, lo_33 hS, lo_34 hS, lo_89 hS, lo_100 hS, lo_123 hS, lo_146 hS, lo_148 hS, lo_176 hS, lo_182 hS, lo_265 hS, lo_D hS, lo_G hS, lr_37 hS, lr_93 hS, lr_101 hS, lr_124 hS, lr_152 hS, lr_169 hS, lr_0_0 hS, lr_0_1 hS, lr_0_2 hS, lr_0_3 hS, lr_0_5 hS, lr_0_6 hS, lr_0_7 hS, lr_0_8 hS, lr_0_9 hS, lr_0_10 hS, lr_0_11 hS, lr_0_12 hS, lr_1_0 hS, lr_1_2 hS, lr_33_0 hS, lr_33_1 hS, lr_33_2 hS, lr_33_3 hS, lr_34_0 hS, lr_89_0 hS, lr_89_1 hS, lr_89_2 hS, lr_89_3 hS, lr_89_4 hS, lr_89_5 hS, lr_100_0 hS, lr_100_1 hS, lr_123_0 hS, lr_123_1 hS, lr_146_0 hS, lr_148_0 hS, lr_148_1 hS, lr_148_2 hS, lr_148_3 hS, lr_148_4 hS, lr_148_5 hS, lr_176_0 hS, lr_176_1 hS, lr_176_4 hS, lr_176_6 hS, lr_176_7 hS, lr_182_0 hS, lr_265_1 hS, lr_265_3 hS, lr_265_4 hS, lr_265_5 hS, lr_265_6 hS, lr_265_7 hS, lr_265_8 hS, lr_265_9 hS, lr_265_10 hS, lr_265_12 hS, lr_265_13 hS, lr_265_14 hS, lr_265_15 hS, lr_265_16 hS, lr_265_17 hS, lr_265_18 hS, lr_265_19 hS, lr_265_20 hS, lr_265_21 hS, lr_265_22 hS, lr_265_23 hS, lr_265_24 hS, lr_265_25 hS, lr_265_26 hS, lr_265_27 hS, lr_265_28 hS, lr_265_29 hS, lr_265_30 hS, lr_D_0 hS, lr_D_1 hS, lr_D_2 hS, lr_D_3 hS, lr_D_5 hS, lr_D_6 hS, lr_D_r hS, lr_31 hS, lr_32 hS, lr_G_2 hS, lr_G_3 hS, lr_G_4 hS, li_2 hS, li_3 hS, li_31 hS, li_32 hS, li_35 hS, li_36 hS, li_37 hS, li_88 hS, li_90 hS, li_91 hS, li_92 hS, li_93 hS, li_98 hS, li_99 hS, li_101 hS, li_122 hS, li_124 hS, li_145 hS, li_147 hS, li_149 hS, li_150 hS, li_151 hS, li_152 hS, li_169 hS, li_175 hS, li_177 hS, li_178 hS, li_179 hS, li_180 hS, li_181 hS, li_183 hS, li_266 hS, li_267 hS, li_268 hS, li_269 hS, li_270 hS, li_271 hS, li_272 hS, li_273 hS, li_274 hS, li_275 hS, li_276 hS, li_277 hS, li_278 hS, li_279 hS, li_280 hS, li_281 hS, li_282 hS, li_283 hS, li_284 hS, li_285 hS, li_286 hS, li_287 hS, li_288 hS, li_289 hS, li_290 hS, li_291 hS, li_292 hS, li_293 hS, li_294 hS, li_38 hS, li_94 hS, li_102 hS, li_125 hS, li_153 hS, li_170 hS, li_D_1 hS, li_D_2 hS, li_D_3 hS, li_D_4 hS, li_D_5 hS, li_D_26 hS, li_D_r hS, li_G_1 hS, li_G_2 hS, li_G_3 hS, il_0, il_1, il_2, il_3, il_4, il_5, il_6, il_7, il_8, il_9, il_10, il_11, il_12, il_15, il_16, il_17, il_18, il_20, il_27, il_31, il_32, il_35, il_36, il_40, il_43, il_44, il_46, il_47, il_49, il_50, il_80, il_99, il_100, il_108, il_111, il_127, il_235, il_250, il_640, il_971, il_972, il_999, il_1000, il_1024, il_2500, il_4444, il_9999, il_2147483647, nI_add, nI_mulI, nI_subI, nI_divI, nI_cl, nI_leJ, nI_ltJ, nI_eqJ, nI_neM, nI_neM', aw_sI_e, aw_sI_n, aw_sI_2, aw_sL_e, aw_sL_n, aw_sL_1, Option.bind_some, aw_chkT, ck_and0, ck_and1, bI_t, bI_f, nar_0, nar_1]
      rw [if_pos e0]
      exact hk d (fun j hj => by rw [g1 j hj, ei]) F
  | succ m ih =>
    intro i f d hi hf g1 F
    cases f with
    | zero => omega
    | succ f =>
      have hM := hM0.frH F (by omega)
      have q1 := rm_chs hM hx
      have q2 := rm_fin hM hx (show i < 6 by omega)
      have q3 := rm_len hM (show w < 20 by omega)
      have c4 := ((hW.x hx).2 i (by omega)).2.2.2
      have e0 : ¬ 6 * x + A 6 0 x ≤ 6 * x + i := by omega
      have hmid : ∀ s, s = (if A 10 x i = 0 then 0 else A 3 0 w - 1) → ok (f_X11_speaks_L82 σ aw_FU (fun d_39 => f_X11_speaks_L39 σ f k 265 (nI x) (nI w) (nI (6 * x + i + 1)) d_39) 265 (nI x) (nI w) (nI (6 * x + i)) (nI s) d) Q := by
        intro s hs
        refine M_speaks_L82 (d0 := d) (s := s) (b := 0) (r := fun j => alts A x (A 3 0 w) j (A 4 w j) i) hS hW hM hw hx (show i < A 6 0 x by omega) (fun j hj => alts_lt hW hx (hl.2.2.2.2 j hj) i (by omega)) hs (fun d' a1 a2 => ?_) (A 3 0 w - s) s aw_FU d ?_ (by show _ < 5000; omega) (Nat.le_refl _) (fun j hj => ?_) Fr.rf
        · refine ih (i + 1) f d' (by omega) (by omega) (fun j hj => ?_) (F.tr a2)
          rw [a1 j hj]; rfl
        · have : s ≤ A 3 0 w := by rw [hs]; split <;> omega
          omega
        · rw [g1 j hj]
          by_cases e : j < s
          · rw [if_pos e, nvv_id]
            intro h
            rcases h with h | h
            · rw [if_pos h] at hs; omega
            · have : s ≤ A 3 0 w - 1 := by rw [hs]; split <;> omega
              omega
          · rw [if_neg e]
      show ok (f_X11_speaks_B39 σ (f_X11_speaks_L39 σ f k 265 (nI x) (nI w)) k 265 (nI x) (nI w) (nI (6 * x + i)) d) Q
      simp (disch := first | assumption | omega) only [f_X11_speaks_B39, f_X11_speaks_J80, q1, q2, q3, nno, NO_n, NO_n2, NO_lt, NO_le, NO_lt2, NO_le2, ↓reduceIte, Nat.reduceEqDiff, Nat.one_ne_zero, if_true, if_false, lo_0 hS, lo_1 hS, lo_33 hS, lo_34 hS, lo_89 hS, lo_100 hS, lo_123 hS, lo_146 hS, lo_148 hS, lo_176 hS, lo_182 hS, lo_265 hS, lo_D hS, lo_G hS, lr_37 hS, lr_93 hS, lr_101 hS, lr_124 hS, lr_152 hS, lr_169 hS, lr_0_0 hS, lr_0_1 hS, lr_0_2 hS, lr_0_3 hS, lr_0_5 hS, lr_0_6 hS, lr_0_7 hS, lr_0_8 hS, lr_0_9 hS, lr_0_10 hS, lr_0_11 hS, lr_0_12 hS, lr_1_0 hS, lr_1_2 hS, lr_33_0 hS, lr_33_1 hS, lr_33_2 hS, lr_33_3 hS, lr_34_0 hS, lr_89_0 hS, lr_89_1 hS, lr_89_2 hS, lr_89_3 hS, lr_89_4 hS, lr_89_5 hS, lr_100_0 hS, lr_100_1 hS, lr_123_0 hS, lr_123_1 hS, lr_146_0 hS, lr_148_0 hS, lr_148_1 hS, lr_148_2 hS, lr_148_3 hS, lr_148_4 hS, lr_148_5 hS, lr_176_0 hS, lr_176_1 hS, lr_176_4 hS, lr_176_6 hS, lr_176_7 hS, lr_182_0 hS, lr_265_1 hS, lr_265_3 hS, lr_265_4 hS, lr_265_5 hS, lr_265_6 hS, lr_265_7 hS, lr_265_8 hS, lr_265_9 hS, lr_265_10 hS, lr_265_12 hS, lr_265_13 hS, lr_265_14 hS, lr_265_15 hS, lr_265_16 hS, lr_265_17 hS, lr_265_18 hS, lr_265_19 hS, lr_265_20 hS, lr_265_21 hS, lr_265_22 hS, lr_265_23 hS, lr_265_24 hS, lr_265_25 hS, lr_265_26 hS, lr_265_27 hS, lr_265_28 hS, lr_265_29 hS, lr_265_30 hS, lr_D_0 hS, lr_D_1 hS, lr_D_2 hS, lr_D_3 hS, lr_D_5 hS, lr_D_6 hS, lr_D_r hS, lr_31 hS, lr_32 hS, lr_G_2 hS, lr_G_3 hS, lr_G_4 hS, li_2 hS, li_3 hS, li_31 hS, li_32 hS, li_35 hS, li_36 hS, li_37 hS, li_88 hS, li_90 hS, li_91 hS, li_92 hS, li_93 hS, li_98 hS, li_99 hS, li_101 hS, li_122 hS, li_124 hS, li_145 hS, li_147 hS, li_149 hS, li_150 hS, li_151 hS, li_152 hS, li_169 hS, li_175 hS, li_177 hS, li_178 hS, li_179 hS, li_180 hS, li_181 hS, li_183 hS, li_266 hS, li_267 hS, li_268 hS, li_269 hS, li_270 hS, li_271 hS, li_272 hS, li_273 hS, li_274 hS, li_275 hS, li_276 hS, li_277 hS, li_278 hS, li_279 hS, li_280 hS, li_281 hS, li_282 hS, li_283 hS, li_284 hS, li_285 hS, li_286 hS, li_287 hS, li_288 hS, li_289 hS, li_290 hS, li_291 hS, li_292 hS, li_293 hS, li_294 hS, li_38 hS, li_94 hS, li_102 hS, li_125 hS, li_153 hS, li_170 hS, li_D_1 hS, li_D_2 hS, li_D_3 hS, li_D_4 hS, li_D_5 hS, li_D_26 hS, li_D_r hS, li_G_1 hS, li_G_2 hS, li_G_3 hS, il_0, il_1, il_2, il_3, il_4, il_5, il_6, il_7, il_8, il_9, il_10, il_11, il_12, il_15, il_16, il_17, il_18, il_20, il_27, il_31, il_32, il_35, il_36, il_40, il_43, il_44, il_46, il_47, il_49, il_50, il_80, il_99, il_100, il_108, il_111, il_127, il_235, il_250, il_640, il_971, il_972, il_999, il_1000, il_1024, il_2500, il_4444, il_9999, il_2147483647, nI_add, nI_mulI, nI_subI, nI_divI, nI_cl, nI_leJ, nI_ltJ, nI_eqJ, nI_neM, nI_neM', aw_sI_e, aw_sI_n, aw_sI_2, aw_sL_e, aw_sL_n, aw_sL_1, Option.bind_some, aw_chkT, ck_and0, ck_and1, bI_t, bI_f, nar_0, nar_1]
      rw [if_neg e0]
      by_cases e : A 10 x i = 0
      · rw [if_pos e]
        exact hmid 0 (by rw [if_pos e])
      · rw [if_neg e]
        exact hmid (A 3 0 w - 1) (by rw [if_neg e])
/-- a dialect as the methods take it -/
def dI (b : Nat) : Int32 := nI b - nI 1
theorem dI_s (b : Nat) (h : 0 < b) : dI b = nI (b - 1) := nI_subI (by omega)
theorem dI_0 : dI 0 = NO := rfl
theorem M_speaks {A : St} {σ : Sg} {d : Dt} (hS : Lay σ) (hW : WF A) (hM : RepM A d) {b w : Nat} (hb : b < 4) (hw : w < A 2 0 0) : ok (f_X11_speaks σ 265 (dI b) (nI w) d) (fun z => (∀ j, j < A 3 0 w → z.2.1 286 j = nI (spk A b w j)) ∧ Fr 286 286 d z.2) := by
  have w2 := hW.words
  have hl := hW.w hw
  by_cases e : b = 0
  · subst e
    rw [dI_0]
    simp (disch := first | assumption | omega) only [f_X11_speaks, il_0, il_1, il_2, il_3, il_4, il_5, il_6, il_7, il_8, il_9, il_10, il_11, il_12, il_15, il_16, il_17, il_18, il_20, il_27, il_31, il_32, il_35, il_36, il_40, il_43, il_44, il_46, il_47, il_49, il_50, il_80, il_99, il_100, il_108, il_111, il_127, il_235, il_250, il_640, il_971, il_972, il_999, il_1000, il_1024, il_2500, il_4444, il_9999, il_2147483647, nI_add, nI_mulI, nI_subI, nI_divI, nI_cl, nI_leJ, nI_ltJ, nI_eqJ, nI_neM, nI_neM']
    refine M_speaks_L2 hS hW hM hw (fun d' g1 F => ?_) (A 3 0 w) 0 aw_FU d (by omega) (by show _ < 5000; omega) (fun j hj => by omega) Fr.rf
    show ok (f_X11_speaks_B39 σ (f_X11_speaks_L39 σ 4999 (fun d_43 => f_X11_speaks_J163 σ d_43) 265 NO (nI w)) (fun d_43 => f_X11_speaks_J163 σ d_43) 265 NO (nI w) (nI 6 * NO) d') _
    unfold f_X11_speaks_B39
    rw [if_pos (show NO = (-1 : Int32) from rfl)]
    exact ok_some ⟨g1, F⟩
  · have hx : b - 1 < 3 := by omega
    rw [dI_s b (by omega)]
    simp (disch := first | assumption | omega) only [f_X11_speaks, il_0, il_1, il_2, il_3, il_4, il_5, il_6, il_7, il_8, il_9, il_10, il_11, il_12, il_15, il_16, il_17, il_18, il_20, il_27, il_31, il_32, il_35, il_36, il_40, il_43, il_44, il_46, il_47, il_49, il_50, il_80, il_99, il_100, il_108, il_111, il_127, il_235, il_250, il_640, il_971, il_972, il_999, il_1000, il_1024, il_2500, il_4444, il_9999, il_2147483647, nI_add, nI_mulI, nI_subI, nI_divI, nI_cl, nI_leJ, nI_ltJ, nI_eqJ, nI_neM, nI_neM']
    refine M_speaks_L2 hS hW hM hw (fun d' g1 F => ?_) (A 3 0 w) 0 aw_FU d (by omega) (by show _ < 5000; omega) (fun j hj => by omega) Fr.rf
    refine M_speaks_L39 hS hW (hM.frH F (by omega)) hw hx (fun d2 g2 F2 => ok_some ⟨fun j hj => ?_, F.tr F2⟩) (A 6 0 (b - 1)) 0 aw_FU d' (by omega) (by show _ < 5000; have := (hW.x hx).1; omega) (fun j hj => g1 j hj) Fr.rf
    show d2.1 286 j = _
    rw [g2 j hj]; unfold spk; rw [if_neg e]
