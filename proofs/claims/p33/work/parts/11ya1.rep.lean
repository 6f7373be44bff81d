/-! the law's rows -/
def mkB (A : St) (D : Nat) : Nat := A 15 D 0 + 2 * A 15 D 1 + 4 * A 15 D 2
/-- words, draft and changes; not more than six words and two designs -/
def RepQ (A : St) (d : Dt) : Prop :=
  (∀ w, w < A 2 0 0 → ∀ k, k < A 3 0 w → d.1 265 (4 * w + k) = nI (A 4 w k)) ∧ (∀ k, k < A 0 0 0 → d.1 265 (24 + k) = nI (A 1 0 k)) ∧
  (∀ w, w < A 2 0 0 → d.1 266 w = nI (A 3 0 w)) ∧ d.1 266 6 = nI (A 0 0 0) ∧ (∀ w, w < A 2 0 0 → d.1 266 (8 + w) = nI (A 5 0 w)) ∧
  (∀ x, x < 3 → d.1 267 (18 + x) = nI (A 6 0 x)) ∧ (∀ x, x < 3 → ∀ c, c < A 6 0 x → d.1 267 (6 * x + c) = nI (A 7 x c + 4 * A 8 x c + 64 * A 9 x c + 1024 * A 10 x c)) ∧
  d.1 274 0 = nI (A 2 0 0) ∧ d.1 274 1 = nI (A 11 0 0) ∧ A 2 0 0 ≤ 6 ∧ A 11 0 0 ≤ 2
/-- a design's row -/
def RepA (A : St) (D x : Nat) (d : Dt) : Prop := (∀ u, u < 47 → d.1 x u = nI (A 14 D u)) ∧ d.1 x 47 = nI (A 12 0 D) ∧ d.1 x 48 = nI (A 13 0 D) ∧ d.1 x 49 = nI (mkB A D)
def RepL (A : St) (d : Dt) : Prop := RepQ A d ∧ (∀ D, D < A 11 0 0 → RepA A D (268 + D) d) ∧ (∀ D, D < 2 → ∀ s, s < 50 → d.1 (270 + D) s = nI (if D < A 11 0 0 then A 16 D s else s)) ∧ (∀ s, s < 50 → d.1 272 s = nI (A 17 0 s)) ∧ ∀ g, g < 4 → d.1 273 (3 * g) = nI (A 18 0 g) ∧ d.1 273 (3 * g + 1) = nI (A 19 0 g) ∧ d.1 273 (3 * g + 2) = nI (A 20 0 g)
/-- scratch of the row of lengths; a row of spellings; both, below cell N -/
def FZ (d d' : Dt) : Prop := (∀ c, c ≠ 266 → d'.1 c = d.1 c) ∧ (∀ j, j < 20 → d'.1 266 j = d.1 266 j) ∧ d'.2 = d.2
def FX (x : Nat) (d d' : Dt) : Prop := d'.1 = d.1 ∧ ∀ c, c ≠ x → d'.2 c = d.2 c
def LF (N : Nat) (d d' : Dt) : Prop := (∀ c, c < N → c ≠ 266 → d'.1 c = d.1 c) ∧ (∀ j, j < 20 → d'.1 266 j = d.1 266 j) ∧ ∀ c, c < N → c ≠ 275 → c ≠ 276 → d'.2 c = d.2 c
theorem FZ.rf {d : Dt} : FZ d d := ⟨fun _ _ => rfl, fun _ _ => rfl, rfl⟩
theorem FZ.tr {a b c : Dt} (h : FZ a b) (g : FZ b c) : FZ a c := ⟨fun k hk => (g.1 k hk).trans (h.1 k hk), fun k hk => (g.2.1 k hk).trans (h.2.1 k hk), g.2.2.trans h.2.2⟩
theorem FZ.w {a d : Dt} {j : Nat} {v : Int32} (hj : 20 ≤ j) (h : FZ a d) : FZ a (aw_sI d 266 j v) := ⟨fun c hc => by rw [← h.1 c hc]; funext i; exact aw_sI_n (by omega), fun i hi => by rw [aw_sI_n (by omega)]; exact h.2.1 i hi, h.2.2⟩
theorem FX.rf {x : Nat} {d : Dt} : FX x d d := ⟨rfl, fun _ _ => rfl⟩
theorem FX.tr {x : Nat} {a b c : Dt} (h : FX x a b) (g : FX x b c) : FX x a c := ⟨g.1.trans h.1, fun k hk => (g.2 k hk).trans (h.2 k hk)⟩
theorem FX.w {x : Nat} {a d : Dt} {j : Nat} {v : Int64} (h : FX x a d) : FX x a (aw_sL d x j v) := ⟨h.1, fun c hc => by rw [← h.2 c hc]; funext i; exact aw_sL_n (by omega)⟩
theorem LF.rf {N : Nat} {d : Dt} : LF N d d := ⟨fun _ _ _ => rfl, fun _ _ => rfl, fun _ _ _ _ => rfl⟩
theorem LF.tr {N : Nat} {a b c : Dt} (h : LF N a b) (g : LF N b c) : LF N a c := ⟨fun k h1 h2 => (g.1 k h1 h2).trans (h.1 k h1 h2), fun k h1 => (g.2.1 k h1).trans (h.2.1 k h1), fun k h1 h2 h3 => (g.2.2 k h1 h2 h3).trans (h.2.2 k h1 h2 h3)⟩
theorem FZ.lf {N : Nat} {d d' : Dt} (h : FZ d d') : LF N d d' := ⟨fun c _ h2 => h.1 c h2, h.2.1, fun c _ _ _ => by rw [h.2.2]⟩
theorem FX.lf {N x : Nat} {d d' : Dt} (h : FX x d d') (hx : x = 275 ∨ x = 276) : LF N d d' := ⟨fun c _ _ => by rw [h.1], fun j _ => by rw [h.1], fun c _ h2 h3 => h.2 c (by omega)⟩
theorem RepQ.lf {A : St} {N : Nat} {d d' : Dt} (h : RepQ A d) (hW : WF A) (hN : 277 ≤ N) (F : LF N d d') : RepQ A d' := by
  obtain ⟨h1, h2, h3, h4, h5, h6, h7, h8, h9, h10, h11⟩ := h
  exact ⟨fun w hw k hk => by rw [F.1 265 (by omega) (by omega)]; exact h1 w hw k hk, fun k hk => by rw [F.1 265 (by omega) (by omega)]; exact h2 k hk, fun w hw => by rw [F.2.1 w (by omega)]; exact h3 w hw, by rw [F.2.1 6 (by omega)]; exact h4, fun w hw => by rw [F.2.1 (8 + w) (by omega)]; exact h5 w hw, fun x hx => by rw [F.1 267 (by omega) (by omega)]; exact h6 x hx, fun x hx c hc => by rw [F.1 267 (by omega) (by omega)]; exact h7 x hx c hc, by rw [F.1 274 (by omega) (by omega)]; exact h8, by rw [F.1 274 (by omega) (by omega)]; exact h9, h10, h11⟩
theorem RepA.lf {A : St} {D x : Nat} {d d' : Dt} (h : RepA A D x d) (F : d'.1 x = d.1 x) : RepA A D x d' := by
  unfold RepA at h ⊢; rw [F]; exact h
theorem RepL.lf {A : St} {N : Nat} {d d' : Dt} (h : RepL A d) (hW : WF A) (hN : 277 ≤ N) (F : LF N d d') : RepL A d' :=
  ⟨h.1.lf hW hN F, fun D hD => (h.2.1 D hD).lf (F.1 _ (by have := h.1.2.2.2.2.2.2.2.2.2.2; omega) (by omega)), fun D hD s hs => by rw [F.1 _ (by omega) (by omega)]; exact h.2.2.1 D hD s hs, fun s hs => by rw [F.1 272 (by omega) (by omega)]; exact h.2.2.2.1 s hs, fun g hg => by rw [F.1 273 (by omega) (by omega)]; exact h.2.2.2.2 g hg⟩
theorem RepL.c {A : St} {d d' : Dt} (h : RepL A d) (F : FrC d d') : RepL A d' := by
  have e : ∀ c, 265 ≤ c → c ≤ 276 → d'.1 c = d.1 c := fun c h1 h2 => (F c h1 h2).1
  obtain ⟨⟨h1, h2, h3, h4, h5, h6, h7, h8, h9, h10, h11⟩, g1, g2, g3, g4⟩ := h
  refine ⟨⟨?_, ?_, ?_, ?_, ?_, ?_, ?_, ?_, ?_, h10, h11⟩, fun D hD => (g1 D hD).lf (e _ (by omega) (by omega)), fun D hD => ?_, ?_, ?_⟩
  · rw [e 265 (by omega) (by omega)]; exact h1
  · rw [e 265 (by omega) (by omega)]; exact h2
  · rw [e 266 (by omega) (by omega)]; exact h3
  · rw [e 266 (by omega) (by omega)]; exact h4
  · rw [e 266 (by omega) (by omega)]; exact h5
  · rw [e 267 (by omega) (by omega)]; exact h6
  · rw [e 267 (by omega) (by omega)]; exact h7
  · rw [e 274 (by omega) (by omega)]; exact h8
  · rw [e 274 (by omega) (by omega)]; exact h9
  · rw [e (270 + D) (by omega) (by omega)]; exact g2 D hD
  · rw [e 272 (by omega) (by omega)]; exact g3
  · rw [e 273 (by omega) (by omega)]; exact g4
theorem RepC.lf {A : St} {d d' : Dt} (h : RepC A d) (h20 : A 2 0 0 ≤ 20) (F : LF (277 + 4 * A 11 0 0) d d') : RepC A d' := by
  have e : ∀ c, c < 265 → d'.1 c = d.1 c := fun c hc => F.1 c (by omega) (by omega)
  refine h.cg h20 (by rw [e 1 (by omega)]; exact rc_dr h) (fun k hk => by rw [e 2 (by omega)]; exact rc_draft h hk) (fun k hk => by rw [e 3 (by omega)]; exact rc_wt h hk) (by rw [e 1 (by omega)]; exact rc_words h) (by rw [e 0 (by omega)]; exact rc_des h) ⟨fun f hf i j => rfl, fun c hc => e c (by omega)⟩ (fun s hs => ?_) (fun g hg => ?_) (fun D hD => ?_)
  · rw [e 36 (by omega), e 88 (by omega), e (38 + s) (by omega)]; exact h.s hs
  · rw [e 90 (by omega), e 91 (by omega), e 92 (by omega)]; exact h.g hg
  · exact (h.G hD).cg (fun f hf j => rfl) (fun f hf => rfl) (fun c h1 h2 => F.1 c (by omega) (by omega))
theorem rq_row {A : St} {d : Dt} (h : RepQ A d) {w k : Nat} (hw : w < A 2 0 0) (hk : k < A 3 0 w) : d.1 265 (4 * w + k) = nI (A 4 w k) := h.1 w hw k hk
theorem rq_draft {A : St} {d : Dt} (h : RepQ A d) {k : Nat} (hk : k < A 0 0 0) : d.1 265 (24 + k) = nI (A 1 0 k) := h.2.1 k hk
theorem rq_len {A : St} {d : Dt} (h : RepQ A d) {w : Nat} (hw : w < A 2 0 0) : d.1 266 w = nI (A 3 0 w) := h.2.2.1 w hw
theorem rq_dr {A : St} {d : Dt} (h : RepQ A d) : d.1 266 6 = nI (A 0 0 0) := h.2.2.2.1
theorem rq_wt {A : St} {d : Dt} (h : RepQ A d) {w : Nat} (hw : w < A 2 0 0) : d.1 266 (8 + w) = nI (A 5 0 w) := h.2.2.2.2.1 w hw
theorem rq_chs {A : St} {d : Dt} (h : RepQ A d) {x : Nat} (hx : x < 3) : d.1 267 (18 + x) = nI (A 6 0 x) := h.2.2.2.2.2.1 x hx
theorem rq_ch {A : St} {d : Dt} (h : RepQ A d) {x c : Nat} (hx : x < 3) (hc : c < A 6 0 x) : d.1 267 (6 * x + c) = nI (A 7 x c + 4 * A 8 x c + 64 * A 9 x c + 1024 * A 10 x c) := h.2.2.2.2.2.2.1 x hx c hc
theorem rq_words {A : St} {d : Dt} (h : RepQ A d) : d.1 274 0 = nI (A 2 0 0) := h.2.2.2.2.2.2.2.1
theorem rq_des {A : St} {d : Dt} (h : RepQ A d) : d.1 274 1 = nI (A 11 0 0) := h.2.2.2.2.2.2.2.2.1
theorem RepQ.w6 {A : St} {d : Dt} (h : RepQ A d) : A 2 0 0 ≤ 6 := h.2.2.2.2.2.2.2.2.2.1
theorem RepQ.d2 {A : St} {d : Dt} (h : RepQ A d) : A 11 0 0 ≤ 2 := h.2.2.2.2.2.2.2.2.2.2
/-! a part of a code; a syllable as a dialect speaks it -/
theorem L_of {σ : Sg} {d : Dt} {c p : Nat} (hc : c < 972) (hp : p < 4) : f_L_of σ (nI c) (nI p) d = some (nI (ofc c p), d) := by
  rcases (show p = 0 ∨ p = 1 ∨ p = 2 ∨ p = 3 by omega) with rfl | rfl | rfl | rfl
  · simp (disch := first | assumption | omega) [f_L_of_J43, f_L_of, ofc, il_0, il_1, il_2, il_3, il_4, il_5, il_6, il_7, il_8, il_9, il_10, il_11, il_12, il_13, il_15, il_16, il_17, il_18, il_19, il_20, il_21, il_22, il_23, il_24, il_26, il_27, il_28, il_30, il_32, il_34, il_36, il_38, il_40, il_43, il_44, il_46, il_47, il_48, il_49, il_50, il_51, il_60, il_64, il_100, il_108, il_111, il_127, il_971, il_972, il_999, il_1000, il_1024, il_1087, il_2500, il_5000, il_9999, il_60000, il_2147483647, nI_add, nI_mulI, nI_subI, nI_divI, nI_cl, nI_leJ, nI_ltJ, nI_eqJ, nI_neM, nI_neM', il_31]
  · have e : (c - c / 108 * 108) / 27 = c / 27 % 4 := by omega
    simp (disch := first | assumption | omega) [f_L_of_J43, f_L_of, ofc, e, il_0, il_1, il_2, il_3, il_4, il_5, il_6, il_7, il_8, il_9, il_10, il_11, il_12, il_13, il_15, il_16, il_17, il_18, il_19, il_20, il_21, il_22, il_23, il_24, il_26, il_27, il_28, il_30, il_32, il_34, il_36, il_38, il_40, il_43, il_44, il_46, il_47, il_48, il_49, il_50, il_51, il_60, il_64, il_100, il_108, il_111, il_127, il_971, il_972, il_999, il_1000, il_1024, il_1087, il_2500, il_5000, il_9999, il_60000, il_2147483647, nI_add, nI_mulI, nI_subI, nI_divI, nI_cl, nI_leJ, nI_ltJ, nI_eqJ, nI_neM, nI_neM', il_31]
  · have e : (c - c / 27 * 27) / 3 = c / 3 % 9 := by omega
    simp (disch := first | assumption | omega) [f_L_of_J43, f_L_of, ofc, e, il_0, il_1, il_2, il_3, il_4, il_5, il_6, il_7, il_8, il_9, il_10, il_11, il_12, il_13, il_15, il_16, il_17, il_18, il_19, il_20, il_21, il_22, il_23, il_24, il_26, il_27, il_28, il_30, il_32, il_34, il_36, il_38, il_40, il_43, il_44, il_46, il_47, il_48, il_49, il_50, il_51, il_60, il_64, il_100, il_108, il_111, il_127, il_971, il_972, il_999, il_1000, il_1024, il_1087, il_2500, il_5000, il_9999, il_60000, il_2147483647, nI_add, nI_mulI, nI_subI, nI_divI, nI_cl, nI_leJ, nI_ltJ, nI_eqJ, nI_neM, nI_neM', il_31]
  · have e : c - c / 3 * 3 = c % 3 := by omega
    simp (disch := first | assumption | omega) [f_L_of_J43, f_L_of, ofc, e, il_0, il_1, il_2, il_3, il_4, il_5, il_6, il_7, il_8, il_9, il_10, il_11, il_12, il_13, il_15, il_16, il_17, il_18, il_19, il_20, il_21, il_22, il_23, il_24, il_26, il_27, il_28, il_30, il_32, il_34, il_36, il_38, il_40, il_43, il_44, il_46, il_47, il_48, il_49, il_50, il_51, il_60, il_64, il_100, il_108, il_111, il_127, il_971, il_972, il_999, il_1000, il_1024, il_1087, il_2500, il_5000, il_9999, il_60000, il_2147483647, nI_add, nI_mulI, nI_subI, nI_divI, nI_cl, nI_leJ, nI_ltJ, nI_eqJ, nI_neM, nI_neM', il_31]
/-- a change, as the law keeps it -/
theorem chV {a b c e : Nat} (ha : a < 4) (hb : b < 9) (hc : c < 9) (he : e ≤ 1) : ∃ V, a + 4 * b + 64 * c + 1024 * e = V ∧ V < 2147483648 ∧ V - V / 4 * 4 = a ∧ V / 4 - V / 4 / 16 * 16 = b ∧ V / 64 - V / 64 / 16 * 16 = c ∧ (V < 1024 ↔ e = 0) := by
  refine ⟨_, rfl, by omega, by omega, by omega, by omega, by omega⟩
theorem L_speaks_L {A : St} {σ : Sg} {d : Dt} (hS : Lay σ) (hW : WF A) (hQ : RepQ A d) {x w p : Nat} (hx : x < 3) (hw : w < A 2 0 0) (hp : p < A 3 0 w) {k : Int32 → Dt → Option (Int32 × Dt)} : ∀ (m i f : Nat), i + m = A 6 0 x → m < f → f_L_speaks_L14 σ f k 266 267 (nI x) (nI w) (nI p) (nI (alts A x (A 3 0 w) p (A 4 w p) i)) (nI i) d = k (nI (alts A x (A 3 0 w) p (A 4 w p) (A 6 0 x))) d := by
  have hw6 := hQ.w6
  have hxx := hW.2.2.2.2.1 x hx
  have hc6 := hxx.1
  have hword := hW.w hw
  have hn4 := hword.2.1
  have q1 := rq_chs hQ hx
  intro m
  induction m with
  | zero =>
    intro i f hi hf
    cases f with
    | zero => omega
    | succ f =>
      show f_L_speaks_B14 σ (f_L_speaks_L14 σ f k 266 267 (nI x) (nI w) (nI p)) k 266 267 (nI x) (nI w) (nI p) (nI (alts A x (A 3 0 w) p (A 4 w p) i)) (nI i) d = _
      simp (disch := first | assumption | omega) only [f_L_speaks_B14, f_L_speaks_J31, q1, lo_0 hS, lo_1 hS, lo_33 hS, lo_34 hS, lo_89 hS, lo_100 hS, lo_123 hS, lo_146 hS, lo_148 hS, lo_176 hS, lo_182 hS, lo_D hS, lo_G hS, lr_37 hS, lr_93 hS, lr_101 hS, lr_124 hS, lr_152 hS, lr_169 hS, lr_0_0 hS, lr_0_1 hS, lr_0_2 hS, lr_0_3 hS, lr_0_5 hS, lr_0_6 hS, lr_0_7 hS, lr_0_8 hS, lr_0_9 hS, lr_0_10 hS, lr_0_11 hS, lr_0_12 hS, lr_1_0 hS, lr_1_2 hS, lr_33_0 hS, lr_33_1 hS, lr_33_2 hS, lr_33_3 hS, lr_34_0 hS, lr_89_0 hS, lr_89_1 hS, lr_89_2 hS, lr_89_3 hS, lr_89_4 hS, lr_89_5 hS, lr_100_0 hS, lr_100_1 hS, lr_123_0 hS, lr_123_1 hS, lr_146_0 hS, lr_148_0 hS, lr_148_1 hS, lr_148_2 hS, lr_148_3 hS, lr_148_4 hS, lr_148_5 hS, lr_176_0 hS, lr_176_1 hS, lr_176_4 hS, lr_176_6 hS, lr_176_7 hS, lr_182_0 hS, lr_D_0 hS, lr_D_1 hS, lr_D_2 hS, lr_D_3 hS, lr_D_5 hS, lr_D_6 hS, lr_D_r hS, lr_31 hS, lr_32 hS, lr_G_2 hS, lr_G_3 hS, lr_G_4 hS, li_2 hS, li_3 hS, li_31 hS, li_32 hS, li_35 hS, li_36 hS, li_37 hS, li_88 hS, li_90 hS, li_91 hS, li_92 hS, li_93 hS, li_98 hS, li_99 hS, li_101 hS, li_122 hS, li_124 hS, li_145 hS, li_147 hS, li_149 hS, li_150 hS, li_151 hS, li_152 hS, li_169 hS, li_175 hS, li_177 hS, li_178 hS, li_179 hS, li_180 hS, li_181 hS, li_183 hS, li_265 hS, li_266 hS, li_267 hS, li_268 hS, li_269 hS, li_270 hS, li_271 hS, li_272 hS, li_273 hS, li_274 hS, li_275 hS, li_276 hS, li_38 hS, li_94 hS, li_102 hS, li_125 hS, li_153 hS, li_170 hS, li_D_1 hS, li_D_2 hS, li_D_3 hS, li_D_4 hS, li_D_5 hS, li_D_26 hS, li_D_r hS, li_G_1 hS, li_G_2 hS, li_G_3 hS, li_rA hS, li_rK hS, li_rX hS, il_0, il_1, il_2, il_3, il_4, il_5, il_6, il_7, il_8, il_9, il_10, il_11, il_12, il_13, il_15, il_16, il_17, il_18, il_19, il_20, il_21, il_22, il_23, il_24, il_26, il_27, il_28, il_30, il_32, il_34, il_36, il_38, il_40, il_43, il_44, il_46, il_47, il_48, il_49, il_50, il_51, il_60, il_64, il_100, il_108, il_111, il_127, il_971, il_972, il_999, il_1000, il_1024, il_1087, il_2500, il_5000, il_9999, il_60000, il_2147483647, nI_add, nI_mulI, nI_subI, nI_divI, nI_cl, nI_leJ, nI_ltJ, nI_eqJ, nI_neM, nI_neM', il_31, aw_sI_e, aw_sI_n, aw_sI_2, aw_sL_e, aw_sL_n, aw_sL_1, Option.bind_some, aw_chkT, ck_and0, ck_and1, bI_t, bI_f, nar_0, nar_1]
      rw [if_neg (by omega), if_pos (by omega), show i = A 6 0 x by omega]
  | succ m ih =>
    intro i f hi hf
    cases f with
    | zero => omega
    | succ f =>
      have hlt : i < A 6 0 x := by omega
      obtain ⟨c1, c2, c3, c4⟩ := hxx.2 i hlt
      have c5 := vals9 (A 7 x i)
      have hC : alts A x (A 3 0 w) p (A 4 w p) i < 972 := alts_lt hW hx (hword.2.2.2.2 p hp) i (by omega)
      obtain ⟨V, hV, v0, v1, v2, v3, v4⟩ := chV c1 (show A 8 x i < 9 by omega) (show A 9 x i < 9 by omega) c4
      have qV := rq_ch hQ hx hlt
      rw [hV] at qV
      have ql := rq_len hQ hw
      have e : alts A x (A 3 0 w) p (A 4 w p) (i + 1) = if A 10 x i = 0 ∨ p + 1 = A 3 0 w then alt1 (A 7 x i) (A 8 x i) (A 9 x i) (alts A x (A 3 0 w) p (A 4 w p) i) else alts A x (A 3 0 w) p (A 4 w p) i := rfl
      rw [← ih (i + 1) f (by omega) (by omega), e]
      generalize alts A x (A 3 0 w) p (A 4 w p) i = C at hC
      show f_L_speaks_B14 σ (f_L_speaks_L14 σ f k 266 267 (nI x) (nI w) (nI p)) k 266 267 (nI x) (nI w) (nI p) (nI C) (nI i) d = _
      have hso : ∀ s, s = stp (A 7 x i) → f_L_speaks_J83 σ (f_L_speaks_L14 σ f k 266 267 (nI x) (nI w) (nI p)) (nI s) 266 267 (nI x) (nI w) (nI p) (nI C) (nI i) (nI V) (nI (A 7 x i)) d = f_L_speaks_L14 σ f k 266 267 (nI x) (nI w) (nI p) (nI (if A 10 x i = 0 ∨ p + 1 = A 3 0 w then alt1 (A 7 x i) (A 8 x i) (A 9 x i) C else C)) (nI (i + 1)) d := by
        intro s hs
        have hofc : ofc C (A 7 x i) < 9 := Nat.lt_of_lt_of_le (ofc_lt hC c1) c5
        have hin : f_L_speaks_J109 σ (f_L_speaks_L14 σ f k 266 267 (nI x) (nI w) (nI p)) (nI 1) 266 267 (nI x) (nI w) (nI p) (nI C) (nI i) (nI V) (nI (A 7 x i)) (nI s) d = f_L_speaks_L14 σ f k 266 267 (nI x) (nI w) (nI p) (nI (alt1 (A 7 x i) (A 8 x i) (A 9 x i) C)) (nI (i + 1)) d := by
          simp (disch := first | assumption | omega) only [f_L_speaks_J109, f_L_speaks_J157, f_L_speaks_J158, L_of, v2, v3, ↓reduceIte, Nat.reduceEqDiff, Nat.one_ne_zero, if_true, if_false, il_0, il_1, il_2, il_3, il_4, il_5, il_6, il_7, il_8, il_9, il_10, il_11, il_12, il_13, il_15, il_16, il_17, il_18, il_19, il_20, il_21, il_22, il_23, il_24, il_26, il_27, il_28, il_30, il_32, il_34, il_36, il_38, il_40, il_43, il_44, il_46, il_47, il_48, il_49, il_50, il_51, il_60, il_64, il_100, il_108, il_111, il_127, il_971, il_972, il_999, il_1000, il_1024, il_1087, il_2500, il_5000, il_9999, il_60000, il_2147483647, nI_add, nI_mulI, nI_subI, nI_divI, nI_cl, nI_leJ, nI_ltJ, nI_eqJ, nI_neM, nI_neM', il_31, aw_sI_e, aw_sI_n, aw_sI_2, aw_sL_e, aw_sL_n, aw_sL_1, Option.bind_some, aw_chkT, ck_and0, ck_and1, bI_t, bI_f, nar_0, nar_1]
          by_cases ho : ofc C (A 7 x i) = A 8 x i
          · rw [if_pos ho, hs, nI_alt (ofc_stp c1 ho)]
            simp only [alt1, ho, if_true]
          · rw [if_neg ho]
            simp only [alt1, ho, if_false, Nat.add_zero]
        have hout : f_L_speaks_J109 σ (f_L_speaks_L14 σ f k 266 267 (nI x) (nI w) (nI p)) (nI 0) 266 267 (nI x) (nI w) (nI p) (nI C) (nI i) (nI V) (nI (A 7 x i)) (nI s) d = f_L_speaks_L14 σ f k 266 267 (nI x) (nI w) (nI p) (nI C) (nI (i + 1)) d := by
          simp (disch := first | assumption | omega) only [f_L_speaks_J109, f_L_speaks_J157, f_L_speaks_J158, ↓reduceIte, Nat.reduceEqDiff, Nat.one_ne_zero, if_true, if_false, il_0, il_1, il_2, il_3, il_4, il_5, il_6, il_7, il_8, il_9, il_10, il_11, il_12, il_13, il_15, il_16, il_17, il_18, il_19, il_20, il_21, il_22, il_23, il_24, il_26, il_27, il_28, il_30, il_32, il_34, il_36, il_38, il_40, il_43, il_44, il_46, il_47, il_48, il_49, il_50, il_51, il_60, il_64, il_100, il_108, il_111, il_127, il_971, il_972, il_999, il_1000, il_1024, il_1087, il_2500, il_5000, il_9999, il_60000, il_2147483647, nI_add, nI_mulI, nI_subI, nI_divI, nI_cl, nI_leJ, nI_ltJ, nI_eqJ, nI_neM, nI_neM', il_31, aw_sI_e, aw_sI_n, aw_sI_2, aw_sL_e, aw_sL_n, aw_sL_1, Option.bind_some, aw_chkT, ck_and0, ck_and1, bI_t, bI_f, nar_0, nar_1, Nat.add_zero]
        simp (disch := first | assumption | omega) only [f_L_speaks_J83, f_L_speaks_J104, ql, lo_0 hS, lo_1 hS, lo_33 hS, lo_34 hS, lo_89 hS, lo_100 hS, lo_123 hS, lo_146 hS, lo_148 hS, lo_176 hS, lo_182 hS, lo_D hS, lo_G hS, lr_37 hS, lr_93 hS, lr_101 hS, lr_124 hS, lr_152 hS, lr_169 hS, lr_0_0 hS, lr_0_1 hS, lr_0_2 hS, lr_0_3 hS, lr_0_5 hS, lr_0_6 hS, lr_0_7 hS, lr_0_8 hS, lr_0_9 hS, lr_0_10 hS, lr_0_11 hS, lr_0_12 hS, lr_1_0 hS, lr_1_2 hS, lr_33_0 hS, lr_33_1 hS, lr_33_2 hS, lr_33_3 hS, lr_34_0 hS, lr_89_0 hS, lr_89_1 hS, lr_89_2 hS, lr_89_3 hS, lr_89_4 hS, lr_89_5 hS, lr_100_0 hS, lr_100_1 hS, lr_123_0 hS, lr_123_1 hS, lr_146_0 hS, lr_148_0 hS, lr_148_1 hS, lr_148_2 hS, lr_148_3 hS, lr_148_4 hS, lr_148_5 hS, lr_176_0 hS, lr_176_1 hS, lr_176_4 hS, lr_176_6 hS, lr_176_7 hS, lr_182_0 hS, lr_D_0 hS, lr_D_1 hS, lr_D_2 hS, lr_D_3 hS, lr_D_5 hS, lr_D_6 hS, lr_D_r hS, lr_31 hS, lr_32 hS, lr_G_2 hS, lr_G_3 hS, lr_G_4 hS, li_2 hS, li_3 hS, li_31 hS, li_32 hS, li_35 hS, li_36 hS, li_37 hS, li_88 hS, li_90 hS, li_91 hS, li_92 hS, li_93 hS, li_98 hS, li_99 hS, li_101 hS, li_122 hS, li_124 hS, li_145 hS, li_147 hS, li_149 hS, li_150 hS, li_151 hS, li_152 hS, li_169 hS, li_175 hS, li_177 hS, li_178 hS, li_179 hS, li_180 hS, li_181 hS, li_183 hS, li_265 hS, li_266 hS, li_267 hS, li_268 hS, li_269 hS, li_270 hS, li_271 hS, li_272 hS, li_273 hS, li_274 hS, li_275 hS, li_276 hS, li_38 hS, li_94 hS, li_102 hS, li_125 hS, li_153 hS, li_170 hS, li_D_1 hS, li_D_2 hS, li_D_3 hS, li_D_4 hS, li_D_5 hS, li_D_26 hS, li_D_r hS, li_G_1 hS, li_G_2 hS, li_G_3 hS, li_rA hS, li_rK hS, li_rX hS, il_0, il_1, il_2, il_3, il_4, il_5, il_6, il_7, il_8, il_9, il_10, il_11, il_12, il_13, il_15, il_16, il_17, il_18, il_19, il_20, il_21, il_22, il_23, il_24, il_26, il_27, il_28, il_30, il_32, il_34, il_36, il_38, il_40, il_43, il_44, il_46, il_47, il_48, il_49, il_50, il_51, il_60, il_64, il_100, il_108, il_111, il_127, il_971, il_972, il_999, il_1000, il_1024, il_1087, il_2500, il_5000, il_9999, il_60000, il_2147483647, nI_add, nI_mulI, nI_subI, nI_divI, nI_cl, nI_leJ, nI_ltJ, nI_eqJ, nI_neM, nI_neM', il_31, aw_sI_e, aw_sI_n, aw_sI_2, aw_sL_e, aw_sL_n, aw_sL_1, Option.bind_some, aw_chkT, ck_and0, ck_and1, bI_t, bI_f, nar_0, nar_1]
        rw [hin, hout]
        by_cases hb : A 10 x i = 0
        · rw [if_pos (v4.mpr hb), if_pos (Or.inl hb)]
        · rw [if_neg (fun h => hb (v4.mp h))]
          by_cases hl : p + 1 = A 3 0 w
          · rw [if_pos (by omega), if_pos (Or.inr hl)]
          · rw [if_neg (by omega), if_neg (by omega)]
      simp (disch := first | assumption | omega) only [f_L_speaks_B14, f_L_speaks_J31, q1, qV, v1, lo_0 hS, lo_1 hS, lo_33 hS, lo_34 hS, lo_89 hS, lo_100 hS, lo_123 hS, lo_146 hS, lo_148 hS, lo_176 hS, lo_182 hS, lo_D hS, lo_G hS, lr_37 hS, lr_93 hS, lr_101 hS, lr_124 hS, lr_152 hS, lr_169 hS, lr_0_0 hS, lr_0_1 hS, lr_0_2 hS, lr_0_3 hS, lr_0_5 hS, lr_0_6 hS, lr_0_7 hS, lr_0_8 hS, lr_0_9 hS, lr_0_10 hS, lr_0_11 hS, lr_0_12 hS, lr_1_0 hS, lr_1_2 hS, lr_33_0 hS, lr_33_1 hS, lr_33_2 hS, lr_33_3 hS, lr_34_0 hS, lr_89_0 hS, lr_89_1 hS, lr_89_2 hS, lr_89_3 hS, lr_89_4 hS, lr_89_5 hS, lr_100_0 hS, lr_100_1 hS, lr_123_0 hS, lr_123_1 hS, lr_146_0 hS, lr_148_0 hS, lr_148_1 hS, lr_148_2 hS, lr_148_3 hS, lr_148_4 hS, lr_148_5 hS, lr_176_0 hS, lr_176_1 hS, lr_176_4 hS, lr_176_6 hS, lr_176_7 hS, lr_182_0 hS, lr_D_0 hS, lr_D_1 hS, lr_D_2 hS, lr_D_3 hS, lr_D_5 hS, lr_D_6 hS, lr_D_r hS, lr_31 hS, lr_32 hS, lr_G_2 hS, lr_G_3 hS, lr_G_4 hS, li_2 hS, li_3 hS, li_31 hS, li_32 hS, li_35 hS, li_36 hS, li_37 hS, li_88 hS, li_90 hS, li_91 hS, li_92 hS, li_93 hS, li_98 hS, li_99 hS, li_101 hS, li_122 hS, li_124 hS, li_145 hS, li_147 hS, li_149 hS, li_150 hS, li_151 hS, li_152 hS, li_169 hS, li_175 hS, li_177 hS, li_178 hS, li_179 hS, li_180 hS, li_181 hS, li_183 hS, li_265 hS, li_266 hS, li_267 hS, li_268 hS, li_269 hS, li_270 hS, li_271 hS, li_272 hS, li_273 hS, li_274 hS, li_275 hS, li_276 hS, li_38 hS, li_94 hS, li_102 hS, li_125 hS, li_153 hS, li_170 hS, li_D_1 hS, li_D_2 hS, li_D_3 hS, li_D_4 hS, li_D_5 hS, li_D_26 hS, li_D_r hS, li_G_1 hS, li_G_2 hS, li_G_3 hS, li_rA hS, li_rK hS, li_rX hS, il_0, il_1, il_2, il_3, il_4, il_5, il_6, il_7, il_8, il_9, il_10, il_11, il_12, il_13, il_15, il_16, il_17, il_18, il_19, il_20, il_21, il_22, il_23, il_24, il_26, il_27, il_28, il_30, il_32, il_34, il_36, il_38, il_40, il_43, il_44, il_46, il_47, il_48, il_49, il_50, il_51, il_60, il_64, il_100, il_108, il_111, il_127, il_971, il_972, il_999, il_1000, il_1024, il_1087, il_2500, il_5000, il_9999, il_60000, il_2147483647, nI_add, nI_mulI, nI_subI, nI_divI, nI_cl, nI_leJ, nI_ltJ, nI_eqJ, nI_neM, nI_neM', il_31, aw_sI_e, aw_sI_n, aw_sI_2, aw_sL_e, aw_sL_n, aw_sL_1, Option.bind_some, aw_chkT, ck_and0, ck_and1, bI_t, bI_f, nar_0, nar_1]
      rw [if_neg (by omega), if_neg (by omega)]
      rcases (show A 7 x i = 0 ∨ A 7 x i = 1 ∨ A 7 x i = 2 ∨ A 7 x i = 3 by omega) with e7 | e7 | e7 | e7
      · rw [if_pos e7]; exact hso 108 (by rw [e7]; rfl)
      · rw [if_neg (by omega), if_pos e7]; exact hso 27 (by rw [e7]; rfl)
      · rw [if_neg (by omega), if_neg (by omega), if_pos e7]; exact hso 3 (by rw [e7]; rfl)
      · rw [if_neg (by omega), if_neg (by omega), if_neg (by omega)]; exact hso 1 (by rw [e7]; rfl)
/-- how the law names who speaks: 3 for the word as it is -/
def dc (b : Nat) : Nat := if b = 0 then 3 else b - 1
theorem L_speaks_0 {σ : Sg} {d : Dt} {k : Int32 → Dt → Option (Int32 × Dt)} {x1 x2 : Nat} {x4 x5 : Int32} {c : Nat} (f : Nat) : f_L_speaks_L14 σ (f + 1) k x1 x2 (nI 3) x4 x5 (nI c) (nI 0) d = k (nI c) d := by
  show f_L_speaks_B14 σ (f_L_speaks_L14 σ f k x1 x2 (nI 3) x4 x5) k x1 x2 (nI 3) x4 x5 (nI c) (nI 0) d = _
  simp (disch := first | assumption | omega) only [f_L_speaks_B14, f_L_speaks_J31, if_true, Nat.le_refl, il_0, il_1, il_2, il_3, il_4, il_5, il_6, il_7, il_8, il_9, il_10, il_11, il_12, il_13, il_15, il_16, il_17, il_18, il_19, il_20, il_21, il_22, il_23, il_24, il_26, il_27, il_28, il_30, il_32, il_34, il_36, il_38, il_40, il_43, il_44, il_46, il_47, il_48, il_49, il_50, il_51, il_60, il_64, il_100, il_108, il_111, il_127, il_971, il_972, il_999, il_1000, il_1024, il_1087, il_2500, il_5000, il_9999, il_60000, il_2147483647, nI_add, nI_mulI, nI_subI, nI_divI, nI_cl, nI_leJ, nI_ltJ, nI_eqJ, nI_neM, nI_neM', il_31, aw_sI_e, aw_sI_n, aw_sI_2, aw_sL_e, aw_sL_n, aw_sL_1, Option.bind_some, aw_chkT, ck_and0, ck_and1, bI_t, bI_f, nar_0, nar_1]
theorem FU1 : aw_FU = 4999 + 1 := rfl
theorem L_speaks {A : St} {σ : Sg} {d : Dt} (hS : Lay σ) (hW : WF A) (hQ : RepQ A d) {b w p : Nat} (hb : b < 4) (hw : w < A 2 0 0) (hp : p < A 3 0 w) : f_L_speaks σ 265 266 267 (nI (dc b)) (nI w) (nI p) d = some (nI (spk A b w p), d) := by
  have hw6 := hQ.w6
  have hn4 := (hW.w hw).2.1
  have q0 := rq_row hQ hw hp
  simp (disch := first | assumption | omega) only [f_L_speaks, q0, lo_0 hS, lo_1 hS, lo_33 hS, lo_34 hS, lo_89 hS, lo_100 hS, lo_123 hS, lo_146 hS, lo_148 hS, lo_176 hS, lo_182 hS, lo_D hS, lo_G hS, lr_37 hS, lr_93 hS, lr_101 hS, lr_124 hS, lr_152 hS, lr_169 hS, lr_0_0 hS, lr_0_1 hS, lr_0_2 hS, lr_0_3 hS, lr_0_5 hS, lr_0_6 hS, lr_0_7 hS, lr_0_8 hS, lr_0_9 hS, lr_0_10 hS, lr_0_11 hS, lr_0_12 hS, lr_1_0 hS, lr_1_2 hS, lr_33_0 hS, lr_33_1 hS, lr_33_2 hS, lr_33_3 hS, lr_34_0 hS, lr_89_0 hS, lr_89_1 hS, lr_89_2 hS, lr_89_3 hS, lr_89_4 hS, lr_89_5 hS, lr_100_0 hS, lr_100_1 hS, lr_123_0 hS, lr_123_1 hS, lr_146_0 hS, lr_148_0 hS, lr_148_1 hS, lr_148_2 hS, lr_148_3 hS, lr_148_4 hS, lr_148_5 hS, lr_176_0 hS, lr_176_1 hS, lr_176_4 hS, lr_176_6 hS, lr_176_7 hS, lr_182_0 hS, lr_D_0 hS, lr_D_1 hS, lr_D_2 hS, lr_D_3 hS, lr_D_5 hS, lr_D_6 hS, lr_D_r hS, lr_31 hS, lr_32 hS, lr_G_2 hS, lr_G_3 hS, lr_G_4 hS, li_2 hS, li_3 hS, li_31 hS, li_32 hS, li_35 hS, li_36 hS, li_37 hS, li_88 hS, li_90 hS, li_91 hS, li_92 hS, li_93 hS, li_98 hS, li_99 hS, li_101 hS, li_122 hS, li_124 hS, li_145 hS, li_147 hS, li_149 hS, li_150 hS, li_151 hS, li_152 hS, li_169 hS, li_175 hS, li_177 hS, li_178 hS, li_179 hS, li_180 hS, li_181 hS, li_183 hS, li_265 hS, li_266 hS, li_267 hS, li_268 hS, li_269 hS, li_270 hS, li_271 hS, li_272 hS, li_273 hS, li_274 hS, li_275 hS, li_276 hS, li_38 hS, li_94 hS, li_102 hS, li_125 hS, li_153 hS, li_170 hS, li_D_1 hS, li_D_2 hS, li_D_3 hS, li_D_4 hS, li_D_5 hS, li_D_26 hS, li_D_r hS, li_G_1 hS, li_G_2 hS, li_G_3 hS, li_rA hS, li_rK hS, li_rX hS, il_0, il_1, il_2, il_3, il_4, il_5, il_6, il_7, il_8, il_9, il_10, il_11, il_12, il_13, il_15, il_16, il_17, il_18, il_19, il_20, il_21, il_22, il_23, il_24, il_26, il_27, il_28, il_30, il_32, il_34, il_36, il_38, il_40, il_43, il_44, il_46, il_47, il_48, il_49, il_50, il_51, il_60, il_64, il_100, il_108, il_111, il_127, il_971, il_972, il_999, il_1000, il_1024, il_1087, il_2500, il_5000, il_9999, il_60000, il_2147483647, nI_add, nI_mulI, nI_subI, nI_divI, nI_cl, nI_leJ, nI_ltJ, nI_eqJ, nI_neM, nI_neM', il_31, aw_sI_e, aw_sI_n, aw_sI_2, aw_sL_e, aw_sL_n, aw_sL_1, Option.bind_some, aw_chkT, ck_and0, ck_and1, bI_t, bI_f, nar_0, nar_1]
  by_cases e : b = 0
  · subst e
    rw [FU1]
    exact L_speaks_0 (k := fun x6_7 d_8 => some (x6_7, d_8)) 4999
  · have h := L_speaks_L (k := fun x d => some (x, d)) hS hW hQ (show b - 1 < 3 by omega) hw hp (A 6 0 (b - 1)) 0 aw_FU (by omega) (by have := (hW.2.2.2.2.1 (b - 1) (by omega)).1; show _ < 5000; omega)
    rw [dc, if_neg e]
    rw [spk, if_neg e]
    exact h
