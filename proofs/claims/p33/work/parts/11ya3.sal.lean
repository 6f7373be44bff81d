/-! all words spelled by the law -/
theorem RepQ.e {A : St} {d d' : Dt} (h : RepQ A d) (e : d'.1 = d.1) : RepQ A d' := by unfold RepQ at h ⊢; rw [e]; exact h
theorem RepA.e {A : St} {D x : Nat} {d d' : Dt} (h : RepA A D x d) (e : d'.1 = d.1) : RepA A D x d' := h.lf (by rw [e])
/-- all words of a design stand in a row -/
def Spx (A : St) (D b x : Nat) (d : Dt) : Prop := ∀ w, w < A 2 0 0 → Lx d x w (sp A D b w)
theorem sp_wrd {A : St} (hW : WF A) {D b w : Nat} (hD : D < A 11 0 0) (hb : b < 4) (hw : w < A 2 0 0) : wrd (sp A D b w) := ⟨(sp_len hW D b hw).2, fun x hx => spl_lt hW hD hb hw _ (Nat.le_refl _) hx⟩
def FW (x w : Nat) (d d' : Dt) : Prop := d'.1 = d.1 ∧ ∀ a b, ¬ (a = x ∧ (b = 2 * w ∨ b = 2 * w + 1)) → d'.2 a b = d.2 a b
theorem FW.rf {x w : Nat} {d : Dt} : FW x w d d := ⟨rfl, fun _ _ _ => rfl⟩
theorem FW.w {x w j : Nat} {a d : Dt} {v : Int64} (hj : j = 2 * w ∨ j = 2 * w + 1) (h : FW x w a d) : FW x w a (aw_sL d x j v) := ⟨h.1, fun a b hab => by rw [← h.2 a b hab]; exact aw_sL_n (by omega)⟩
theorem Lx.o {d d' : Dt} {x w v : Nat} {l : List Nat} (h : Lx d x v l) (F : FW x w d d') (hv : v ≠ w) : Lx d' x v l := ⟨by rw [F.2 _ _ (by omega)]; exact h.1, by rw [F.2 _ _ (by omega)]; exact h.2⟩
theorem Lx.e {d d' : Dt} {x w : Nat} {l : List Nat} (h : Lx d x w l) (e : d'.2 x = d.2 x) : Lx d' x w l := ⟨by rw [e]; exact h.1, by rw [e]; exact h.2⟩
theorem Spx.e {A : St} {D b x : Nat} {d d' : Dt} (h : Spx A D b x d) (e : d'.2 x = d.2 x) : Spx A D b x d' := fun w hw => (h w hw).e e
theorem L_sa63 {σ : Sg} {d0 : Dt} {x w : Nat} {x0 x1 x2 x3 x4 : Nat} {x5 x9 : Int32} {Q : Unit × Dt → Prop} {k : Int32 → Dt → Option (Unit × Dt)} (hS : Lay σ) (hx : x = 275 ∨ x = 276) (hw : w < 6) : ∀ (r : List Nat) (f : Nat) (l : List Nat) (d : Dt), r.length < f → r.length ≤ 8 → wrd (l ++ r) → Lx d x w l → FW x w d0 d → (∀ d, Lx d x w (l ++ r) → FW x w d0 d → ok (k (nI (l ++ r).length) d) Q) → ok (f_L_spellsAll_L63 σ f k x0 x1 x2 x3 x4 x5 x (nI w) x9 (nI l.length) (nL (xk r)) d) Q := by
  intro r
  induction r with
  | nil =>
    intro f l d hf _ _ h1 h2 hk
    cases f with
    | zero => omega
    | succ f =>
      rw [List.append_nil] at hk
      show ok (f_L_spellsAll_B63 σ (f_L_spellsAll_L63 σ f k x0 x1 x2 x3 x4 x5 x (nI w) x9) k x0 x1 x2 x3 x4 x5 x (nI w) x9 (nI l.length) (nL (xk [])) d) Q
      have e : xk [] = 0 := rfl
      simp (disch := first | assumption | omega) only [f_L_spellsAll_B63, e, jl_0, lgcz, if_true, il_0, il_1, il_2, il_3, il_4, il_5, il_6, il_7, il_8, il_9, il_10, il_11, il_12, il_13, il_15, il_16, il_17, il_18, il_19, il_20, il_21, il_22, il_23, il_24, il_26, il_27, il_28, il_30, il_32, il_34, il_36, il_38, il_40, il_43, il_44, il_46, il_47, il_48, il_49, il_50, il_51, il_60, il_64, il_100, il_108, il_111, il_127, il_971, il_972, il_999, il_1000, il_1024, il_1087, il_2500, il_5000, il_9999, il_60000, il_2147483647, nI_add, nI_mulI, nI_subI, nI_divI, nI_cl, nI_leJ, nI_ltJ, nI_eqJ, nI_neM, nI_neM', il_31]
      exact hk d h1 h2
  | cons a r ih =>
    intro f l d hf h8 hwr h1 h2 hk
    cases f with
    | zero => simp at hf
    | succ f =>
      have hlen : (l ++ a :: r).length = l.length + r.length + 1 := by simp; omega
      have h16 := hwr.1
      rw [hlen] at h16
      have hr8 : r.length + 1 ≤ 8 := by simpa using h8
      have hf2 : r.length < f := by simp at hf; omega
      have hb : xk (a :: r) < 281474976710656 := xk_lt8 (fun y hy => by have := hwr.2 y (List.mem_append_right _ hy); omega) h8
      have ha := hwr.2 a (List.mem_append_right _ List.mem_cons_self)
      have e1 : xk (a :: r) / 64 = xk r := by simp only [xk]; omega
      have e2 : xk (a :: r) - xk r * 64 = a + 1 := by simp only [xk]; omega
      have e0 : ¬ xk (a :: r) = 0 := by simp only [xk]; omega
      have e3 : l.length - l.length / 8 * 8 = l.length % 8 := by omega
      have e4 : 6 * (l.length % 8) < 64 := by omega
      have e5 : 2 * w + l.length / 8 < 12 := by omega
      have e6 : (l ++ [a]) ++ r = l ++ a :: r := by simp
      have hwl : wrd l := ⟨by omega, fun y hy => hwr.2 y (List.mem_append_left _ hy)⟩
      show ok (f_L_spellsAll_B63 σ (f_L_spellsAll_L63 σ f k x0 x1 x2 x3 x4 x5 x (nI w) x9) k x0 x1 x2 x3 x4 x5 x (nI w) x9 (nI l.length) (nL (xk (a :: r))) d) Q
      generalize xk (a :: r) = V at *
      simp (disch := first | assumption | omega) only [f_L_spellsAll_B63, e0, e1, e2, e3, jl_0, jl_64, jl_63, lgcz, nL_divL, nL_mulL, nL_subJ, nI_L, nL_63, nL_shlL, if_false, lo_0 hS, lo_1 hS, lo_33 hS, lo_34 hS, lo_89 hS, lo_100 hS, lo_123 hS, lo_146 hS, lo_148 hS, lo_176 hS, lo_182 hS, lo_D hS, lo_G hS, lr_37 hS, lr_93 hS, lr_101 hS, lr_124 hS, lr_152 hS, lr_169 hS, lr_0_0 hS, lr_0_1 hS, lr_0_2 hS, lr_0_3 hS, lr_0_5 hS, lr_0_6 hS, lr_0_7 hS, lr_0_8 hS, lr_0_9 hS, lr_0_10 hS, lr_0_11 hS, lr_0_12 hS, lr_1_0 hS, lr_1_2 hS, lr_33_0 hS, lr_33_1 hS, lr_33_2 hS, lr_33_3 hS, lr_34_0 hS, lr_89_0 hS, lr_89_1 hS, lr_89_2 hS, lr_89_3 hS, lr_89_4 hS, lr_89_5 hS, lr_100_0 hS, lr_100_1 hS, lr_123_0 hS, lr_123_1 hS, lr_146_0 hS, lr_148_0 hS, lr_148_1 hS, lr_148_2 hS, lr_148_3 hS, lr_148_4 hS, lr_148_5 hS, lr_176_0 hS, lr_176_1 hS, lr_176_4 hS, lr_176_6 hS, lr_176_7 hS, lr_182_0 hS, lr_D_0 hS, lr_D_1 hS, lr_D_2 hS, lr_D_3 hS, lr_D_5 hS, lr_D_6 hS, lr_D_r hS, lr_31 hS, lr_32 hS, lr_G_2 hS, lr_G_3 hS, lr_G_4 hS, li_2 hS, li_3 hS, li_31 hS, li_32 hS, li_35 hS, li_36 hS, li_37 hS, li_88 hS, li_90 hS, li_91 hS, li_92 hS, li_93 hS, li_98 hS, li_99 hS, li_101 hS, li_122 hS, li_124 hS, li_145 hS, li_147 hS, li_149 hS, li_150 hS, li_151 hS, li_152 hS, li_169 hS, li_175 hS, li_177 hS, li_178 hS, li_179 hS, li_180 hS, li_181 hS, li_183 hS, li_265 hS, li_266 hS, li_267 hS, li_268 hS, li_269 hS, li_270 hS, li_271 hS, li_272 hS, li_273 hS, li_274 hS, li_275 hS, li_276 hS, li_38 hS, li_94 hS, li_102 hS, li_125 hS, li_153 hS, li_170 hS, li_D_1 hS, li_D_2 hS, li_D_3 hS, li_D_4 hS, li_D_5 hS, li_D_26 hS, li_D_r hS, li_G_1 hS, li_G_2 hS, li_G_3 hS, li_rA hS, li_rK hS, li_rX hS, il_0, il_1, il_2, il_3, il_4, il_5, il_6, il_7, il_8, il_9, il_10, il_11, il_12, il_13, il_15, il_16, il_17, il_18, il_19, il_20, il_21, il_22, il_23, il_24, il_26, il_27, il_28, il_30, il_32, il_34, il_36, il_38, il_40, il_43, il_44, il_46, il_47, il_48, il_49, il_50, il_51, il_60, il_64, il_100, il_108, il_111, il_127, il_971, il_972, il_999, il_1000, il_1024, il_1087, il_2500, il_5000, il_9999, il_60000, il_2147483647, nI_add, nI_mulI, nI_subI, nI_divI, nI_cl, nI_leJ, nI_ltJ, nI_eqJ, nI_neM, nI_neM', il_31, aw_sI_e, aw_sI_n, aw_sI_2, aw_sL_e, aw_sL_n, aw_sL_1, Option.bind_some, aw_chkT, ck_and0, ck_and1, bI_t, bI_f, nar_0, nar_1]
      have h3 := Lx_snoc (a := a) h1 hwl (by omega) rfl
      have hL : (l ++ [a]).length = l.length + 1 := by simp
      have h4 := ih f (l ++ [a]) _ hf2 (by omega) (by rw [e6]; exact hwr) h3 (h2.w (by omega)) (fun d g1 g2 => by rw [e6] at g1 ⊢; exact hk d g1 g2)
      rw [hL] at h4
      exact h4
theorem L_sa36 {A : St} {σ : Sg} {d0 : Dt} {D b a x w : Nat} {Q : Unit × Dt → Prop} {k : Dt → Option (Unit × Dt)} (hS : Lay σ) (hW : WF A) (hQ : RepQ A d0) (ha : a = 268 ∨ a = 269) (hA : RepA A D a d0) (hD : D < A 11 0 0) (hb : b < 4) (hx : x = 275 ∨ x = 276) (hw : w < A 2 0 0) (hk : ∀ d, Lx d x w (sp A D b w) → FW x w d0 d → ok (k d) Q) : ∀ (m i f : Nat) (d : Dt), i + m = A 3 0 w → m < f → Lx d x w (spl A D b w i) → FW x w d0 d → ok (f_L_spellsAll_L36 σ f k 265 266 267 a 274 (nI (dc b)) x (nI w) (nI (spl A D b w i).length) (nI i) d) Q := by
  have hw6 := hQ.w6
  have hn4 := (hW.w hw).2.1
  have hG := hW.G hD
  intro m
  induction m with
  | zero =>
    intro i f d hi hf h1 h2
    cases f with
    | zero => omega
    | succ f =>
      have ql : d.1 266 w = nI (A 3 0 w) := rq_len (hQ.e h2.1) hw
      show ok (f_L_spellsAll_B36 σ (f_L_spellsAll_L36 σ f k 265 266 267 a 274 (nI (dc b)) x (nI w)) k 265 266 267 a 274 (nI (dc b)) x (nI w) (nI (spl A D b w i).length) (nI i) d) Q
      simp (disch := first | assumption | omega) only [f_L_spellsAll_B36, ql, lo_0 hS, lo_1 hS, lo_33 hS, lo_34 hS, lo_89 hS, lo_100 hS, lo_123 hS, lo_146 hS, lo_148 hS, lo_176 hS, lo_182 hS, lo_D hS, lo_G hS, lr_37 hS, lr_93 hS, lr_101 hS, lr_124 hS, lr_152 hS, lr_169 hS, lr_0_0 hS, lr_0_1 hS, lr_0_2 hS, lr_0_3 hS, lr_0_5 hS, lr_0_6 hS, lr_0_7 hS, lr_0_8 hS, lr_0_9 hS, lr_0_10 hS, lr_0_11 hS, lr_0_12 hS, lr_1_0 hS, lr_1_2 hS, lr_33_0 hS, lr_33_1 hS, lr_33_2 hS, lr_33_3 hS, lr_34_0 hS, lr_89_0 hS, lr_89_1 hS, lr_89_2 hS, lr_89_3 hS, lr_89_4 hS, lr_89_5 hS, lr_100_0 hS, lr_100_1 hS, lr_123_0 hS, lr_123_1 hS, lr_146_0 hS, lr_148_0 hS, lr_148_1 hS, lr_148_2 hS, lr_148_3 hS, lr_148_4 hS, lr_148_5 hS, lr_176_0 hS, lr_176_1 hS, lr_176_4 hS, lr_176_6 hS, lr_176_7 hS, lr_182_0 hS, lr_D_0 hS, lr_D_1 hS, lr_D_2 hS, lr_D_3 hS, lr_D_5 hS, lr_D_6 hS, lr_D_r hS, lr_31 hS, lr_32 hS, lr_G_2 hS, lr_G_3 hS, lr_G_4 hS, li_2 hS, li_3 hS, li_31 hS, li_32 hS, li_35 hS, li_36 hS, li_37 hS, li_88 hS, li_90 hS, li_91 hS, li_92 hS, li_93 hS, li_98 hS, li_99 hS, li_101 hS, li_122 hS, li_124 hS, li_145 hS, li_147 hS, li_149 hS, li_150 hS, li_151 hS, li_152 hS, li_169 hS, li_175 hS, li_177 hS, li_178 hS, li_179 hS, li_180 hS, li_181 hS, li_183 hS, li_265 hS, li_266 hS, li_267 hS, li_268 hS, li_269 hS, li_270 hS, li_271 hS, li_272 hS, li_273 hS, li_274 hS, li_275 hS, li_276 hS, li_38 hS, li_94 hS, li_102 hS, li_125 hS, li_153 hS, li_170 hS, li_D_1 hS, li_D_2 hS, li_D_3 hS, li_D_4 hS, li_D_5 hS, li_D_26 hS, li_D_r hS, li_G_1 hS, li_G_2 hS, li_G_3 hS, li_rA hS, li_rK hS, li_rX hS, il_0, il_1, il_2, il_3, il_4, il_5, il_6, il_7, il_8, il_9, il_10, il_11, il_12, il_13, il_15, il_16, il_17, il_18, il_19, il_20, il_21, il_22, il_23, il_24, il_26, il_27, il_28, il_30, il_32, il_34, il_36, il_38, il_40, il_43, il_44, il_46, il_47, il_48, il_49, il_50, il_51, il_60, il_64, il_100, il_108, il_111, il_127, il_971, il_972, il_999, il_1000, il_1024, il_1087, il_2500, il_5000, il_9999, il_60000, il_2147483647, nI_add, nI_mulI, nI_subI, nI_divI, nI_cl, nI_leJ, nI_ltJ, nI_eqJ, nI_neM, nI_neM', il_31, aw_sI_e, aw_sI_n, aw_sI_2, aw_sL_e, aw_sL_n, aw_sL_1, Option.bind_some, aw_chkT, ck_and0, ck_and1, bI_t, bI_f, nar_0, nar_1]
      rw [if_pos (by omega)]
      obtain rfl : i = A 3 0 w := by omega
      exact hk d h1 h2
  | succ m ih =>
    intro i f d hi hf h1 h2
    cases f with
    | zero => omega
    | succ f =>
      have hlt : i < A 3 0 w := by omega
      have ql : d.1 266 w = nI (A 3 0 w) := rq_len (hQ.e h2.1) hw
      have hc := spk_lt hW hb hw hlt
      have hsp := L_speaks hS hW (hQ.e h2.1) hb hw hlt
      have hse := L_spells hS ha (hA.e h2.1) hG.2.2.1 hG.2.2.2.1 hG.1 hc
      have hl := syl_len A D (spk A b w i)
      show ok (f_L_spellsAll_B36 σ (f_L_spellsAll_L36 σ f k 265 266 267 a 274 (nI (dc b)) x (nI w)) k 265 266 267 a 274 (nI (dc b)) x (nI w) (nI (spl A D b w i).length) (nI i) d) Q
      simp (disch := first | assumption | omega) only [f_L_spellsAll_B36, ql, hsp, hse, lo_0 hS, lo_1 hS, lo_33 hS, lo_34 hS, lo_89 hS, lo_100 hS, lo_123 hS, lo_146 hS, lo_148 hS, lo_176 hS, lo_182 hS, lo_D hS, lo_G hS, lr_37 hS, lr_93 hS, lr_101 hS, lr_124 hS, lr_152 hS, lr_169 hS, lr_0_0 hS, lr_0_1 hS, lr_0_2 hS, lr_0_3 hS, lr_0_5 hS, lr_0_6 hS, lr_0_7 hS, lr_0_8 hS, lr_0_9 hS, lr_0_10 hS, lr_0_11 hS, lr_0_12 hS, lr_1_0 hS, lr_1_2 hS, lr_33_0 hS, lr_33_1 hS, lr_33_2 hS, lr_33_3 hS, lr_34_0 hS, lr_89_0 hS, lr_89_1 hS, lr_89_2 hS, lr_89_3 hS, lr_89_4 hS, lr_89_5 hS, lr_100_0 hS, lr_100_1 hS, lr_123_0 hS, lr_123_1 hS, lr_146_0 hS, lr_148_0 hS, lr_148_1 hS, lr_148_2 hS, lr_148_3 hS, lr_148_4 hS, lr_148_5 hS, lr_176_0 hS, lr_176_1 hS, lr_176_4 hS, lr_176_6 hS, lr_176_7 hS, lr_182_0 hS, lr_D_0 hS, lr_D_1 hS, lr_D_2 hS, lr_D_3 hS, lr_D_5 hS, lr_D_6 hS, lr_D_r hS, lr_31 hS, lr_32 hS, lr_G_2 hS, lr_G_3 hS, lr_G_4 hS, li_2 hS, li_3 hS, li_31 hS, li_32 hS, li_35 hS, li_36 hS, li_37 hS, li_88 hS, li_90 hS, li_91 hS, li_92 hS, li_93 hS, li_98 hS, li_99 hS, li_101 hS, li_122 hS, li_124 hS, li_145 hS, li_147 hS, li_149 hS, li_150 hS, li_151 hS, li_152 hS, li_169 hS, li_175 hS, li_177 hS, li_178 hS, li_179 hS, li_180 hS, li_181 hS, li_183 hS, li_265 hS, li_266 hS, li_267 hS, li_268 hS, li_269 hS, li_270 hS, li_271 hS, li_272 hS, li_273 hS, li_274 hS, li_275 hS, li_276 hS, li_38 hS, li_94 hS, li_102 hS, li_125 hS, li_153 hS, li_170 hS, li_D_1 hS, li_D_2 hS, li_D_3 hS, li_D_4 hS, li_D_5 hS, li_D_26 hS, li_D_r hS, li_G_1 hS, li_G_2 hS, li_G_3 hS, li_rA hS, li_rK hS, li_rX hS, il_0, il_1, il_2, il_3, il_4, il_5, il_6, il_7, il_8, il_9, il_10, il_11, il_12, il_13, il_15, il_16, il_17, il_18, il_19, il_20, il_21, il_22, il_23, il_24, il_26, il_27, il_28, il_30, il_32, il_34, il_36, il_38, il_40, il_43, il_44, il_46, il_47, il_48, il_49, il_50, il_51, il_60, il_64, il_100, il_108, il_111, il_127, il_971, il_972, il_999, il_1000, il_1024, il_1087, il_2500, il_5000, il_9999, il_60000, il_2147483647, nI_add, nI_mulI, nI_subI, nI_divI, nI_cl, nI_leJ, nI_ltJ, nI_eqJ, nI_neM, nI_neM', il_31, aw_sI_e, aw_sI_n, aw_sI_2, aw_sL_e, aw_sL_n, aw_sL_1, Option.bind_some, aw_chkT, ck_and0, ck_and1, bI_t, bI_f, nar_0, nar_1]
      rw [if_neg (by omega)]
      have hwr : wrd (spl A D b w i ++ syl A D (spk A b w i)) := ⟨by have := (spl_len A D b w (i + 1)).2; show (spl A D b w (i + 1)).length ≤ 16; omega, fun y hy => spl_lt hW hD hb hw (i + 1) (by omega) hy⟩
      exact L_sa63 (d0 := d0) hS hx (by omega) (syl A D (spk A b w i)) aw_FU (spl A D b w i) d (by show _ < 5000; omega) (by omega) hwr h1 h2 (fun d' g1 g2 => ih (i + 1) f d' (by omega) (by omega) g1 g2)
theorem L_sa3 {A : St} {σ : Sg} {d0 : Dt} {D b a x : Nat} {Q : Unit × Dt → Prop} {k : Dt → Option (Unit × Dt)} (hS : Lay σ) (hW : WF A) (hQ : RepQ A d0) (ha : a = 268 ∨ a = 269) (hA : RepA A D a d0) (hD : D < A 11 0 0) (hb : b < 4) (hx : x = 275 ∨ x = 276) (hk : ∀ d, Spx A D b x d → FX x d0 d → ok (k d) Q) : ∀ (m i f : Nat) (d : Dt), i + m = A 2 0 0 → m < f → (∀ w, w < i → Lx d x w (sp A D b w)) → FX x d0 d → ok (f_L_spellsAll_L3 σ f k 265 266 267 a 274 (nI (dc b)) x (nI i) d) Q := by
  have hw6 := hQ.w6
  intro m
  induction m with
  | zero =>
    intro i f d hi hf h1 h2
    cases f with
    | zero => omega
    | succ f =>
      have ql := rq_words (hQ.e h2.1)
      show ok (f_L_spellsAll_B3 σ (f_L_spellsAll_L3 σ f k 265 266 267 a 274 (nI (dc b)) x) k 265 266 267 a 274 (nI (dc b)) x (nI i) d) Q
      simp (disch := first | assumption | omega) only [f_L_spellsAll_B3, ql, lo_0 hS, lo_1 hS, lo_33 hS, lo_34 hS, lo_89 hS, lo_100 hS, lo_123 hS, lo_146 hS, lo_148 hS, lo_176 hS, lo_182 hS, lo_D hS, lo_G hS, lr_37 hS, lr_93 hS, lr_101 hS, lr_124 hS, lr_152 hS, lr_169 hS, lr_0_0 hS, lr_0_1 hS, lr_0_2 hS, lr_0_3 hS, lr_0_5 hS, lr_0_6 hS, lr_0_7 hS, lr_0_8 hS, lr_0_9 hS, lr_0_10 hS, lr_0_11 hS, lr_0_12 hS, lr_1_0 hS, lr_1_2 hS, lr_33_0 hS, lr_33_1 hS, lr_33_2 hS, lr_33_3 hS, lr_34_0 hS, lr_89_0 hS, lr_89_1 hS, lr_89_2 hS, lr_89_3 hS, lr_89_4 hS, lr_89_5 hS, lr_100_0 hS, lr_100_1 hS, lr_123_0 hS, lr_123_1 hS, lr_146_0 hS, lr_148_0 hS, lr_148_1 hS, lr_148_2 hS, lr_148_3 hS, lr_148_4 hS, lr_148_5 hS, lr_176_0 hS, lr_176_1 hS, lr_176_4 hS, lr_176_6 hS, lr_176_7 hS, lr_182_0 hS, lr_D_0 hS, lr_D_1 hS, lr_D_2 hS, lr_D_3 hS, lr_D_5 hS, lr_D_6 hS, lr_D_r hS, lr_31 hS, lr_32 hS, lr_G_2 hS, lr_G_3 hS, lr_G_4 hS, li_2 hS, li_3 hS, li_31 hS, li_32 hS, li_35 hS, li_36 hS, li_37 hS, li_88 hS, li_90 hS, li_91 hS, li_92 hS, li_93 hS, li_98 hS, li_99 hS, li_101 hS, li_122 hS, li_124 hS, li_145 hS, li_147 hS, li_149 hS, li_150 hS, li_151 hS, li_152 hS, li_169 hS, li_175 hS, li_177 hS, li_178 hS, li_179 hS, li_180 hS, li_181 hS, li_183 hS, li_265 hS, li_266 hS, li_267 hS, li_268 hS, li_269 hS, li_270 hS, li_271 hS, li_272 hS, li_273 hS, li_274 hS, li_275 hS, li_276 hS, li_38 hS, li_94 hS, li_102 hS, li_125 hS, li_153 hS, li_170 hS, li_D_1 hS, li_D_2 hS, li_D_3 hS, li_D_4 hS, li_D_5 hS, li_D_26 hS, li_D_r hS, li_G_1 hS, li_G_2 hS, li_G_3 hS, li_rA hS, li_rK hS, li_rX hS, il_0, il_1, il_2, il_3, il_4, il_5, il_6, il_7, il_8, il_9, il_10, il_11, il_12, il_13, il_15, il_16, il_17, il_18, il_19, il_20, il_21, il_22, il_23, il_24, il_26, il_27, il_28, il_30, il_32, il_34, il_36, il_38, il_40, il_43, il_44, il_46, il_47, il_48, il_49, il_50, il_51, il_60, il_64, il_100, il_108, il_111, il_127, il_971, il_972, il_999, il_1000, il_1024, il_1087, il_2500, il_5000, il_9999, il_60000, il_2147483647, nI_add, nI_mulI, nI_subI, nI_divI, nI_cl, nI_leJ, nI_ltJ, nI_eqJ, nI_neM, nI_neM', il_31, aw_sI_e, aw_sI_n, aw_sI_2, aw_sL_e, aw_sL_n, aw_sL_1, Option.bind_some, aw_chkT, ck_and0, ck_and1, bI_t, bI_f, nar_0, nar_1]
      rw [if_pos (by omega)]
      obtain rfl : i = A 2 0 0 := by omega
      exact hk d h1 h2
  | succ m ih =>
    intro i f d hi hf h1 h2
    cases f with
    | zero => omega
    | succ f =>
      have hlt : i < A 2 0 0 := by omega
      have hn4 := (hW.w hlt).2.1
      have ql := rq_words (hQ.e h2.1)
      have hi2 : 2 * i + 1 < 12 := by omega
      show ok (f_L_spellsAll_B3 σ (f_L_spellsAll_L3 σ f k 265 266 267 a 274 (nI (dc b)) x) k 265 266 267 a 274 (nI (dc b)) x (nI i) d) Q
      simp (disch := first | assumption | omega) only [f_L_spellsAll_B3, ql, jl_0, lo_0 hS, lo_1 hS, lo_33 hS, lo_34 hS, lo_89 hS, lo_100 hS, lo_123 hS, lo_146 hS, lo_148 hS, lo_176 hS, lo_182 hS, lo_D hS, lo_G hS, lr_37 hS, lr_93 hS, lr_101 hS, lr_124 hS, lr_152 hS, lr_169 hS, lr_0_0 hS, lr_0_1 hS, lr_0_2 hS, lr_0_3 hS, lr_0_5 hS, lr_0_6 hS, lr_0_7 hS, lr_0_8 hS, lr_0_9 hS, lr_0_10 hS, lr_0_11 hS, lr_0_12 hS, lr_1_0 hS, lr_1_2 hS, lr_33_0 hS, lr_33_1 hS, lr_33_2 hS, lr_33_3 hS, lr_34_0 hS, lr_89_0 hS, lr_89_1 hS, lr_89_2 hS, lr_89_3 hS, lr_89_4 hS, lr_89_5 hS, lr_100_0 hS, lr_100_1 hS, lr_123_0 hS, lr_123_1 hS, lr_146_0 hS, lr_148_0 hS, lr_148_1 hS, lr_148_2 hS, lr_148_3 hS, lr_148_4 hS, lr_148_5 hS, lr_176_0 hS, lr_176_1 hS, lr_176_4 hS, lr_176_6 hS, lr_176_7 hS, lr_182_0 hS, lr_D_0 hS, lr_D_1 hS, lr_D_2 hS, lr_D_3 hS, lr_D_5 hS, lr_D_6 hS, lr_D_r hS, lr_31 hS, lr_32 hS, lr_G_2 hS, lr_G_3 hS, lr_G_4 hS, li_2 hS, li_3 hS, li_31 hS, li_32 hS, li_35 hS, li_36 hS, li_37 hS, li_88 hS, li_90 hS, li_91 hS, li_92 hS, li_93 hS, li_98 hS, li_99 hS, li_101 hS, li_122 hS, li_124 hS, li_145 hS, li_147 hS, li_149 hS, li_150 hS, li_151 hS, li_152 hS, li_169 hS, li_175 hS, li_177 hS, li_178 hS, li_179 hS, li_180 hS, li_181 hS, li_183 hS, li_265 hS, li_266 hS, li_267 hS, li_268 hS, li_269 hS, li_270 hS, li_271 hS, li_272 hS, li_273 hS, li_274 hS, li_275 hS, li_276 hS, li_38 hS, li_94 hS, li_102 hS, li_125 hS, li_153 hS, li_170 hS, li_D_1 hS, li_D_2 hS, li_D_3 hS, li_D_4 hS, li_D_5 hS, li_D_26 hS, li_D_r hS, li_G_1 hS, li_G_2 hS, li_G_3 hS, li_rA hS, li_rK hS, li_rX hS, il_0, il_1, il_2, il_3, il_4, il_5, il_6, il_7, il_8, il_9, il_10, il_11, il_12, il_13, il_15, il_16, il_17, il_18, il_19, il_20, il_21, il_22, il_23, il_24, il_26, il_27, il_28, il_30, il_32, il_34, il_36, il_38, il_40, il_43, il_44, il_46, il_47, il_48, il_49, il_50, il_51, il_60, il_64, il_100, il_108, il_111, il_127, il_971, il_972, il_999, il_1000, il_1024, il_1087, il_2500, il_5000, il_9999, il_60000, il_2147483647, nI_add, nI_mulI, nI_subI, nI_divI, nI_cl, nI_leJ, nI_ltJ, nI_eqJ, nI_neM, nI_neM', il_31, aw_sI_e, aw_sI_n, aw_sI_2, aw_sL_e, aw_sL_n, aw_sL_1, Option.bind_some, aw_chkT, ck_and0, ck_and1, bI_t, bI_f, nar_0, nar_1]
      rw [if_neg (by omega)]
      have F0 : FW x i d (aw_sL (aw_sL d x (2 * i) (nL 0)) x (2 * i + 1) (nL 0)) := (FW.rf.w (Or.inl rfl)).w (Or.inr rfl)
      refine L_sa36 (d0 := d) (k := fun d_12 => f_L_spellsAll_L3 σ f k 265 266 267 a 274 (nI (dc b)) x (nI (i + 1)) d_12) hS hW (hQ.e h2.1) ha (hA.e h2.1) hD hb hx hlt (fun d' g1 g2 => ?_) (A 3 0 i) 0 aw_FU _ (by omega) (by show _ < 5000; omega) ⟨?_, ?_⟩ F0
      · refine ih (i + 1) f d' (by omega) (by omega) (fun w hw => ?_) (h2.tr ⟨g2.1, fun c hc => ?_⟩)
        · by_cases e : w = i
          · subst e; exact g1
          · exact (h1 w (by omega)).o g2 e
        · funext j; exact g2.2 c j (by omega)
      · rw [aw_sL_n (by omega), aw_sL_e rfl rfl]; rfl
      · rw [aw_sL_e rfl rfl]; rfl
theorem L_spellsAll {A : St} {σ : Sg} {d : Dt} {D b a x : Nat} (hS : Lay σ) (hW : WF A) (hQ : RepQ A d) (ha : a = 268 ∨ a = 269) (hA : RepA A D a d) (hD : D < A 11 0 0) (hb : b < 4) (hx : x = 275 ∨ x = 276) : ok (f_L_spellsAll σ 265 266 267 a 274 (nI (dc b)) x d) (fun z => Spx A D b x z.2 ∧ FX x d z.2) := by
  have hw6 := hQ.w6
  simp only [f_L_spellsAll, il_0]
  exact L_sa3 (d0 := d) (k := fun d_13 => some ((), d_13)) hS hW hQ ha hA hD hb hx (fun d' g1 g2 => ok_some ⟨g1, g2⟩) (A 2 0 0) 0 aw_FU d (by omega) (by show _ < 5000; omega) (fun w hw => by omega) FX.rf
