/-! one design, all of its numbers -/
theorem SoLF {A : St} {σ : Sg} {d d' : Dt} (hW : WF A) (hC : RepC A d) (hL : RepL A d) (F : LF (277 + 4 * A 11 0 0) d d') : RepC A d' ∧ RepL A d' := ⟨hC.lf hW.words F, hL.lf hW (by omega) F⟩
/-- a design's own spellings stand in the first row -/
def SoX (A : St) (D : Nat) (d : Dt) : Prop := RepC A d ∧ RepL A d ∧ Spx A D (A 13 0 D) 275 d
theorem SoX.c {A : St} {D : Nat} {d d' : Dt} (h : SoX A D d) (hC : RepC A d') (F : FrC d d') : SoX A D d' := ⟨hC, h.2.1.c F, h.2.2.e (F 275 (by omega) (by omega)).2⟩
theorem SoX.l {A : St} {D : Nat} {d d' : Dt} (h : SoX A D d) (hW : WF A) (F : LF (277 + 4 * A 11 0 0) d d') (e : d'.2 275 = d.2 275) : SoX A D d' := ⟨h.1.lf hW.words F, h.2.1.lf hW (by omega) F, h.2.2.e e⟩
theorem SoX.a {A : St} {D : Nat} {d : Dt} (h : SoX A D d) (hD : D < A 11 0 0) : RepA A D (268 + D) d := h.2.1.2.1 D hD
theorem RepQ.cg {A B : St} {d : Dt} (h : RepQ A d) (e : ∀ f i j, f ≤ 11 → B f i j = A f i j) : RepQ B d := by
  unfold RepQ at h ⊢
  simp only [e 0 _ _ (by omega), e 1 _ _ (by omega), e 2 _ _ (by omega), e 3 _ _ (by omega), e 4 _ _ (by omega), e 5 _ _ (by omega), e 6 _ _ (by omega), e 7 _ _ (by omega), e 8 _ _ (by omega), e 9 _ _ (by omega), e 10 _ _ (by omega), e 11 _ _ (by omega)]
  exact h
theorem flip_n {A : St} {D t f i j : Nat} (h : ¬ (f = 15 ∧ i = D ∧ j = t)) : flipM A D t f i j = A f i j := stU_n h
theorem flip_e {A : St} {D t : Nat} : flipM A D t 15 D t = 1 - A 15 D t := stU_e rfl rfl rfl
theorem xor_b {a b c t : Nat} (ha : a ≤ 1) (hb : b ≤ 1) (hc : c ≤ 1) (ht : t < 3) : nI (a + 2 * b + 4 * c) ^^^ (nI 1 <<< (nI t &&& nI 31)) = nI ((if t = 0 then 1 - a else a) + 2 * (if t = 1 then 1 - b else b) + 4 * (if t = 2 then 1 - c else c)) := (by decide +kernel : ∀ a, a < 2 → ∀ b, b < 2 → ∀ c, c < 2 → ∀ t, t < 3 → nI (a + 2 * b + 4 * c) ^^^ (nI 1 <<< (nI t &&& nI 31)) = nI ((if t = 0 then 1 - a else a) + 2 * (if t = 1 then 1 - b else b) + 4 * (if t = 2 then 1 - c else c))) a (by omega) b (by omega) c (by omega) t ht
theorem flip_15 {A : St} {D t k : Nat} : flipM A D t 15 D k = if t = k then 1 - A 15 D k else A 15 D k := by
  by_cases e : t = k
  · subst e; rw [if_pos rfl, flip_e]
  · rw [if_neg e, flip_n (by omega)]
theorem xor_flip {A : St} {D t : Nat} (hm : ∀ t, t < 3 → A 15 D t ≤ 1) (ht : t < 3) : nI (mkB A D) ^^^ (nI 1 <<< (nI t &&& nI 31)) = nI (mkB (flipM A D t) D) := by
  unfold mkB
  rw [xor_b (hm 0 (by omega)) (hm 1 (by omega)) (hm 2 (by omega)) ht, flip_15, flip_15, flip_15]
theorem xor_back {A : St} {D t : Nat} (hm : ∀ t, t < 3 → A 15 D t ≤ 1) (ht : t < 3) : nI (mkB (flipM A D t) D) ^^^ (nI 1 <<< (nI t &&& nI 31)) = nI (mkB A D) := by
  have h0 := hm 0 (by omega)
  have h1 := hm 1 (by omega)
  have h2 := hm 2 (by omega)
  unfold mkB
  rw [xor_b (by rw [flip_15]; split <;> omega) (by rw [flip_15]; split <;> omega) (by rw [flip_15]; split <;> omega) ht, flip_15, flip_15, flip_15]
  congr 1
  repeat' split
  all_goals omega
theorem m31 (x : Int32) : x &&& 31 = x &&& nI 31 := rfl
theorem So_J383 {A : St} {σ : Sg} {d : Dt} {D two : Nat} (hS : Lay σ) (hn : ly_n σ = A 11 0 0) (hW : WF A) (hC : RepC A d) (hL : RepL A d) (hD : D < A 11 0 0) (ht : two < 60000) : ok (f_L_isSo_J383 σ (nI 1) 0 265 266 267 (268 + D) 274 (nI D) (nI two) 276 (nI (dc (A 13 0 D))) d) (fun z => z.1 = nI 1 ∧ RepC A z.2 ∧ RepL A z.2) := by
  have h5 := hW.des
  have hQ := hL.1
  have hw6 := hQ.w6
  have hD2 : D < 2 := by have := hQ.d2; omega
  have hG := hW.G hD
  have hA := hL.2.1 D hD
  have ha : 268 + D = 268 ∨ 268 + D = 269 := by omega
  have t3 : two - two / 3 * 3 = two % 3 := by omega
  have ht3 : two % 3 < 3 := by omega
  have c3 : nI two - nI two / (3 : Int32) * (3 : Int32) = nI (two % 3) := by simp (disch := first | assumption | omega) only [t3, il_0, il_1, il_2, il_3, il_4, il_5, il_6, il_7, il_8, il_9, il_10, il_11, il_12, il_13, il_15, il_16, il_17, il_18, il_19, il_20, il_21, il_22, il_23, il_24, il_26, il_27, il_28, il_30, il_32, il_34, il_36, il_38, il_40, il_43, il_44, il_46, il_47, il_48, il_49, il_50, il_51, il_60, il_64, il_100, il_108, il_111, il_127, il_971, il_972, il_999, il_1000, il_1024, il_1087, il_2500, il_5000, il_9999, il_60000, il_2147483647, nI_add, nI_mulI, nI_subI, nI_divI, nI_cl, nI_leJ, nI_ltJ, nI_eqJ, nI_neM, nI_neM', il_31]
  have q49 := hA.2.2.2
  have hc49 : aw_I σ 20 (268 + D) (nI 49) := by rcases ha with e | e <;> rw [e] <;> exact ly_I (N := 50) hS (by decide) (by decide) (by decide) (by decide)
  have e11 : ∀ f i j, f ≤ 11 → flipM A D (two % 3) f i j = A f i j := fun f i j hf => flip_n (by omega)
  have hW' := hW.flip D (two % 3)
  have e13 : flipM A D (two % 3) 13 0 D = A 13 0 D := flip_n (by omega)
  have hD' : D < flipM A D (two % 3) 11 0 0 := by rw [e11 11 0 0 (by omega)]; exact hD
  generalize hd1 : aw_sI d (268 + D) 49 (nI (mkB (flipM A D (two % 3)) D)) = d1
  have r1 : ∀ c, c ≠ 268 + D → d1.1 c = d.1 c := fun c hc => by rw [← hd1]; funext j; exact aw_sI_n (by omega)
  have hQ1 : RepQ A d1 := by
    obtain ⟨h1, h2, h3, h4, h5, h6, h7, h8, h9, h10, h11⟩ := hQ
    refine ⟨?_, ?_, ?_, ?_, ?_, ?_, ?_, ?_, ?_, h10, h11⟩
    · rw [r1 265 (by omega)]; exact h1
    · rw [r1 265 (by omega)]; exact h2
    · rw [r1 266 (by omega)]; exact h3
    · rw [r1 266 (by omega)]; exact h4
    · rw [r1 266 (by omega)]; exact h5
    · rw [r1 267 (by omega)]; exact h6
    · rw [r1 267 (by omega)]; exact h7
    · rw [r1 274 (by omega)]; exact h8
    · rw [r1 274 (by omega)]; exact h9
  have hA1 : RepA (flipM A D (two % 3)) D (268 + D) d1 := by
    refine ⟨fun u hu => ?_, ?_, ?_, ?_⟩
    · rw [← hd1, aw_sI_n (by omega), flip_n (by omega)]; exact hA.1 u hu
    · rw [← hd1, aw_sI_n (by omega), flip_n (by omega)]; exact hA.2.1
    · rw [← hd1, aw_sI_n (by omega), flip_n (by omega)]; exact hA.2.2.1
    · rw [← hd1, aw_sI_e rfl rfl]
  obtain ⟨z, hz, s1, F1⟩ := L_spellsAll (b := A 13 0 D) (x := 276) hS hW' (hQ1.cg e11) ha hA1 hD' (by have := hG.2.1; omega) (Or.inr rfl)
  have q49z : z.2.1 (268 + D) 49 = nI (mkB (flipM A D (two % 3)) D) := by rw [F1.1, ← hd1, aw_sI_e rfl rfl]
  generalize hd2 : aw_sI z.2 (268 + D) 49 (nI (mkB A D)) = d2
  have r2 : d2.1 = d.1 := by
    rw [← hd2]
    funext c j
    by_cases e : c = 268 + D ∧ j = 49
    · obtain ⟨rfl, rfl⟩ := e
      rw [aw_sI_e rfl rfl, q49]
    · rw [aw_sI_n e, F1.1, ← hd1, aw_sI_n e]
  have F2 : LF (277 + 4 * A 11 0 0) d d2 := ⟨fun c _ _ => by rw [r2], fun j _ => by rw [r2], fun c _ _ hc => by rw [← hd2]; exact (F1.2 c hc).trans (by rw [← hd1]; rfl)⟩
  obtain ⟨hC2, hL2⟩ := SoLF (σ := σ) hW hC hL F2
  have s2 : Spx (flipM A D (two % 3)) D (A 13 0 D) 276 d2 := by rw [← hd2]; exact s1
  have hlo := C_loadIf hS hn hW hC2 (nI D) (nI (two % 3))
  have eo : o_loadIf A (nI D) (nI (two % 3)) = (0, nI (loadS (flipM A D (two % 3)) D), A) := by
    unfold o_loadIf
    rw [if_pos ⟨ix_t hD (by omega), ix_t ht3 (by omega)⟩, nI_cl (by omega), nI_cl (by omega)]
  rw [eo] at hlo
  unfold f_L_isSo_J383
  simp only [c3, il_49, il_1, m31, nI_cl (show 49 < 2147483648 by omega), q49, xor_flip hG.2.2.2.1 ht3, hd1]
  refine ok_chk hc49 ?_
  rw [hz, Option.bind_some, if_neg (by decide), q49z, xor_back hG.2.2.2.1 ht3, hd2]
  refine ok_chk (ly_O hS (by decide) (by decide)) (nt_of hlo (fun y y1 y2 => ?_))
  have hLy := hL2.c y2
  have s3 : Spx (flipM A D (two % 3)) D (flipM A D (two % 3) 13 0 D) 276 y.2 := by rw [e13]; exact s2.e (y2 276 (by omega) (by omega)).2
  have hl := L_load (A := flipM A D (two % 3)) hS hW' (hLy.1.cg e11) hD' (Or.inr rfl) s3
  refine ok_bs hl ?_
  rw [if_pos rfl]
  exact ok_some ⟨rfl, y1, hLy⟩
theorem So_J334 {A : St} {σ : Sg} {d : Dt} {D one two : Nat} (hS : Lay σ) (hn : ly_n σ = A 11 0 0) (hW : WF A) (hX : SoX A D d) (hD : D < A 11 0 0) (h1 : one < 60000) (ht : two < 60000) : ok (f_L_isSo_J334 σ 0 265 266 267 (268 + D) 274 (nI D) (nI one) (nI two) 275 276 (nI (dc (A 13 0 D))) (nI 1) d) (fun z => z.1 = nI 1 ∧ RepC A z.2 ∧ RepL A z.2) := by
  have h5 := hW.des
  have hQ := hX.2.1.1
  have hD2 : D < 2 := by have := hQ.d2; omega
  have ha : 268 + D = 268 ∨ 268 + D = 269 := by omega
  have t3 : one - one / 3 * 3 = one % 3 := by omega
  have c3 : nI one - nI one / (3 : Int32) * (3 : Int32) = nI (one % 3) := by simp (disch := first | assumption | omega) only [t3, il_0, il_1, il_2, il_3, il_4, il_5, il_6, il_7, il_8, il_9, il_10, il_11, il_12, il_13, il_15, il_16, il_17, il_18, il_19, il_20, il_21, il_22, il_23, il_24, il_26, il_27, il_28, il_30, il_32, il_34, il_36, il_38, il_40, il_43, il_44, il_46, il_47, il_48, il_49, il_50, il_51, il_60, il_64, il_100, il_108, il_111, il_127, il_971, il_972, il_999, il_1000, il_1024, il_1087, il_2500, il_5000, il_9999, il_60000, il_2147483647, nI_add, nI_mulI, nI_subI, nI_divI, nI_cl, nI_leJ, nI_ltJ, nI_eqJ, nI_neM, nI_neM', il_31]
  have cd : nI (one % 3) = nI (dc (one % 3 + 1)) := by unfold dc; rw [if_neg (by omega)]; rfl
  obtain ⟨z, hz, s1, F1⟩ := L_spellsAll (b := one % 3 + 1) (x := 276) hS hW hQ ha (hX.a hD) hD (by omega) (Or.inr rfl)
  have hX1 : SoX A D z.2 := hX.l hW (F1.lf (Or.inr rfl)) (F1.2 275 (by omega))
  have hf := C_fit hS hn hW hX1.1 (nI D) (nI (one % 3))
  have eo : o_fit A (nI D) (nI (one % 3)) = (0, nI (fitS A D (one % 3 + 1)), A) := by
    unfold o_fit
    rw [if_pos ⟨ix_t hD (by omega), ix_t (by omega) (by omega)⟩, nI_cl (by omega), nI_cl (by omega)]
  rw [eo] at hf
  unfold f_L_isSo_J334
  simp only [c3]
  refine ok_bs (by rw [cd]; exact hz) ?_
  rw [if_neg (show ¬ nI 1 = 0 by decide)]
  refine ok_chk (ly_O hS (by decide) (by decide)) (nt_of hf (fun y y1 y2 => ?_))
  have hX2 := hX1.c y1 y2
  have s2 : Spx A D (one % 3 + 1) 276 y.2 := s1.e (y2 276 (by omega) (by omega)).2
  refine ok_bs (L_fit hS hW hX2.2.1.1 hD (by omega) (Or.inl rfl) (Or.inr rfl) hX2.2.2 s2) ?_
  rw [if_pos rfl]
  exact So_J383 hS hn hW hX2.1 hX2.2.1 hD ht
theorem So_J246 {A : St} {σ : Sg} {d : Dt} {D one two : Nat} (hS : Lay σ) (hn : ly_n σ = A 11 0 0) (hW : WF A) (hX : SoX A D d) (hD : D < A 11 0 0) (h1 : one < 60000) (ht : two < 60000) : ok (f_L_isSo_J246 σ 0 265 266 267 (268 + D) 274 (nI D) (nI one) (nI two) 275 276 (nI (dc (A 13 0 D))) (nI 1) d) (fun z => z.1 = nI 1 ∧ RepC A z.2 ∧ RepL A z.2) := by
  have h5 := hW.des
  have hQ := hX.2.1.1
  have hw6 := hQ.w6
  have hD2 : D < 2 := by have := hQ.d2; omega
  have ha : 268 + D = 268 ∨ 268 + D = 269 := by omega
  have t5 : one - one / 5 * 5 = one % 5 := by omega
  have c5 : nI one - nI one / (5 : Int32) * (5 : Int32) = nI (one % 5) := by simp (disch := first | assumption | omega) only [t5, il_0, il_1, il_2, il_3, il_4, il_5, il_6, il_7, il_8, il_9, il_10, il_11, il_12, il_13, il_15, il_16, il_17, il_18, il_19, il_20, il_21, il_22, il_23, il_24, il_26, il_27, il_28, il_30, il_32, il_34, il_36, il_38, il_40, il_43, il_44, il_46, il_47, il_48, il_49, il_50, il_51, il_60, il_64, il_100, il_108, il_111, il_127, il_971, il_972, il_999, il_1000, il_1024, il_1087, il_2500, il_5000, il_9999, il_60000, il_2147483647, nI_add, nI_mulI, nI_subI, nI_divI, nI_cl, nI_leJ, nI_ltJ, nI_eqJ, nI_neM, nI_neM', il_31]
  have t4 : two - two / 4 * 4 = two % 4 := by omega
  have c4 : nI two - nI two / (4 : Int32) * (4 : Int32) = nI (two % 4) := by simp (disch := first | assumption | omega) only [t4, il_0, il_1, il_2, il_3, il_4, il_5, il_6, il_7, il_8, il_9, il_10, il_11, il_12, il_13, il_15, il_16, il_17, il_18, il_19, il_20, il_21, il_22, il_23, il_24, il_26, il_27, il_28, il_30, il_32, il_34, il_36, il_38, il_40, il_43, il_44, il_46, il_47, il_48, il_49, il_50, il_51, il_60, il_64, il_100, il_108, il_111, il_127, il_971, il_972, il_999, il_1000, il_1024, il_1087, il_2500, il_5000, il_9999, il_60000, il_2147483647, nI_add, nI_mulI, nI_subI, nI_divI, nI_cl, nI_leJ, nI_ltJ, nI_eqJ, nI_neM, nI_neM', il_31]
  have qw := rq_words hQ
  have hfin := So_J334 hS hn hW hX hD h1 ht
  unfold f_L_isSo_J246
  simp only [c5, c4]
  rw [if_neg (show ¬ nI 1 = 0 by decide)]
  by_cases e5 : one % 5 = 0
  · rw [if_pos (by rw [e5]; rfl)]
    refine ok_chk (ly_I (N := 2) hS (by decide) (by decide) (by decide) (by decide)) ?_
    have q0 : d.1 274 (Int32.toNatClampNeg 0) = nI (A 2 0 0) := qw
    rw [q0]
    by_cases e0 : A 2 0 0 = 0
    · rw [if_pos (by rw [e0]; decide)]
      exact hfin
    · rw [if_neg (by rw [il_0, nI_leJ (by omega) (by omega)]; omega)]
      have hwlt : two % A 2 0 0 < A 2 0 0 := Nat.mod_lt _ (by omega)
      have cw : nI two - nI two / nI (A 2 0 0) * nI (A 2 0 0) = nI (two % A 2 0 0) := by
        have g1 := Nat.div_add_mod two (A 2 0 0)
        have g2 := Nat.mul_comm (A 2 0 0) (two / A 2 0 0)
        rw [nI_divI (by omega) (by omega), nI_mulI, nI_subI (by omega)]
        congr 1; omega
      refine ok_chk (by rw [il_0, nI_eqJ (by omega) (by omega)]; exact e0) ?_
      rw [cw]
      have hrd := rdS_le A D (own A D (two % A 2 0 0))
      have hrp := rdS_pos hW hD hwlt
      refine ok_bind (L_readings hS hW hw6 hD ha (hX.a hD) (Or.inl rfl) hX.2.2 hwlt) (fun z hz => ?_)
      obtain ⟨z1, z2, z3⟩ := hz
      have hs := hS.1
      have hX1 : SoX A D z.2 := hX.l hW ⟨fun c hc _ => by rw [z2, if_pos (by omega)], fun j _ => by rw [z2, if_pos (by omega)], fun c hc _ _ => z3 c (by omega)⟩ (z3 275 (by omega))
      have eo : o_readings A (nI D) (nI (two % A 2 0 0)) = (0, nL (rdS A D (own A D (two % A 2 0 0))), A) := by
        unfold o_readings
        rw [if_pos ⟨ix_t hD (by omega), ix_t hwlt (by omega)⟩, nI_cl (by omega), nI_cl (by omega)]
      have hc := C_readings hS hn hW hX1.1 (nI D) (nI (two % A 2 0 0))
      rw [eo] at hc
      refine ok_chk (ly_O hS (by decide) (by decide)) (ntL_of hc (fun y y1 y2 => ?_))
      have hX2 := hX1.c y1 y2
      rw [z1, if_pos (by rw [il_0, lgc0]), if_neg (by rw [il_0, jl_0, lgcz (by omega)]; omega)]
      by_cases e4 : two % 4 = 0
      · rw [if_neg (by rw [e4]; decide)]
        have hc2 := C_readingsAnew hS hn hW hX2.1 (nI D) (nI (two % A 2 0 0))
        rw [eo] at hc2
        refine ntL_of hc2 (fun x x1 x2 => ?_)
        rw [if_pos (by rw [il_0, lgc0])]
        exact So_J334 hS hn hW (hX2.c x1 x2) hD h1 ht
      · rw [if_pos (by rw [il_0, nI_ltJ (by omega) (by omega)]; omega)]
        exact So_J334 hS hn hW hX2 hD h1 ht
  · rw [if_neg (by rw [il_0, nI_eqJ (by omega) (by omega)]; exact e5)]
    exact hfin
theorem So_J180 {A : St} {σ : Sg} {d : Dt} {D one two : Nat} (hS : Lay σ) (hn : ly_n σ = A 11 0 0) (hW : WF A) (hX : SoX A D d) (hD : D < A 11 0 0) (h1 : one < 60000) (ht : two < 60000) : ok (f_L_isSo_J180 σ (nI 1) 0 265 266 267 (268 + D) 272 274 (nI D) (nI one) (nI two) 275 276 (nI (dc (A 13 0 D))) d) (fun z => z.1 = nI 1 ∧ RepC A z.2 ∧ RepL A z.2) := by
  have h5 := hW.des
  have hQ := hX.2.1.1
  have hD2 : D < 2 := by have := hQ.d2; omega
  have ha : 268 + D = 268 ∨ 268 + D = 269 := by omega
  have t3 : one - one / 3 * 3 = one % 3 := by omega
  have c3 : nI one - nI one / (3 : Int32) * (3 : Int32) = nI (one % 3) := by simp (disch := first | assumption | omega) only [t3, il_0, il_1, il_2, il_3, il_4, il_5, il_6, il_7, il_8, il_9, il_10, il_11, il_12, il_13, il_15, il_16, il_17, il_18, il_19, il_20, il_21, il_22, il_23, il_24, il_26, il_27, il_28, il_30, il_32, il_34, il_36, il_38, il_40, il_43, il_44, il_46, il_47, il_48, il_49, il_50, il_51, il_60, il_64, il_100, il_108, il_111, il_127, il_971, il_972, il_999, il_1000, il_1024, il_1087, il_2500, il_5000, il_9999, il_60000, il_2147483647, nI_add, nI_mulI, nI_subI, nI_divI, nI_cl, nI_leJ, nI_ltJ, nI_eqJ, nI_neM, nI_neM', il_31]
  have t5 : two - two / 5 * 5 = two % 5 := by omega
  have c5 : nI two - nI two / (5 : Int32) * (5 : Int32) = nI (two % 5) := by simp (disch := first | assumption | omega) only [t5, il_0, il_1, il_2, il_3, il_4, il_5, il_6, il_7, il_8, il_9, il_10, il_11, il_12, il_13, il_15, il_16, il_17, il_18, il_19, il_20, il_21, il_22, il_23, il_24, il_26, il_27, il_28, il_30, il_32, il_34, il_36, il_38, il_40, il_43, il_44, il_46, il_47, il_48, il_49, il_50, il_51, il_60, il_64, il_100, il_108, il_111, il_127, il_971, il_972, il_999, il_1000, il_1024, il_1087, il_2500, il_5000, il_9999, il_60000, il_2147483647, nI_add, nI_mulI, nI_subI, nI_divI, nI_cl, nI_leJ, nI_ltJ, nI_eqJ, nI_neM, nI_neM', il_31]
  unfold f_L_isSo_J180
  simp only [c3, c5]
  rw [if_neg (show ¬ nI 1 = 0 by decide)]
  by_cases e3 : one % 3 = 0
  · rw [if_pos (by rw [e3]; rfl)]
    have eo : o_errors A (nI D) (nI (two % 5)) = (0, nI (errS A D (two % 5)), A) := by
      unfold o_errors
      rw [if_neg (by rw [ix_t hD (by omega)]; decide), if_neg (by rw [ix_t (show two % 5 < 5 by omega) (by omega)]; decide), nI_cl (by omega), nI_cl (by omega)]
    have hc := C_errors hS hn hW hX.1 (nI D) (nI (two % 5))
    rw [eo] at hc
    refine ok_chk (ly_O hS (by decide) (by decide)) (nt_of hc (fun y y1 y2 => ?_))
    have hX1 := hX.c y1 y2
    refine ok_bind (L_errors hS hW hX1.2.1.1 hD (Or.inl rfl) hX1.2.2 ha (hX1.a hD) hX1.2.1.2.2.2.1 (show two % 5 < 5 by omega)) (fun z hz => ?_)
    have hX2 : SoX A D z.2 := hX1.l hW hz.2.lf (by rw [hz.2.2.2])
    rw [hz.1, if_pos rfl]
    refine ok_bind (L_isPrimer hS hn hW hX2.1 hX2.2.1 hD (Or.inl rfl) hX2.2.2) (fun x hx => ?_)
    rw [hx.1, if_neg (show ¬ nI 1 = 0 by decide)]
    exact So_J246 hS hn hW (hX2.c hx.2.1 hx.2.2) hD h1 ht
  · rw [if_neg (by rw [il_0, nI_eqJ (by omega) (by omega)]; exact e3)]
    exact So_J246 hS hn hW hX hD h1 ht
theorem So_J118 {A : St} {σ : Sg} {d : Dt} {D one two : Nat} (hS : Lay σ) (hn : ly_n σ = A 11 0 0) (hW : WF A) (hX : SoX A D d) (hD : D < A 11 0 0) (h1 : one < 60000) (ht : two < 60000) : ok (f_L_isSo_J118 σ 0 265 266 267 (268 + D) (270 + D) 272 274 (nI D) (nI one) (nI two) 275 276 (nI (dc (A 13 0 D))) (nI 1) d) (fun z => z.1 = nI 1 ∧ RepC A z.2 ∧ RepL A z.2) := by
  have h5 := hW.des
  have hQ := hX.2.1.1
  have hD2 : D < 2 := by have := hQ.d2; omega
  have hr : 270 + D = 270 ∨ 270 + D = 271 := by omega
  unfold f_L_isSo_J118
  rw [if_neg (show ¬ nI 1 = 0 by decide)]
  have eo1 : o_doubts A (nI D) = (0, nI (dbt A D), A) := by unfold o_doubts; rw [if_pos (ix_t hD (by omega)), nI_cl (by omega)]
  have eo2 : o_load A (nI D) = (0, nI (loadS A D), A) := by unfold o_load; rw [if_pos (ix_t hD (by omega)), nI_cl (by omega)]
  have eo3 : o_travel A (nI D) = (0, nI (travK A D (A 16 D)), A) := by unfold o_travel; rw [if_pos (ix_t hD (by omega)), nI_cl (by omega)]
  have hc1 := C_doubts hS hn hW hX.1 (nI D)
  rw [eo1] at hc1
  refine ok_chk (ly_O hS (by decide) (by decide)) (nt_of hc1 (fun y y1 y2 => ?_))
  have hX1 := hX.c y1 y2
  refine ok_bs (L_doubts hS hW hX1.2.1.1 hD (Or.inl rfl) hX1.2.2) ?_
  rw [if_pos rfl]
  have hc2 := C_load hS hn hW hX1.1 (nI D)
  rw [eo2] at hc2
  refine nt_of hc2 (fun y' y1 y2 => ?_)
  have hX2 := hX1.c y1 y2
  refine ok_bs (L_load hS hW hX2.2.1.1 hD (Or.inl rfl) hX2.2.2) ?_
  rw [if_pos rfl]
  have hc3 := C_travel hS hn hW hX2.1 (nI D)
  rw [eo3] at hc3
  refine nt_of hc3 (fun y'' y1 y2 => ?_)
  have hX3 := hX2.c y1 y2
  refine ok_bs (L_travel (r := 270 + D) hS hW hX3.2.1.1 hD (Or.inl rfl) hX3.2.2 hr (fun s hs => by have := hX3.2.1.2.2.1 D hD2 s hs; rw [if_pos hD] at this; exact this)) ?_
  rw [if_pos rfl]
  exact So_J180 hS hn hW hX3 hD h1 ht
theorem So_L58 {A : St} {σ : Sg} {D w : Nat} {x5 x6 x12 : Nat} {x9 x10 x13 : Int32} {Q : Int32 × Dt → Prop} {k : Int32 → Dt → Option (Int32 × Dt)} (hS : Lay σ) (hn : ly_n σ = A 11 0 0) (hW : WF A) (hD : D < A 11 0 0) (hw : w < A 2 0 0) (hk : ∀ d, SoX A D d → ok (k (nI 1) d) Q) : ∀ (m i f : Nat) (d : Dt), i + m = (own A D w).length + 1 → m < f → SoX A D d → ok (f_L_isSo_L58 σ f k 0 265 266 267 (268 + D) x5 x6 274 (nI D) x9 x10 275 x12 x13 (nI w) (nI 1) (nI i) d) Q := by
  have h5 := hW.des
  have hwr := own_wrd hW hD hw
  have h16 := hwr.1
  intro m
  induction m with
  | zero =>
    intro i f d hi hf hX
    cases f with
    | zero => omega
    | succ f =>
      have hw6 := hX.2.1.1.w6
      have qm := L_many hS (Or.inl rfl) (show w < 6 by omega) (hX.2.2 w hw) hwr
      show ok (f_L_isSo_B58 σ (f_L_isSo_L58 σ f k 0 265 266 267 (268 + D) x5 x6 274 (nI D) x9 x10 275 x12 x13 (nI w)) k 0 265 266 267 (268 + D) x5 x6 274 (nI D) x9 x10 275 x12 x13 (nI w) (nI 1) (nI i) d) Q
      unfold f_L_isSo_B58
      refine ok_bs qm ?_
      have el : (sp A D (A 13 0 D) w).length = (own A D w).length := rfl
      rw [el, il_1, nI_add, if_pos (by rw [nI_leJ (by omega) (by omega)]; omega)]
      exact hk d hX
  | succ m ih =>
    intro i f d hi hf hX
    cases f with
    | zero => omega
    | succ f =>
      have hw6 := hX.2.1.1.w6
      have hw20 := hW.words
      have qm := L_many hS (Or.inl rfl) (show w < 6 by omega) (hX.2.2 w hw) hwr
      have el : (sp A D (A 13 0 D) w).length = (own A D w).length := rfl
      have eo : o_spelled A (nI D) (nI w) (nI i) = (0, atI (own A D w) i, A) := by
        unfold o_spelled
        rw [if_pos ⟨ix_t hD (by omega), ix_t hw (by omega), by rw [nI_ltJ (by omega) (by omega)]; omega⟩, nI_cl (by omega), nI_cl (by omega), nI_cl (by omega)]
      show ok (f_L_isSo_B58 σ (f_L_isSo_L58 σ f k 0 265 266 267 (268 + D) x5 x6 274 (nI D) x9 x10 275 x12 x13 (nI w)) k 0 265 266 267 (268 + D) x5 x6 274 (nI D) x9 x10 275 x12 x13 (nI w) (nI 1) (nI i) d) Q
      unfold f_L_isSo_B58
      refine ok_bs qm ?_
      have hc := C_spelled hS hn hW hX.1 (nI D) (nI w) (nI i)
      rw [eo] at hc
      rw [el, il_1, nI_add, if_neg (by rw [nI_leJ (by omega) (by omega)]; omega), if_neg (by decide)]
      refine ok_chk (ly_O hS (by decide) (by decide)) (nt_of hc (fun y y1 y2 => ?_))
      have hX1 := hX.c y1 y2
      refine ok_bs (L_sign (k := i) hS (Or.inl rfl) (show w < 6 by omega) (hX1.2.2 w hw) hwr (by omega)) ?_
      rw [if_pos (show atI (own A D w) i = atI (sp A D (A 13 0 D) w) i from rfl)]
      unfold f_L_isSo_J104
      rw [il_1, nI_add]
      exact ih (i + 1) f y.2 (by omega) (by omega) hX1
theorem So_L41 {A : St} {σ : Sg} {D : Nat} {x5 x6 x12 : Nat} {x9 x10 x13 : Int32} {Q : Int32 × Dt → Prop} {k : Int32 → Dt → Option (Int32 × Dt)} (hS : Lay σ) (hn : ly_n σ = A 11 0 0) (hW : WF A) (hD : D < A 11 0 0) (hk : ∀ d, SoX A D d → ok (k (nI 1) d) Q) : ∀ (m i f : Nat) (d : Dt), i + m = A 2 0 0 → m < f → SoX A D d → ok (f_L_isSo_L41 σ f k 0 265 266 267 (268 + D) x5 x6 274 (nI D) x9 x10 275 x12 x13 (nI 1) (nI i) d) Q := by
  have h5 := hW.des
  intro m
  induction m with
  | zero =>
    intro i f d hi hf hX
    cases f with
    | zero => omega
    | succ f =>
      have hw6 := hX.2.1.1.w6
      have q0 : d.1 274 (Int32.toNatClampNeg 0) = nI (A 2 0 0) := rq_words hX.2.1.1
      show ok (f_L_isSo_B41 σ (f_L_isSo_L41 σ f k 0 265 266 267 (268 + D) x5 x6 274 (nI D) x9 x10 275 x12 x13) k 0 265 266 267 (268 + D) x5 x6 274 (nI D) x9 x10 275 x12 x13 (nI 1) (nI i) d) Q
      unfold f_L_isSo_B41
      refine ok_chk (ly_I (N := 2) hS (by decide) (by decide) (by decide) (by decide)) ?_
      rw [q0, if_pos (by rw [nI_leJ (by omega) (by omega)]; omega)]
      exact hk d hX
  | succ m ih =>
    intro i f d hi hf hX
    cases f with
    | zero => omega
    | succ f =>
      have hw6 := hX.2.1.1.w6
      have hlt : i < A 2 0 0 := by omega
      have h16 := (own_wrd hW hD hlt).1
      have q0 : d.1 274 (Int32.toNatClampNeg 0) = nI (A 2 0 0) := rq_words hX.2.1.1
      show ok (f_L_isSo_B41 σ (f_L_isSo_L41 σ f k 0 265 266 267 (268 + D) x5 x6 274 (nI D) x9 x10 275 x12 x13) k 0 265 266 267 (268 + D) x5 x6 274 (nI D) x9 x10 275 x12 x13 (nI 1) (nI i) d) Q
      unfold f_L_isSo_B41
      refine ok_chk (ly_I (N := 2) hS (by decide) (by decide) (by decide) (by decide)) ?_
      rw [q0, if_neg (by rw [nI_leJ (by omega) (by omega)]; omega), if_neg (show ¬ nI 1 = 0 by decide)]
      refine So_L58 hS hn hW hD hlt (fun d' hX' => ?_) ((own A D i).length + 1) 0 20 d (by omega) (by omega) hX
      unfold f_L_isSo_J112
      rw [il_1, nI_add]
      exact ih (i + 1) f d' (by omega) (by omega) hX'
theorem L_isSo {A : St} {σ : Sg} {d : Dt} {D one two : Nat} (hS : Lay σ) (hn : ly_n σ = A 11 0 0) (hW : WF A) (hC : RepC A d) (hL : RepL A d) (hD : D < A 11 0 0) (h1 : one < 60000) (ht : two < 60000) : ok (f_L_isSo σ 0 265 266 267 (268 + D) (270 + D) 272 274 (nI D) (nI one) (nI two) 275 276 d) (fun z => z.1 = nI 1 ∧ RepC A z.2 ∧ RepL A z.2) := by
  have hw6 := hL.1.w6
  have hD2 : D < 2 := by have := hL.1.d2; omega
  have ha : 268 + D = 268 ∨ 268 + D = 269 := by omega
  have hA := hL.2.1 D hD
  have hb := (hW.G hD).2.1
  unfold f_L_isSo
  rw [dcB hS ha hA (by omega) (fun t => f_L_isSo_J19 σ t 0 265 266 267 (268 + D) (270 + D) 272 274 (nI D) (nI one) (nI two) 275 276 d) _ (fun _ => rfl)]
  unfold f_L_isSo_J19
  obtain ⟨z, hz, s1, F1⟩ := L_spellsAll (x := 275) hS hW hL.1 ha hA hD (show A 13 0 D < 4 by omega) (Or.inl rfl)
  rw [hz, Option.bind_some]
  have hX : SoX A D z.2 := ⟨hC.lf hW.words (F1.lf (Or.inl rfl)), hL.lf hW (by omega) (F1.lf (N := 277 + 4 * A 11 0 0) (Or.inl rfl)), s1⟩
  exact So_L41 hS hn hW hD (fun d' hX' => So_J118 hS hn hW hX' hD h1 ht) (A 2 0 0) 0 8 z.2 (by omega) (by omega) hX
