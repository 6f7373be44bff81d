/-! syllables, words, changes: the law keeps its rows beside -/
def Post (A : St) (z : Int32 × Dt) : Prop := z.1 = nI 1 ∧ ∃ B, WF B ∧ B 11 0 0 = A 11 0 0 ∧ SoI B z.2
theorem RepL.q {A B : St} {d d' : Dt} (h : RepL A d) (hQ : RepQ B d') (e11 : B 11 0 0 = A 11 0 0) (e : ∀ f i j, 12 ≤ f → B f i j = A f i j) (r : ∀ c, 268 ≤ c → c ≤ 273 → d'.1 c = d.1 c) : RepL B d' := by
  have hd2 := h.1.d2
  obtain ⟨_, g1, g2, g3, g4⟩ := h
  refine ⟨hQ, fun D hD => ?_, fun D hD s hs => ?_, fun s hs => ?_, fun g hg => ?_⟩
  · rw [e11] at hD
    have h := g1 D hD
    unfold RepA at h ⊢
    rw [r _ (by omega) (by omega)]
    unfold mkB at h ⊢
    simp only [e 12 _ _ (by omega), e 13 _ _ (by omega), e 14 _ _ (by omega), e 15 _ _ (by omega)]
    exact h
  · rw [e11, r _ (by omega) (by omega), e 16 _ _ (by omega)]; exact g2 D hD s hs
  · rw [r _ (by omega) (by omega), e 17 _ _ (by omega)]; exact g3 s hs
  · rw [r _ (by omega) (by omega), e 18 _ _ (by omega), e 19 _ _ (by omega), e 20 _ _ (by omega)]; exact g4 g hg
theorem RepQ.syl {A : St} {d : Dt} {c : Nat} (h : RepQ A d) (hW : WF A) (h4 : A 0 0 0 < 4) : RepQ (stU (stU A 1 0 (A 0 0 0) c) 0 0 0 (A 0 0 0 + 1)) (aw_sI (aw_sI d 265 (24 + A 0 0 0) (nI c)) 266 6 (nI (A 0 0 0 + 1))) := by
  have hw6 := h.w6
  have e : ∀ f i j, 2 ≤ f → stU (stU A 1 0 (A 0 0 0) c) 0 0 0 (A 0 0 0 + 1) f i j = A f i j := fun f i j hf => by rw [stU_n (by omega), stU_n (by omega)]
  have e0 : stU (stU A 1 0 (A 0 0 0) c) 0 0 0 (A 0 0 0 + 1) 0 0 0 = A 0 0 0 + 1 := stU_e rfl rfl rfl
  obtain ⟨h1, h2, h3, h4', h5, h6, h7, h8, h9, h10, h11⟩ := h
  unfold RepQ
  simp only [e 2 _ _ (by omega), e 3 _ _ (by omega), e 4 _ _ (by omega), e 5 _ _ (by omega), e 6 _ _ (by omega), e 7 _ _ (by omega), e 8 _ _ (by omega), e 9 _ _ (by omega), e 10 _ _ (by omega), e 11 _ _ (by omega), e0]
  refine ⟨fun w hw k hk => ?_, fun k hk => ?_, fun w hw => ?_, ?_, fun w hw => ?_, fun x hx => ?_, fun x hx c hc => ?_, ?_, ?_, h10, h11⟩
  · have := (hW.w hw).2.1
    rw [aw_sI_n (by omega), aw_sI_n (by omega)]; exact h1 w hw k hk
  · rw [aw_sI_n (by omega)]
    by_cases e2 : k = A 0 0 0
    · rw [aw_sI_e rfl (by omega), stU_n (by omega), stU_e rfl rfl e2]
    · rw [aw_sI_n (by omega), stU_n (by omega), stU_n (by omega)]; exact h2 k (by omega)
  · rw [aw_sI_n (by omega), aw_sI_n (by omega)]; exact h3 w hw
  · rw [aw_sI_e rfl rfl]
  · rw [aw_sI_n (by omega), aw_sI_n (by omega)]; exact h5 w hw
  · rw [aw_sI_n (by omega), aw_sI_n (by omega)]; exact h6 x hx
  · rw [aw_sI_n (by omega), aw_sI_n (by omega)]; exact h7 x hx c hc
  · rw [aw_sI_n (by omega), aw_sI_n (by omega)]; exact h8
  · rw [aw_sI_n (by omega), aw_sI_n (by omega)]; exact h9
theorem W_164 {A : St} {σ : Sg} {y : Dt} {B : St} {x v : Int32} (hx : x = v) (hW : WF B) (e : B 11 0 0 = A 11 0 0) (hI : SoI B y) : ok (f_L_isWord_J164 σ v x y) (Post A) := by
  unfold f_L_isWord_J164
  rw [if_pos hx]
  exact ok_some ⟨rfl, B, hW, e, hI⟩
theorem W_J77 {A : St} {σ : Sg} {d : Dt} {c : Nat} (hS : Lay σ) (hn : ly_n σ = A 11 0 0) (hW : WF A) (hI : SoI A d) (hc : c ≤ 972) : ok (f_L_isWord_J77 σ (nI c) 0 265 266 d) (Post A) := by
  have h4 := hW.1
  have q6 : d.1 266 (Int32.toNatClampNeg 6) = nI (A 0 0 0) := rq_dr hI.2.1
  have h66 : aw_I σ 20 266 6 := ly_I (N := 64) (i := 6) hS (by decide) (by decide) (by decide) (by decide)
  -- no room, or no syllable
  have hno : ¬ (c < 972 ∧ A 0 0 0 < 4) → ok (f_L_isWord_J126 σ 0 266 (nI c) (nI 0) d) (Post A) := fun hno => by
    unfold f_L_isWord_J126
    refine ok_bind (D_syllable hS hn hW hI.1 (nI c) 0 0 0 0) (fun z hz => ?_)
    by_cases e : c < 972
    · have eo : o_syllable A (nI c) = (2, nI 0, A) := by
        unfold o_syllable
        rw [if_neg (by rw [ix_t e (by omega)]; decide), if_pos (by omega)]
      rw [eo] at hz
      rw [if_pos (by rw [il_971, nI_leJ (by omega) (by omega)]; omega), if_pos (by decide)]
      exact W_164 hz.1 hW rfl (hI.c hz.2.1 hz.2.2)
    · have eo : o_syllable A (nI c) = (1, nI 0, A) := by
        unfold o_syllable
        rw [if_pos (ix_f (by omega) (by omega))]
      rw [eo] at hz
      rw [if_neg (by rw [il_971, nI_leJ (by omega) (by omega)]; omega)]
      exact W_164 hz.1 hW rfl (hI.c hz.2.1 hz.2.2)
  unfold f_L_isWord_J77
  by_cases e : c < 972
  · rw [if_neg (by rw [il_972, nI_leJ (by omega) (by omega)]; omega)]
    refine ok_chk h66 ?_
    rw [q6]
    by_cases e4 : A 0 0 0 < 4
    · rw [if_neg (by rw [il_4, nI_leJ (by omega) (by omega)]; omega)]
      have k24 : (24 + nI (A 0 0 0)).toNatClampNeg = 24 + A 0 0 0 := by rw [il_24, nI_add, nI_cl (by omega)]
      have e6 : Int32.toNatClampNeg 6 = 6 := rfl
      have q6' : (aw_sI d 265 (24 + A 0 0 0) (nI c)).1 266 6 = nI (A 0 0 0) := by rw [aw_sI_n (by omega)]; exact q6
      unfold f_L_isWord_J100
      rw [if_neg (show ¬ (1 : Int32) = 0 by decide)]
      refine ok_chk h66 ?_
      rw [q6]
      refine ok_chk (by rw [il_24, nI_add]; exact ly_I (N := 28) hS (by decide) (by decide) (by omega) (by decide)) ?_
      rw [k24, e6, q6', il_1, nI_add]
      have hQ := hI.2.1.syl (c := c) hW e4
      have hC1 : RepC A (aw_sI (aw_sI d 265 (24 + A 0 0 0) (nI c)) 266 6 (nI (A 0 0 0 + 1))) := (hI.1.w_x (by omega) hW.words).w_x (by omega) hW.words
      have hL1 := hI.2.q hQ (by rw [stU_n (by omega), stU_n (by omega)]) (fun f i j hf => by rw [stU_n (by omega), stU_n (by omega)]) (fun k hk1 hk2 => by funext j; rw [aw_sI_n (by omega), aw_sI_n (by omega)])
      have q7 : (aw_sI (aw_sI d 265 (24 + A 0 0 0) (nI c)) 266 6 (nI (A 0 0 0 + 1))).1 266 6 = nI (A 0 0 0 + 1) := aw_sI_e rfl rfl
      generalize aw_sI (aw_sI d 265 (24 + A 0 0 0) (nI c)) 266 6 (nI (A 0 0 0 + 1)) = d1 at hQ hC1 hL1 q7 ⊢
      unfold f_L_isWord_J126
      refine ok_bind (D_syllable hS hn hW hC1 (nI c) 0 0 0 0) (fun z hz => ?_)
      have eo : o_syllable A (nI c) = (0, nI (A 0 0 0 + 1), stU (stU A 1 0 (A 0 0 0) c) 0 0 0 (A 0 0 0 + 1)) := by
        unfold o_syllable
        rw [if_neg (by rw [ix_t e (by omega)]; decide), if_neg (by omega), nI_cl (by omega)]
      rw [eo] at hz
      rw [if_pos (by rw [il_971, nI_leJ (by omega) (by omega)]; omega), if_neg (by decide)]
      refine ok_chk h66 ?_
      have z6 : z.2.1 266 (Int32.toNatClampNeg 6) = nI (A 0 0 0 + 1) := by rw [(hz.2.2 266 (by omega) (by omega)).1]; exact q7
      rw [z6]
      exact W_164 hz.1 (hW.syl e (by omega)) (by rw [stU_n (by omega), stU_n (by omega)]) ⟨hz.2.1, hL1.c hz.2.2⟩
    · rw [if_pos (by rw [il_4, nI_leJ (by omega) (by omega)]; omega)]
      unfold f_L_isWord_J99 f_L_isWord_J100
      rw [if_pos rfl]
      exact hno (fun h => e4 h.2)
  · rw [if_pos (by rw [il_972, nI_leJ (by omega) (by omega)]; omega)]
    unfold f_L_isWord_J99 f_L_isWord_J100
    rw [if_pos rfl]
    exact hno (fun h => e h.1)
