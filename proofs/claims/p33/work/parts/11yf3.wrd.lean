/-! changes by the law; one turn for words -/
def chS (A : St) (x p fr to b : Nat) : St := stU (stU (stU (stU (stU A 7 x (A 6 0 x) p) 8 x (A 6 0 x) fr) 9 x (A 6 0 x) to) 10 x (A 6 0 x) b) 6 0 x (A 6 0 x + 1)
theorem ch_o {A : St} {x p fr to b f i j : Nat} (h : f < 6 ∨ 10 < f) : chS A x p fr to b f i j = A f i j := by
  unfold chS
  rw [stU_n (by omega), stU_n (by omega), stU_n (by omega), stU_n (by omega), stU_n (by omega)]
theorem RepQ.chg {A : St} {d : Dt} {x p fr to b : Nat} (hQ : RepQ A d) (hW : WF A) (hx : x < 3) (h6 : A 6 0 x < 6) : RepQ (chS A x p fr to b) (aw_sI (aw_sI d 267 (6 * x + A 6 0 x) (nI (p + 4 * fr + 64 * to + 1024 * b))) 267 (18 + x) (nI (A 6 0 x + 1))) := by
  obtain ⟨h1, h2, h3, h4, h5, h6', h7, h8, h9, h10, h11⟩ := hQ
  unfold RepQ
  rw [ch_o (f := 0) (by omega), ch_o (f := 2) (by omega), ch_o (f := 11) (by omega)]
  refine ⟨fun w hw k hk => ?_, fun k hk => ?_, fun w hw => ?_, ?_, fun w hw => ?_, fun y hy => ?_, fun y hy c hc => ?_, ?_, ?_, h10, h11⟩
  · rw [ch_o (by omega)] at hk
    rw [ch_o (by omega), aw_sI_n (by omega), aw_sI_n (by omega)]; exact h1 w hw k hk
  · rw [ch_o (by omega), aw_sI_n (by omega), aw_sI_n (by omega)]; exact h2 k hk
  · rw [ch_o (by omega), aw_sI_n (by omega), aw_sI_n (by omega)]; exact h3 w hw
  · rw [aw_sI_n (by omega), aw_sI_n (by omega)]; exact h4
  · rw [ch_o (by omega), aw_sI_n (by omega), aw_sI_n (by omega)]; exact h5 w hw
  · unfold chS
    by_cases e : y = x
    · subst e
      rw [aw_sI_e rfl rfl, stU_e rfl rfl rfl]
    · have := (hW.2.2.2.2.1 y hy).1
      rw [aw_sI_n (by omega), aw_sI_n (by omega), stU_n (by omega), stU_n (by omega), stU_n (by omega), stU_n (by omega), stU_n (by omega)]; exact h6' y hy
  · have g6 := (hW.2.2.2.2.1 y hy).1
    by_cases e : y = x
    · subst e
      have ec : chS A y p fr to b 6 0 y = A 6 0 y + 1 := stU_e rfl rfl rfl
      rw [ec] at hc
      rw [aw_sI_n (by omega)]
      unfold chS
      by_cases e2 : c = A 6 0 y
      · subst e2
        rw [aw_sI_e rfl rfl, stU_n (by omega), stU_n (by omega), stU_n (by omega), stU_n (by omega), stU_e rfl rfl rfl, stU_n (by omega), stU_n (by omega), stU_n (by omega), stU_e rfl rfl rfl, stU_n (by omega), stU_n (by omega), stU_e rfl rfl rfl, stU_n (by omega), stU_e rfl rfl rfl]
      · have hq := h7 y hy c (by omega)
        rw [aw_sI_n (by omega)]
        simp (disch := first | assumption | omega) only [stU_n]
        exact hq
    · have ec : chS A x p fr to b 6 0 y = A 6 0 y := by unfold chS; rw [stU_n (by omega), stU_n (by omega), stU_n (by omega), stU_n (by omega), stU_n (by omega)]
      rw [ec] at hc
      have hq := h7 y hy c hc
      rw [aw_sI_n (by omega), aw_sI_n (by omega)]
      unfold chS
      simp (disch := first | assumption | omega) only [stU_n]
      exact hq
  · rw [aw_sI_n (by omega), aw_sI_n (by omega)]; exact h8
  · rw [aw_sI_n (by omega), aw_sI_n (by omega)]; exact h9
theorem W_669 {A : St} {σ : Sg} {y : Dt} {B : St} {x v : Int32} (hx : x = v) (hW : WF B) (e : B 11 0 0 = A 11 0 0) (hI : SoI B y) : ok (f_L_isWord_J669 σ v x y) (Post A) := by
  unfold f_L_isWord_J669
  rw [if_pos hx]
  exact ok_some ⟨rfl, B, hW, e, hI⟩
/-- what the call answers stands as the last of four cases -/
theorem W_J607 {A B : St} {σ : Sg} {d : Dt} {x p fr to b V : Nat} (hS : Lay σ) (hn : ly_n σ = A 11 0 0) (hW : WF A) (hC : RepC A d) (hb : b ≤ 1) (are can : Bool) (hWB : WF B) (e11 : B 11 0 0 = A 11 0 0) (hB : RepL B d) (ho : ∃ t v, o_change A (nI x) (nI p) (nI fr) (nI to) b = (t, v, B) ∧ ((are = false ∧ t = 1) ∨ (are = true ∧ fr = V ∧ t = 2) ∨ (are = true ∧ fr < V ∧ can = false ∧ t = 3) ∨ (are = true ∧ fr < V ∧ can = true ∧ t = 0 ∧ x < 3 ∧ d.1 267 (18 + x) = v))) (hV : V < 100) : ok (f_L_isWord_J607 σ 0 267 (nI x) (nI p) (nI V) (nI fr) (nI to) (nI b) (bI are) (bI can) d) (Post A) := by
  obtain ⟨t, v, eo, hcs⟩ := ho
  have key : ∀ z : Int32 × Dt, (z.1 = dvI (PXr cc_I (o_change A (nI x) (nI p) (nI fr) (nI to) b)) ∧ RepC (o_change A (nI x) (nI p) (nI fr) (nI to) b).2.2 z.2 ∧ FrC d z.2) → ok (if bI are = 0 then f_L_isWord_J669 σ ((-3000000 : Int32)) z.1 z.2 else if nI fr = nI V then f_L_isWord_J669 σ ((-2000000 : Int32)) z.1 z.2 else if bI can = 0 then f_L_isWord_J669 σ ((-1000000 : Int32)) z.1 z.2 else aw_chk (aw_I σ 20 267 (((18 : Int32)) + nI x)) (f_L_isWord_J669 σ (z.2.1 267 (((18 : Int32)) + nI x).toNatClampNeg) z.1 z.2)) (Post A) := fun z hz => by
    rw [eo] at hz
    obtain ⟨z1, z2, z3⟩ := hz
    have hI : SoI B z.2 := ⟨z2, hB.c z3⟩
    rcases hcs with ⟨rfl, rfl⟩ | ⟨rfl, rfl, rfl⟩ | ⟨rfl, hf, rfl, rfl⟩ | ⟨rfl, hf, rfl, rfl, hx, hd⟩
    · rw [if_pos (show bI false = 0 from rfl)]
      exact W_669 z1 hWB e11 hI
    · rw [if_neg (show ¬ bI true = 0 by decide), if_pos rfl]
      exact W_669 z1 hWB e11 hI
    · rw [if_neg (show ¬ bI true = 0 by decide), if_neg (by rw [nI_eqJ (by omega) (by omega)]; omega), if_pos (show bI false = 0 from rfl)]
      exact W_669 z1 hWB e11 hI
    · rw [if_neg (show ¬ bI true = 0 by decide), if_neg (by rw [nI_eqJ (by omega) (by omega)]; omega), if_neg (show ¬ bI true = 0 by decide)]
      refine ok_chk (by rw [il_18, nI_add]; exact ly_I (N := 21) hS (by decide) (by decide) (by omega) (by decide)) ?_
      have q : z.2.1 267 (18 + nI x).toNatClampNeg = v := by rw [il_18, nI_add, nI_cl (by omega), (z3 267 (by omega) (by omega)).1]; exact hd
      rw [q]
      exact W_669 z1 hWB e11 hI
  unfold f_L_isWord_J607
  rcases (show b = 0 ∨ b = 1 by omega) with rfl | rfl
  · rw [if_pos (show nI 0 = 0 from rfl)]
    exact ok_bind (D_change hS hn hW hC (nI x) (nI p) (nI fr) (nI to) 0 (b := 0) (by decide)) key
  · rw [if_neg (show ¬ nI 1 = 0 by decide)]
    exact ok_bind (D_change hS hn hW hC (nI x) (nI p) (nI fr) (nI to) 1 (b := 1) (by decide)) key
theorem W_J498 {A : St} {σ : Sg} {d : Dt} {x p fr to b V : Nat} (hS : Lay σ) (hn : ly_n σ = A 11 0 0) (hW : WF A) (hI : SoI A d) (hb : b ≤ 1) (hx : x ≤ 3) (hp : p ≤ 4) (hV : V = vals p) (hfr : fr ≤ V) (hto : to < V) : ok (f_L_isWord_J498 σ (nI b) 0 267 (nI x) (nI p) (nI V) (nI fr) (nI to) d) (Post A) := by
  have hV9 := vals9 p
  have hQ := hI.2.1
  have hnot : ¬ (x < 3 ∧ p < 4) → ok (f_L_isWord_J607 σ 0 267 (nI x) (nI p) (nI V) (nI fr) (nI to) (nI b) (bI false) (bI false) d) (Post A) := fun h => by
    refine W_J607 hS hn hW hI.1 hb false false hW rfl hI.2 ⟨1, nI 0, ?_, Or.inl ⟨rfl, rfl⟩⟩ (by omega)
    unfold o_change
    rw [if_pos]
    rcases (show 3 ≤ x ∨ 4 ≤ p by omega) with h | h
    · rw [ix_f h (by omega), Bool.false_and]
    · rw [ix_f h (by omega), Bool.and_false]
  unfold f_L_isWord_J498
  by_cases e3 : x < 3
  · rw [if_neg (by rw [il_3, nI_leJ (by omega) (by omega)]; omega)]
    by_cases e4 : p < 4
    · rw [if_neg (by rw [il_4, nI_leJ (by omega) (by omega)]; omega)]
      have g6 := (hW.2.2.2.2.1 x e3).1
      have hare : (ix (nI x) 3 && ix (nI p) 4) = true := by rw [ix_t e3 (by omega), ix_t e4 (by omega)]; rfl
      have hclp : (nI p).toNatClampNeg = p := nI_cl (by omega)
      have h18 : aw_I σ 20 267 (18 + nI x) := by rw [il_18, nI_add]; exact ly_I (N := 21) hS (by decide) (by decide) (by omega) (by decide)
      have c18 : (18 + nI x).toNatClampNeg = 18 + x := by rw [il_18, nI_add, nI_cl (by omega)]
      have q18 : d.1 267 (18 + x) = nI (A 6 0 x) := rq_chs hQ e3
      unfold f_L_isWord_J517
      rw [if_neg (show ¬ (1 : Int32) = 0 by decide)]
      by_cases e5 : fr < V
      · have hft : (ix (nI fr) (vals p) && ix (nI to) (vals p)) = true := by rw [← hV, ix_t e5 (by omega), ix_t hto (by omega)]; rfl
        rw [if_neg (by rw [nI_leJ (by omega) (by omega)]; omega)]
        refine ok_chk h18 ?_
        rw [c18, q18]
        by_cases e6 : A 6 0 x < 6
        · rw [if_neg (by rw [il_6, nI_leJ (by omega) (by omega)]; omega)]
          unfold f_L_isWord_J548
          rw [if_neg (show ¬ (1 : Int32) = 0 by decide)]
          refine ok_chk h18 ?_
          rw [c18, q18]
          have hQ2 := hQ.chg (p := p) (fr := fr) (to := to) (b := b) hW e3 e6
          have hC2 : RepC A (aw_sI (aw_sI d 267 (6 * x + A 6 0 x) (nI (p + 4 * fr + 64 * to + 1024 * b))) 267 (18 + x) (nI (A 6 0 x + 1))) := (hI.1.w_x (by omega) hW.words).w_x (by omega) hW.words
          have hL2 : RepL (chS A x p fr to b) (aw_sI (aw_sI d 267 (6 * x + A 6 0 x) (nI (p + 4 * fr + 64 * to + 1024 * b))) 267 (18 + x) (nI (A 6 0 x + 1))) := hI.2.q hQ2 (ch_o (by omega)) (fun f i j hf => ch_o (by omega)) (fun k hk1 hk2 => by funext j; rw [aw_sI_n (by omega), aw_sI_n (by omega)])
          have fin : ∀ T : Nat, T = 1024 * b → ok (f_L_isWord_J594 σ (nI T) ((nI p + 4 * nI fr) + 64 * nI to) (6 * nI x + nI (A 6 0 x)) 267 0 267 (nI x) (nI p) (nI V) (nI fr) (nI to) (nI b) 1 1 d) (Post A) := fun T hT => by
            have b1 : 6 * x + A 6 0 x < 21 := by omega
            have b2 : 18 + x < 21 := by omega
            unfold f_L_isWord_J594
            simp (disch := first | assumption | omega) only [q18, hT, lo_0 hS, lo_1 hS, lo_33 hS, lo_34 hS, lo_89 hS, lo_100 hS, lo_123 hS, lo_146 hS, lo_148 hS, lo_176 hS, lo_182 hS, lo_D hS, lo_G hS, lr_37 hS, lr_93 hS, lr_101 hS, lr_124 hS, lr_152 hS, lr_169 hS, lr_0_0 hS, lr_0_1 hS, lr_0_2 hS, lr_0_3 hS, lr_0_5 hS, lr_0_6 hS, lr_0_7 hS, lr_0_8 hS, lr_0_9 hS, lr_0_10 hS, lr_0_11 hS, lr_0_12 hS, lr_1_0 hS, lr_1_2 hS, lr_33_0 hS, lr_33_1 hS, lr_33_2 hS, lr_33_3 hS, lr_34_0 hS, lr_89_0 hS, lr_89_1 hS, lr_89_2 hS, lr_89_3 hS, lr_89_4 hS, lr_89_5 hS, lr_100_0 hS, lr_100_1 hS, lr_123_0 hS, lr_123_1 hS, lr_146_0 hS, lr_148_0 hS, lr_148_1 hS, lr_148_2 hS, lr_148_3 hS, lr_148_4 hS, lr_148_5 hS, lr_176_0 hS, lr_176_1 hS, lr_176_4 hS, lr_176_6 hS, lr_176_7 hS, lr_182_0 hS, lr_D_0 hS, lr_D_1 hS, lr_D_2 hS, lr_D_3 hS, lr_D_5 hS, lr_D_6 hS, lr_D_r hS, lr_31 hS, lr_32 hS, lr_G_2 hS, lr_G_3 hS, lr_G_4 hS, li_2 hS, li_3 hS, li_31 hS, li_32 hS, li_35 hS, li_36 hS, li_37 hS, li_88 hS, li_90 hS, li_91 hS, li_92 hS, li_93 hS, li_98 hS, li_99 hS, li_101 hS, li_122 hS, li_124 hS, li_145 hS, li_147 hS, li_149 hS, li_150 hS, li_151 hS, li_152 hS, li_169 hS, li_175 hS, li_177 hS, li_178 hS, li_179 hS, li_180 hS, li_181 hS, li_183 hS, li_265 hS, li_266 hS, li_267 hS, li_268 hS, li_269 hS, li_270 hS, li_271 hS, li_272 hS, li_273 hS, li_274 hS, li_275 hS, li_276 hS, li_38 hS, li_94 hS, li_102 hS, li_125 hS, li_153 hS, li_170 hS, li_D_1 hS, li_D_2 hS, li_D_3 hS, li_D_4 hS, li_D_5 hS, li_D_26 hS, li_D_r hS, li_G_1 hS, li_G_2 hS, li_G_3 hS, li_rA hS, li_rK hS, li_rX hS, il_0, il_1, il_2, il_3, il_4, il_5, il_6, il_7, il_8, il_9, il_10, il_11, il_12, il_13, il_15, il_16, il_17, il_18, il_19, il_20, il_21, il_22, il_23, il_24, il_26, il_27, il_28, il_30, il_32, il_34, il_36, il_38, il_40, il_43, il_44, il_46, il_47, il_48, il_49, il_50, il_51, il_60, il_64, il_100, il_108, il_111, il_127, il_971, il_972, il_999, il_1000, il_1024, il_1087, il_2500, il_5000, il_9999, il_60000, il_2147483647, nI_add, nI_mulI, nI_subI, nI_divI, nI_cl, nI_leJ, nI_ltJ, nI_eqJ, nI_neM, nI_neM', il_31, aw_sI_e, aw_sI_n, aw_sI_2, aw_sL_e, aw_sL_n, aw_sL_1, Option.bind_some, aw_chkT, ck_and0, ck_and1, bI_t, bI_f, nar_0, nar_1]
            refine W_J607 hS hn hW hC2 hb true true (hW.chg e3 e4 (by omega) (by omega) hb (by omega)) (ch_o (by omega)) hL2 ⟨0, nI (A 6 0 x + 1), ?_, Or.inr (Or.inr (Or.inr ⟨rfl, e5, rfl, rfl, e3, aw_sI_e rfl rfl⟩))⟩ (by omega)
            unfold o_change
            rw [if_neg (by rw [hare]; decide), hclp, if_neg (by rw [hft]; decide), nI_cl (by omega), if_neg (by omega), nI_cl (by omega), nI_cl (by omega)]
          rcases (show b = 0 ∨ b = 1 by omega) with rfl | rfl
          · rw [if_pos (show nI 0 = 0 from rfl)]
            exact fin 0 rfl
          · rw [if_neg (show ¬ nI 1 = 0 by decide)]
            exact fin 1024 rfl
        · rw [if_pos (by rw [il_6, nI_leJ (by omega) (by omega)]; omega)]
          unfold f_L_isWord_J547 f_L_isWord_J548
          rw [if_pos rfl]
          refine W_J607 hS hn hW hI.1 hb true false hW rfl hI.2 ⟨3, nI 0, ?_, Or.inr (Or.inr (Or.inl ⟨rfl, e5, rfl, rfl⟩))⟩ (by omega)
          unfold o_change
          rw [if_neg (by rw [hare]; decide), hclp, if_neg (by rw [hft]; decide), nI_cl (by omega), if_pos (by omega)]
      · have hfV : fr = V := by omega
        rw [if_pos (by rw [nI_leJ (by omega) (by omega)]; omega)]
        unfold f_L_isWord_J547 f_L_isWord_J548
        rw [if_pos rfl]
        refine W_J607 hS hn hW hI.1 hb true false hW rfl hI.2 ⟨2, nI 0, ?_, Or.inr (Or.inl ⟨rfl, hfV, rfl⟩)⟩ (by omega)
        unfold o_change
        rw [if_neg (by rw [hare]; decide), hclp, if_pos (by rw [ix_f (by omega) (by omega), Bool.false_and])]
    · rw [if_pos (by rw [il_4, nI_leJ (by omega) (by omega)]; omega)]
      unfold f_L_isWord_J516 f_L_isWord_J517
      rw [if_pos rfl]
      unfold f_L_isWord_J547 f_L_isWord_J548
      rw [if_pos rfl]
      exact hnot (fun h => e4 h.2)
  · rw [if_pos (by rw [il_3, nI_leJ (by omega) (by omega)]; omega)]
    unfold f_L_isWord_J516 f_L_isWord_J517
    rw [if_pos rfl]
    unfold f_L_isWord_J547 f_L_isWord_J548
    rw [if_pos rfl]
    exact hnot (fun h => e3 h.1)
theorem nI_mod {a k : Nat} (ha : a < 2147483648) (hk : k < 2147483648) : nI a - nI a / nI k * nI k = nI (a % k) := by
  have g1 := Nat.div_add_mod a k
  have g2 := Nat.mul_comm k (a / k)
  rw [nI_divI ha hk, nI_mulI, nI_subI (by omega)]
  congr 1; omega
theorem W_J470 {A : St} {σ : Sg} {d : Dt} {x p V e one two : Nat} (hS : Lay σ) (hn : ly_n σ = A 11 0 0) (hW : WF A) (hI : SoI A d) (hx : x ≤ 3) (hp : p ≤ 4) (hV : V = vals p) (he : e ≤ 1) (h1 : one < 60000) (ht : two < 60000) : ok (f_L_isWord_J470 σ (nI e) (nI V) (nI (one / 13)) 0 267 (nI two) (nI x) (nI p) (nI V) d) (Post A) := by
  have hV9 := vals9 p
  have hV0 : 0 < vals p := by unfold vals; (repeat' split) <;> omega
  have m1 : (one / 13) % (V + e) < V + e := Nat.mod_lt _ (by omega)
  have m2 : (two / 13) % V < V := Nat.mod_lt _ (by omega)
  have d5 : nI two / (5 : Int32) = nI (two / 5) := by rw [il_5, nI_divI (by omega) (by omega)]
  have d13 : nI two / (13 : Int32) = nI (two / 13) := by rw [il_13, nI_divI (by omega) (by omega)]
  have d3 : nI (two / 5) - nI (two / 5) / (3 : Int32) * (3 : Int32) = nI (two / 5 % 3) := by rw [il_3]; exact nI_mod (by omega) (by omega)
  unfold f_L_isWord_J470
  rw [nI_add, d5, d13, d3, nI_mod (by omega) (by omega), nI_mod (by omega) (by omega)]
  refine ok_chk (by rw [il_0, nI_eqJ (by omega) (by omega)]; omega) (ok_chk (by rw [il_0, nI_eqJ (by omega) (by omega)]; omega) ?_)
  by_cases c : two / 5 % 3 = 0
  · rw [if_pos (by rw [c]; rfl)]
    exact W_J498 (b := 1) hS hn hW hI (by omega) hx hp hV (by omega) m2
  · rw [if_neg (by rw [il_0, nI_eqJ (by omega) (by omega)]; exact c)]
    exact W_J498 (b := 0) hS hn hW hI (by omega) hx hp hV (by omega) m2
theorem W_J421 {A : St} {σ : Sg} {d : Dt} {x p one two : Nat} (hS : Lay σ) (hn : ly_n σ = A 11 0 0) (hW : WF A) (hI : SoI A d) (hx : x ≤ 3) (hp : p ≤ 4) (h1 : one < 60000) (ht : two < 60000) : ok (f_L_isWord_J421 σ (nI p) 0 267 (nI one) (nI two) (nI x) d) (Post A) := by
  have d13 : nI two / (13 : Int32) = nI (two / 13) := by rw [il_13, nI_divI (by omega) (by omega)]
  have e13 : nI one / (13 : Int32) = nI (one / 13) := by rw [il_13, nI_divI (by omega) (by omega)]
  have d11 : nI (two / 13) - nI (two / 13) / (11 : Int32) * (11 : Int32) = nI (two / 13 % 11) := by rw [il_11]; exact nI_mod (by omega) (by omega)
  have key : ∀ V, V = vals p → ok (f_L_isWord_J445 σ (nI V) 0 267 (nI one) (nI two) (nI x) (nI p) d) (Post A) := fun V hV => by
    unfold f_L_isWord_J445
    rw [d13, e13, d11]
    by_cases c : two / 13 % 11 = 0
    · rw [if_pos (by rw [c]; rfl)]
      exact W_J470 (e := 1) hS hn hW hI hx hp hV (by omega) h1 ht
    · rw [if_neg (by rw [il_0, nI_eqJ (by omega) (by omega)]; exact c)]
      exact W_J470 (e := 0) hS hn hW hI hx hp hV (by omega) h1 ht
  unfold f_L_isWord_J421
  by_cases c1 : p = 1
  · rw [if_pos (by rw [c1]; rfl)]
    exact key 4 (by rw [c1]; rfl)
  · rw [if_neg (by rw [il_1, nI_eqJ (by omega) (by omega)]; exact c1)]
    by_cases c3 : p = 3
    · rw [if_pos (by rw [c3]; rfl)]
      exact key 3 (by rw [c3]; rfl)
    · rw [if_neg (by rw [il_3, nI_eqJ (by omega) (by omega)]; exact c3)]
      exact key 9 (by unfold vals; rw [if_neg c1, if_neg c3])
theorem W_J401 {A : St} {σ : Sg} {d : Dt} {x one two : Nat} (hS : Lay σ) (hn : ly_n σ = A 11 0 0) (hW : WF A) (hI : SoI A d) (hx : x ≤ 3) (h1 : one < 60000) (ht : two < 60000) : ok (f_L_isWord_J401 σ (nI x) 0 267 (nI one) (nI two) d) (Post A) := by
  have d13 : nI two - nI two / (13 : Int32) * (13 : Int32) = nI (two % 13) := by rw [il_13]; exact nI_mod (by omega) (by omega)
  have d4 : nI two - nI two / (4 : Int32) * (4 : Int32) = nI (two % 4) := by rw [il_4]; exact nI_mod (by omega) (by omega)
  unfold f_L_isWord_J401
  rw [d13, d4]
  by_cases c : two % 13 = 12
  · rw [if_pos (by rw [c]; rfl)]
    exact W_J421 (p := 4) hS hn hW hI hx (by omega) h1 ht
  · rw [if_neg (by rw [il_12, nI_eqJ (by omega) (by omega)]; exact c)]
    exact W_J421 hS hn hW hI hx (by omega) h1 ht
theorem L_isWord {A : St} {σ : Sg} {d : Dt} {what one two : Nat} (hS : Lay σ) (hn : ly_n σ = A 11 0 0) (hW : WF A) (hI : SoI A d) (hwh : what < 3) (h1 : one < 60000) (ht : two < 60000) : ok (f_L_isWord σ 0 265 266 267 274 (nI what) (nI one) (nI two) d) (Post A) := by
  unfold f_L_isWord
  rcases (show what = 0 ∨ what = 1 ∨ what = 2 by omega) with rfl | rfl | rfl
  · rw [if_pos (show nI 0 = 0 from rfl)]
    have d23 : nI one - nI one / (23 : Int32) * (23 : Int32) = nI (one % 23) := by rw [il_23]; exact nI_mod (by omega) (by omega)
    have d3 : nI one - nI one / (3 : Int32) * (3 : Int32) = nI (one % 3) := by rw [il_3]; exact nI_mod (by omega) (by omega)
    have d972 : nI one - nI one / (972 : Int32) * (972 : Int32) = nI (one % 972) := by rw [il_972]; exact nI_mod (by omega) (by omega)
    rw [d23, d3, d972]
    by_cases c : one % 23 = 22
    · rw [if_pos (by rw [c]; rfl)]
      exact W_J77 (c := 972) hS hn hW hI (by omega)
    · rw [if_neg (by rw [il_22, nI_eqJ (by omega) (by omega)]; exact c)]
      by_cases c3 : one % 3 = 0
      · rw [if_pos (by rw [c3]; rfl)]
        exact W_J77 hS hn hW hI (by omega)
      · rw [if_neg (by rw [il_0, nI_eqJ (by omega) (by omega)]; exact c3)]
        simp (disch := first | assumption | omega) only [il_0, il_1, il_2, il_3, il_4, il_5, il_6, il_7, il_8, il_9, il_10, il_11, il_12, il_13, il_15, il_16, il_17, il_18, il_19, il_20, il_21, il_22, il_23, il_24, il_26, il_27, il_28, il_30, il_32, il_34, il_36, il_38, il_40, il_43, il_44, il_46, il_47, il_48, il_49, il_50, il_51, il_60, il_64, il_100, il_108, il_111, il_127, il_971, il_972, il_999, il_1000, il_1024, il_1087, il_2500, il_5000, il_9999, il_60000, il_2147483647, nI_add, nI_mulI, nI_subI, nI_divI, nI_cl, nI_leJ, nI_ltJ, nI_eqJ, nI_neM, nI_neM', il_31]
        exact W_J77 hS hn hW hI (by omega)
  · rw [if_neg (show ¬ nI 1 = 0 by decide), if_pos (show nI 1 = 1 from rfl)]
    have hw6 := hI.2.1.w6
    have q0 : d.1 274 (Int32.toNatClampNeg 0) = nI (A 2 0 0) := rq_words hI.2.1
    have d13 : nI one - nI one / (13 : Int32) * (13 : Int32) = nI (one % 13) := by rw [il_13]; exact nI_mod (by omega) (by omega)
    refine ok_chk (ly_I (N := 2) (i := 0) hS (by decide) (by decide) (by decide) (by decide)) ?_
    rw [q0, d13]
    by_cases c6 : A 2 0 0 = 6
    · rw [if_pos (by rw [c6]; rfl)]
      exact ok_some ⟨rfl, A, hW, rfl, hI⟩
    · rw [if_neg (by rw [il_6, nI_eqJ (by omega) (by omega)]; exact c6)]
      by_cases c : one % 13 = 12
      · rw [if_pos (by rw [c]; rfl)]
        simp (disch := first | assumption | omega) only [il_0, il_1, il_2, il_3, il_4, il_5, il_6, il_7, il_8, il_9, il_10, il_11, il_12, il_13, il_15, il_16, il_17, il_18, il_19, il_20, il_21, il_22, il_23, il_24, il_26, il_27, il_28, il_30, il_32, il_34, il_36, il_38, il_40, il_43, il_44, il_46, il_47, il_48, il_49, il_50, il_51, il_60, il_64, il_100, il_108, il_111, il_127, il_971, il_972, il_999, il_1000, il_1024, il_1087, il_2500, il_5000, il_9999, il_60000, il_2147483647, nI_add, nI_mulI, nI_subI, nI_divI, nI_cl, nI_leJ, nI_ltJ, nI_eqJ, nI_neM, nI_neM', il_31]
        exact W_J221 hS hn hW hI (by omega) (by omega)
      · rw [if_neg (by rw [il_12, nI_eqJ (by omega) (by omega)]; exact c)]
        simp (disch := first | assumption | omega) only [il_0, il_1, il_2, il_3, il_4, il_5, il_6, il_7, il_8, il_9, il_10, il_11, il_12, il_13, il_15, il_16, il_17, il_18, il_19, il_20, il_21, il_22, il_23, il_24, il_26, il_27, il_28, il_30, il_32, il_34, il_36, il_38, il_40, il_43, il_44, il_46, il_47, il_48, il_49, il_50, il_51, il_60, il_64, il_100, il_108, il_111, il_127, il_971, il_972, il_999, il_1000, il_1024, il_1087, il_2500, il_5000, il_9999, il_60000, il_2147483647, nI_add, nI_mulI, nI_subI, nI_divI, nI_cl, nI_leJ, nI_ltJ, nI_eqJ, nI_neM, nI_neM', il_31]
        exact W_J221 hS hn hW hI (by omega) (by omega)
  · rw [if_neg (show ¬ nI 2 = 0 by decide), if_neg (show ¬ nI 2 = 1 by decide)]
    have d13 : nI one - nI one / (13 : Int32) * (13 : Int32) = nI (one % 13) := by rw [il_13]; exact nI_mod (by omega) (by omega)
    have d3 : nI one - nI one / (3 : Int32) * (3 : Int32) = nI (one % 3) := by rw [il_3]; exact nI_mod (by omega) (by omega)
    rw [d13, d3]
    by_cases c : one % 13 = 12
    · rw [if_pos (by rw [c]; rfl)]
      exact W_J401 (x := 3) hS hn hW hI (by omega) h1 ht
    · rw [if_neg (by rw [il_12, nI_eqJ (by omega) (by omega)]; exact c)]
      exact W_J401 hS hn hW hI (by omega) h1 ht
