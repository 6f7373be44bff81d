/-! what is told: designs, shapes, groups -/
def PostS (A : St) (z : Int32 × (Sg × Dt)) : Prop := z.1 = nI 1 ∧ ∃ B, WF B ∧ Lay z.2.1 ∧ ly_n z.2.1 = B 11 0 0 ∧ SoI B z.2.2
theorem nI_smod {s : Nat} (h : s < 32) : ((nI s).toBitVec.smod 32).toNat = s := (by decide +kernel : ∀ s, s < 32 → ((nI s).toBitVec.smod 32).toNat = s) s h
theorem nI_31 {s : Nat} (h : s < 32) : nI s &&& nI 31 = nI s := (by decide +kernel : ∀ s, s < 32 → nI s &&& nI 31 = nI s) s h
theorem nI_bv (n : Nat) : (nI n).toBitVec = BitVec.ofNat 32 n := rfl
theorem nI_shrI {m s : Nat} (hm : m < 2147483648) (h : s < 32) : nI m >>> nI s = nI (m >>> s) := by
  apply Int32.toBitVec_inj.mp
  rw [Int32.toBitVec_shiftRight]
  show (nI m).toBitVec.sshiftRight ((nI s).toBitVec.smod 32).toNat = _
  rw [nI_smod h, BitVec.sshiftRight_eq_of_msb_false, nI_bv, nI_bv]
  · apply BitVec.eq_of_toNat_eq
    rw [BitVec.toNat_ushiftRight, BitVec.toNat_ofNat, BitVec.toNat_ofNat, Nat.mod_eq_of_lt (by omega), Nat.mod_eq_of_lt]
    rw [Nat.shiftRight_eq_div_pow]
    exact Nat.lt_of_le_of_lt (Nat.div_le_self _ _) (by omega)
  · rw [BitVec.msb_eq_decide, nI_bv, BitVec.toNat_ofNat, Nat.mod_eq_of_lt (by omega)]
    exact decide_eq_false (by omega)
/-! groups -/
theorem T_635 {A : St} {σ : Sg} {y : Dt} {B : St} {x v : Int32} (hx : x = v) (hW : WF B) (hS : Lay σ) (hn : ly_n σ = B 11 0 0) (hI : SoI B y) : ok (f_L_isTold_J635 v x σ y) (PostS A) := by
  unfold f_L_isTold_J635
  rw [if_pos hx]
  exact ok_some ⟨rfl, B, hW, hS, hn, hI⟩
theorem T_J598 {A B : St} {σ : Sg} {d : Dt} {x9 x10 x11 x12 x15 : Int32} (hS : Lay σ) (hn : ly_n σ = A 11 0 0) (hW : WF A) (hC : RepC A d) (are isR : Bool) (hWB : WF B) (e11 : B 11 0 0 = A 11 0 0) (hB : RepL B d) (ho : ∃ t v, o_group A x9 x10 x11 x12 = (t, v, B) ∧ ((are = false ∧ t = 1) ∨ (are = true ∧ isR = false ∧ t = 2) ∨ (are = true ∧ isR = true ∧ t = 0 ∧ x15 = v))) : ok (f_L_isTold_J598 0 x9 x10 x11 x12 (bI are) (bI isR) x15 σ d) (PostS A) := by
  obtain ⟨t, v, eo, hcs⟩ := ho
  unfold f_L_isTold_J598
  refine ok_bind (D_group hS hn hW hC x9 x10 x11 x12 0) (fun z hz => ?_)
  rw [eo] at hz
  obtain ⟨z1, z2, z3⟩ := hz
  have hI : SoI B z.2 := ⟨z2, hB.c z3⟩
  have hnB : ly_n σ = B 11 0 0 := hn.trans e11.symm
  rcases hcs with ⟨rfl, rfl⟩ | ⟨rfl, rfl, rfl⟩ | ⟨rfl, rfl, rfl, hx⟩
  · rw [if_pos (show bI false = 0 from rfl)]
    exact T_635 z1 hWB hS hnB hI
  · rw [if_neg (show ¬ bI true = 0 by decide), if_pos (show bI false = 0 from rfl)]
    exact T_635 z1 hWB hS hnB hI
  · rw [if_neg (show ¬ bI true = 0 by decide), if_neg (show ¬ bI true = 0 by decide)]
    exact T_635 (z1.trans hx.symm) hWB hS hnB hI
def grS (A : St) (g p w x : Nat) : St := stU (stU (stU A 18 0 g p) 19 0 g w) 20 0 g x
theorem SoI.w18 {A : St} {d : Dt} {g p w x : Nat} (hI : SoI A d) (hW : WF A) (hg : g < 4) : RepC A (aw_sI (aw_sI (aw_sI d 273 (3 * g) (nI p)) 273 (3 * g + 1) (nI w)) 273 (3 * g + 2) (nI x)) ∧ RepL (grS A g p w x) (aw_sI (aw_sI (aw_sI d 273 (3 * g) (nI p)) 273 (3 * g + 1) (nI w)) 273 (3 * g + 2) (nI x)) := by
  have r : ∀ c, c ≠ 273 → (aw_sI (aw_sI (aw_sI d 273 (3 * g) (nI p)) 273 (3 * g + 1) (nI w)) 273 (3 * g + 2) (nI x)).1 c = d.1 c := fun c hc => by
    funext j; rw [aw_sI_n (by omega), aw_sI_n (by omega), aw_sI_n (by omega)]
  have e : ∀ f i j, f < 18 → grS A g p w x f i j = A f i j := fun f i j hf => by unfold grS; rw [stU_n (by omega), stU_n (by omega), stU_n (by omega)]
  have hd2 := hI.2.1.d2
  refine ⟨((hI.1.w_x (by omega) hW.words).w_x (by omega) hW.words).w_x (by omega) hW.words, ?_⟩
  obtain ⟨_, ⟨h1, h2, h3, h4, h5, h6, h7, h8, h9, h10, h11⟩, g1, g2, g3, g4⟩ := hI
  have hQ : RepQ A (aw_sI (aw_sI (aw_sI d 273 (3 * g) (nI p)) 273 (3 * g + 1) (nI w)) 273 (3 * g + 2) (nI x)) := by
    unfold RepQ
    rw [r 265 (by omega), r 266 (by omega), r 267 (by omega), r 274 (by omega)]
    exact ⟨h1, h2, h3, h4, h5, h6, h7, h8, h9, h10, h11⟩
  have e11 : grS A g p w x 11 0 0 = A 11 0 0 := e _ _ _ (by omega)
  refine ⟨hQ.cg (fun f i j hf => e _ _ _ (by omega)), fun D hD => ?_, fun D hD s hs => ?_, fun s hs => ?_, fun k hk => ?_⟩
  · rw [e11] at hD
    have h := g1 D hD
    unfold RepA at h ⊢
    rw [r _ (by omega)]
    unfold mkB at h ⊢
    simp only [e 12 0 D (by omega), e 13 0 D (by omega), e 14 D _ (by omega), e 15 D _ (by omega)]
    exact h
  · rw [e11, r _ (by omega), e 16 _ _ (by omega)]; exact g2 D hD s hs
  · rw [r _ (by omega), e 17 _ _ (by omega)]; exact g3 s hs
  · by_cases ek : k = g
    · subst ek
      refine ⟨?_, ?_, ?_⟩
      · unfold grS
        rw [aw_sI_n (by omega), aw_sI_n (by omega), aw_sI_e rfl rfl, stU_n (by omega), stU_n (by omega), stU_e rfl rfl rfl]
      · unfold grS
        rw [aw_sI_n (by omega), aw_sI_e rfl rfl, stU_n (by omega), stU_e rfl rfl rfl]
      · unfold grS
        rw [aw_sI_e rfl rfl, stU_e rfl rfl rfl]
    · have h := g4 k hk
      unfold grS
      rw [aw_sI_n (by omega), aw_sI_n (by omega), aw_sI_n (by omega), aw_sI_n (by omega), aw_sI_n (by omega), aw_sI_n (by omega), aw_sI_n (by omega), aw_sI_n (by omega), aw_sI_n (by omega), stU_n (by omega), stU_n (by omega), stU_n (by omega), stU_n (by omega), stU_n (by omega), stU_n (by omega), stU_n (by omega), stU_n (by omega), stU_n (by omega)]
      exact h
theorem T_J517 {A : St} {σ : Sg} {d : Dt} {g p v x : Nat} (hS : Lay σ) (hn : ly_n σ = A 11 0 0) (hW : WF A) (hI : SoI A d) (hg : g ≤ 4) (hp : p ≤ 1000) (hv : v ≤ 1000) (hx : x ≤ 3) : ok (f_L_isTold_J517 (bI (decide (g < 4 ∧ x < 3))) 0 273 (nI g) (nI p) (dI v) (nI x) σ d) (PostS A) := by
  have h3 : aw_I σ 20 273 (3 * nI g) ∨ 4 ≤ g := by
    rcases Nat.lt_or_ge g 4 with h | h
    · left; rw [il_3, nI_mulI]; exact ly_I (N := 12) hS (by decide) (by decide) (by omega) (by decide)
    · exact Or.inr h
  have key : ∀ isR : Bool, isR = decide (p < 1000 ∧ 1 ≤ v) → ok (f_L_isTold_J537 (bI isR) 0 273 (nI g) (nI p) (dI v) (nI x) (bI (decide (g < 4 ∧ x < 3))) σ d) (PostS A) := fun isR hR => by
    unfold f_L_isTold_J537
    by_cases ea : g < 4 ∧ x < 3
    · have hare : (ix (nI g) 4 && ix (nI x) 3) = true := by rw [ix_t ea.1 (by omega), ix_t ea.2 (by omega)]; rfl
      have c3 : (3 * nI g).toNatClampNeg = 3 * g := by rw [il_3, nI_mulI, nI_cl (by omega)]
      have q0 : d.1 273 (3 * g) = nI (A 18 0 g) := (hI.2.2.2.2.2 g ea.1).1
      rw [decide_eq_true ea, if_neg (show ¬ bI true = 0 by decide)]
      refine ok_chk (by rw [il_3, nI_mulI]; exact ly_I (N := 12) hS (by decide) (by decide) (by omega) (by decide)) ?_
      rw [c3, q0]
      unfold f_L_isTold_J555
      rw [if_neg (show ¬ bI true = 0 by decide)]
      by_cases er : p < 1000 ∧ 1 ≤ v
      · rw [decide_eq_true er] at hR
        subst hR
        have ev : dI v = nI (v - 1) := dI_s v (by omega)
        rw [if_neg (show ¬ bI true = 0 by decide), ev]
        obtain ⟨hC1, hL1⟩ := hI.w18 (p := p) (w := v - 1) (x := x) hW ea.1
        have b0 : 3 * g < 12 := by omega
        have b1 : 3 * g + 1 < 12 := by omega
        have b2 : 3 * g + 2 < 12 := by omega
        simp (disch := first | assumption | omega) only [lo_0 hS, lo_1 hS, lo_33 hS, lo_34 hS, lo_89 hS, lo_100 hS, lo_123 hS, lo_146 hS, lo_148 hS, lo_176 hS, lo_182 hS, lo_D hS, lo_G hS, lr_37 hS, lr_93 hS, lr_101 hS, lr_124 hS, lr_152 hS, lr_169 hS, lr_0_0 hS, lr_0_1 hS, lr_0_2 hS, lr_0_3 hS, lr_0_5 hS, lr_0_6 hS, lr_0_7 hS, lr_0_8 hS, lr_0_9 hS, lr_0_10 hS, lr_0_11 hS, lr_0_12 hS, lr_1_0 hS, lr_1_2 hS, lr_33_0 hS, lr_33_1 hS, lr_33_2 hS, lr_33_3 hS, lr_34_0 hS, lr_89_0 hS, lr_89_1 hS, lr_89_2 hS, lr_89_3 hS, lr_89_4 hS, lr_89_5 hS, lr_100_0 hS, lr_100_1 hS, lr_123_0 hS, lr_123_1 hS, lr_146_0 hS, lr_148_0 hS, lr_148_1 hS, lr_148_2 hS, lr_148_3 hS, lr_148_4 hS, lr_148_5 hS, lr_176_0 hS, lr_176_1 hS, lr_176_4 hS, lr_176_6 hS, lr_176_7 hS, lr_182_0 hS, lr_D_0 hS, lr_D_1 hS, lr_D_2 hS, lr_D_3 hS, lr_D_5 hS, lr_D_6 hS, lr_D_r hS, lr_31 hS, lr_32 hS, lr_G_2 hS, lr_G_3 hS, lr_G_4 hS, li_2 hS, li_3 hS, li_31 hS, li_32 hS, li_35 hS, li_36 hS, li_37 hS, li_88 hS, li_90 hS, li_91 hS, li_92 hS, li_93 hS, li_98 hS, li_99 hS, li_101 hS, li_122 hS, li_124 hS, li_145 hS, li_147 hS, li_149 hS, li_150 hS, li_151 hS, li_152 hS, li_169 hS, li_175 hS, li_177 hS, li_178 hS, li_179 hS, li_180 hS, li_181 hS, li_183 hS, li_265 hS, li_266 hS, li_267 hS, li_268 hS, li_269 hS, li_270 hS, li_271 hS, li_272 hS, li_273 hS, li_274 hS, li_275 hS, li_276 hS, li_38 hS, li_94 hS, li_102 hS, li_125 hS, li_153 hS, li_170 hS, li_D_1 hS, li_D_2 hS, li_D_3 hS, li_D_4 hS, li_D_5 hS, li_D_26 hS, li_D_r hS, li_G_1 hS, li_G_2 hS, li_G_3 hS, li_rA hS, li_rK hS, li_rX hS, il_0, il_1, il_2, il_3, il_4, il_5, il_6, il_7, il_8, il_9, il_10, il_11, il_12, il_13, il_15, il_16, il_17, il_18, il_19, il_20, il_21, il_22, il_23, il_24, il_26, il_27, il_28, il_30, il_32, il_34, il_36, il_38, il_40, il_43, il_44, il_46, il_47, il_48, il_49, il_50, il_51, il_60, il_64, il_100, il_108, il_111, il_127, il_971, il_972, il_999, il_1000, il_1024, il_1087, il_2500, il_5000, il_9999, il_60000, il_2147483647, nI_add, nI_mulI, nI_subI, nI_divI, nI_cl, nI_leJ, nI_ltJ, nI_eqJ, nI_neM, nI_neM', il_31, aw_sI_e, aw_sI_n, aw_sI_2, aw_sL_e, aw_sL_n, aw_sL_1, Option.bind_some, aw_chkT, ck_and0, ck_and1, bI_t, bI_f, nar_0, nar_1]
        refine T_J598 hS hn hW hC1 true true (hW.grp (by omega) (by omega) ea.2) (by rw [stU_n (by omega), stU_n (by omega), stU_n (by omega)]) hL1 ⟨0, nI (A 18 0 g), ?_, Or.inr (Or.inr ⟨rfl, rfl, rfl, rfl⟩)⟩
        unfold o_group
        rw [if_neg (by rw [hare]; decide), if_neg (by rw [ix_t er.1 (by omega), ix_t (show v - 1 < 1000 by omega) (by omega)]; decide), nI_cl (by omega), nI_cl (by omega), nI_cl (by omega), nI_cl (by omega)]
      · rw [decide_eq_false er] at hR
        subst hR
        rw [if_pos (show bI false = 0 from rfl)]
        refine T_J598 hS hn hW hI.1 true false hW rfl hI.2 ⟨2, nI 0, ?_, Or.inr (Or.inl ⟨rfl, rfl, rfl⟩)⟩
        unfold o_group
        rw [if_neg (by rw [hare]; decide), if_pos]
        rcases (show p = 1000 ∨ v = 0 by omega) with rfl | rfl
        · rw [ix_f (Nat.le_refl _) (by omega), Bool.false_and]
        · rw [dI_0, show ix NO 1000 = false by decide, Bool.and_false]
    · rw [decide_eq_false ea, if_pos (show bI false = 0 from rfl)]
      unfold f_L_isTold_J555
      rw [if_pos (show bI false = 0 from rfl)]
      refine T_J598 hS hn hW hI.1 false isR hW rfl hI.2 ⟨1, nI 0, ?_, Or.inl ⟨rfl, rfl⟩⟩
      unfold o_group
      rw [if_pos]
      rcases (show 4 ≤ g ∨ 3 ≤ x by omega) with h | h
      · rw [ix_f h (by omega), Bool.false_and]
      · rw [ix_f h (by omega), Bool.and_false]
  unfold f_L_isTold_J517
  by_cases ep : p = 1000
  · rw [if_pos (by rw [ep]; decide)]
    exact key false (by rw [decide_eq_false (by omega)])
  · rw [if_neg (by rw [il_1000, nI_leJ (by omega) (by omega)]; omega)]
    by_cases ev : v = 0
    · rw [if_pos (by rw [ev]; decide)]
      exact key false (by rw [decide_eq_false (by omega)])
    · rw [if_neg (by rw [il_0, dI_neg (by omega)]; exact ev)]
      exact key true (by rw [decide_eq_true (by omega)])
theorem T_J438 {A : St} {σ : Sg} {d : Dt} {g one two : Nat} (hS : Lay σ) (hn : ly_n σ = A 11 0 0) (hW : WF A) (hI : SoI A d) (hg : g ≤ 4) (h1 : one < 60000) (h2 : two < 60000) : ok (f_L_isTold_J438 (nI g) 0 273 (nI one) (nI two) σ d) (PostS A) := by
  have d13 : nI two - nI two / (13 : Int32) * (13 : Int32) = nI (two % 13) := by rw [il_13]; exact nI_mod (by omega) (by omega)
  have d30 : nI two - nI two / (30 : Int32) * (30 : Int32) = nI (two % 30) := by rw [il_30]; exact nI_mod (by omega) (by omega)
  have q13 : nI two / (13 : Int32) = nI (two / 13) := by rw [il_13, nI_divI (by omega) (by omega)]
  have d4 : nI (two / 13) - nI (two / 13) / (4 : Int32) * (4 : Int32) = nI (two / 13 % 4) := by rw [il_4]; exact nI_mod (by omega) (by omega)
  have p13 : nI one / (13 : Int32) = nI (one / 13) := by rw [il_13, nI_divI (by omega) (by omega)]
  have e11 : nI (one / 13) - nI (one / 13) / (11 : Int32) * (11 : Int32) = nI (one / 13 % 11) := by rw [il_11]; exact nI_mod (by omega) (by omega)
  have e1000 : nI (one / 13) - nI (one / 13) / (1000 : Int32) * (1000 : Int32) = nI (one / 13 % 1000) := by rw [il_1000]; exact nI_mod (by omega) (by omega)
  have k489 : ∀ p v, p ≤ 1000 → v ≤ 1000 → ok (f_L_isTold_J489 (dI v) 0 273 (nI two) (nI g) (nI p) σ d) (PostS A) := fun p v hp hv => by
    have key := T_J517 hS hn hW hI hg hp hv (show two / 13 % 4 ≤ 3 by omega)
    unfold f_L_isTold_J489
    rw [q13, d4]
    by_cases c4 : g < 4
    · rw [if_neg (by rw [il_4, nI_leJ (by omega) (by omega)]; omega)]
      by_cases c3 : two / 13 % 4 < 3
      · rw [if_neg (by rw [il_3, nI_leJ (by omega) (by omega)]; omega)]
        rw [decide_eq_true ⟨c4, c3⟩] at key; exact key
      · rw [if_pos (by rw [il_3, nI_leJ (by omega) (by omega)]; omega)]
        rw [decide_eq_false (fun h => c3 h.2)] at key; exact key
    · rw [if_pos (by rw [il_4, nI_leJ (by omega) (by omega)]; omega)]
      rw [decide_eq_false (fun h => c4 h.1)] at key; exact key
  have k461 : ∀ p, p ≤ 1000 → ok (f_L_isTold_J461 (nI p) 0 273 (nI one) (nI two) (nI g) σ d) (PostS A) := fun p hp => by
    unfold f_L_isTold_J461
    rw [p13, e11, e1000]
    by_cases c : one / 13 % 11 = 10
    · rw [if_pos (by rw [c]; rfl)]
      exact k489 p 0 hp (by omega)
    · rw [if_neg (by rw [il_10, nI_eqJ (by omega) (by omega)]; exact c)]
      have := k489 p (one / 13 % 1000 + 1) hp (by omega)
      rw [dI_s _ (by omega), Nat.add_sub_cancel] at this
      exact this
  unfold f_L_isTold_J438
  rw [d13, d30]
  by_cases c : two % 13 = 12
  · rw [if_pos (by rw [c]; rfl)]
    exact k461 1000 (by omega)
  · rw [if_neg (by rw [il_12, nI_eqJ (by omega) (by omega)]; exact c)]
    exact k461 _ (by omega)
