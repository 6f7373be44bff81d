/-! designs told; one turn for what is told -/
theorem bas_dI {b : Nat} (hb : b ≤ 4) : bas (dI b) = b := (by decide : ∀ b, b < 5 → bas (dI b) = b) b (by omega)
theorem okb {b : Nat} (hb : b ≤ 4) : (decide (dI b = NO) || ix (dI b) 3) = decide (b < 4) := (by decide : ∀ b, b < 5 → (decide (dI b = NO) || ix (dI b) 3) = decide (b < 4)) b (by omega)
def Ls (i a : Nat) (d0 d : Dt) : Prop := (∀ c, c ≠ a → d.1 c = d0.1 c) ∧ ∀ j, j < i → d.1 a j = nI j
theorem T_L98 {σ : Sg} {d0 : Dt} {a : Nat} {x9 x10 x11 : Int32} (hS : Lay σ) (ha : a = 268 ∨ a = 269) {Q : Int32 × (Sg × Dt) → Prop} {k : Sg → Dt → Option (Int32 × (Sg × Dt))} (hk : ∀ d, Ls 47 a d0 d → ok (k σ d) Q) : ∀ (m i f : Nat) (d : Dt), i + m = 47 → m < f → Ls i a d0 d → ok (f_L_isTold_L98 f k 0 274 x9 x10 x11 a (nI i) σ d) Q := by
  intro m
  induction m with
  | zero =>
    intro i f d hi hf h
    cases f with
    | zero => omega
    | succ f =>
      obtain rfl : i = 47 := by omega
      show ok (f_L_isTold_B98 (f_L_isTold_L98 f k 0 274 x9 x10 x11 a) k 0 274 x9 x10 x11 a (nI 47) σ d) Q
      unfold f_L_isTold_B98
      rw [if_pos (by decide)]
      exact hk d h
  | succ m ih =>
    intro i f d hi hf h
    cases f with
    | zero => omega
    | succ f =>
      have hi50 : i < 50 := by omega
      show ok (f_L_isTold_B98 (f_L_isTold_L98 f k 0 274 x9 x10 x11 a) k 0 274 x9 x10 x11 a (nI i) σ d) Q
      unfold f_L_isTold_B98
      rw [if_neg (by rw [il_47, nI_leJ (by omega) (by omega)]; omega)]
      refine ok_chk (li_a hS ha hi50) ?_
      rw [nI_cl (show i < 2147483648 by omega), il_1, nI_add]
      refine ih (i + 1) f _ (by omega) (by omega) ⟨fun c hc => ?_, fun j hj => ?_⟩
      · rw [← h.1 c hc]; funext j; exact aw_sI_n (by omega)
      · by_cases e : j = i
        · rw [aw_sI_e rfl e, e]
        · rw [aw_sI_n (by omega)]; exact h.2 j (by omega)
theorem SoI.w11 {A : St} {d0 d : Dt} {k b : Nat} (hI : SoI A d0) (hW : WF A) (h2 : A 11 0 0 < 2) (h : Ls 47 (268 + A 11 0 0) d0 d) : RepC A (aw_sI (aw_sI (aw_sI (aw_sI d (268 + A 11 0 0) 47 (nI k)) (268 + A 11 0 0) 48 (nI b)) (268 + A 11 0 0) 49 (nI 7)) 274 1 (nI (A 11 0 0 + 1))) ∧ RepL (newD A k b) (aw_sI (aw_sI (aw_sI (aw_sI d (268 + A 11 0 0) 47 (nI k)) (268 + A 11 0 0) 48 (nI b)) (268 + A 11 0 0) 49 (nI 7)) 274 1 (nI (A 11 0 0 + 1))) := by
  have hC : RepC A d := hI.1.scr hW.words (fun k hk => h.1 k (by omega))
  have hC2 := ((((hC.w_x (c := 268 + A 11 0 0) (j := 47) (x := nI k) (by omega) hW.words).w_x (c := 268 + A 11 0 0) (j := 48) (x := nI b) (by omega) hW.words).w_x (c := 268 + A 11 0 0) (j := 49) (x := nI 7) (by omega) hW.words).w_x (c := 274) (j := 1) (x := nI (A 11 0 0 + 1)) (by omega) hW.words)
  have r : ∀ c, c ≠ 268 + A 11 0 0 → c ≠ 274 → (aw_sI (aw_sI (aw_sI (aw_sI d (268 + A 11 0 0) 47 (nI k)) (268 + A 11 0 0) 48 (nI b)) (268 + A 11 0 0) 49 (nI 7)) 274 1 (nI (A 11 0 0 + 1))).1 c = d0.1 c := fun c hc hc2 => by
    rw [← h.1 c hc]; funext j; rw [aw_sI_n (by omega), aw_sI_n (by omega), aw_sI_n (by omega), aw_sI_n (by omega)]
  have e274 : (aw_sI (aw_sI (aw_sI (aw_sI d (268 + A 11 0 0) 47 (nI k)) (268 + A 11 0 0) 48 (nI b)) (268 + A 11 0 0) 49 (nI 7)) 274 1 (nI (A 11 0 0 + 1))).1 274 0 = d0.1 274 0 := by
    rw [aw_sI_n (by omega), aw_sI_n (by omega), aw_sI_n (by omega), aw_sI_n (by omega), h.1 274 (by omega)]
  have e275 : (aw_sI (aw_sI (aw_sI (aw_sI d (268 + A 11 0 0) 47 (nI k)) (268 + A 11 0 0) 48 (nI b)) (268 + A 11 0 0) 49 (nI 7)) 274 1 (nI (A 11 0 0 + 1))).1 274 1 = nI (A 11 0 0 + 1) := aw_sI_e rfl rfl
  have rn : RepA (newD A k b) (A 11 0 0) (268 + A 11 0 0) (aw_sI (aw_sI (aw_sI (aw_sI d (268 + A 11 0 0) 47 (nI k)) (268 + A 11 0 0) 48 (nI b)) (268 + A 11 0 0) 49 (nI 7)) 274 1 (nI (A 11 0 0 + 1))) := by
    refine ⟨fun u hu => ?_, ?_, ?_, ?_⟩
    · rw [aw_sI_n (by omega), aw_sI_n (by omega), aw_sI_n (by omega), aw_sI_n (by omega), newD_14 hu]; exact h.2 u hu
    · rw [aw_sI_n (by omega), aw_sI_n (by omega), aw_sI_n (by omega), aw_sI_e rfl rfl, newD_12]
    · rw [aw_sI_n (by omega), aw_sI_n (by omega), aw_sI_e rfl rfl, newD_13]
    · unfold mkB
      rw [aw_sI_n (by omega), aw_sI_e rfl rfl, newD_15 (by omega), newD_15 (by omega), newD_15 (by omega)]
  refine ⟨hC2, ?_⟩
  generalize aw_sI (aw_sI (aw_sI (aw_sI d (268 + A 11 0 0) 47 (nI k)) (268 + A 11 0 0) 48 (nI b)) (268 + A 11 0 0) 49 (nI 7)) 274 1 (nI (A 11 0 0 + 1)) = d' at r e274 e275 rn ⊢
  obtain ⟨_, ⟨h1, h2', h3, h4, h5, h6, h7, h8, h9, h10, h11⟩, g1, g2, g3, g4⟩ := hI
  have eo : ∀ f i j, f < 11 ∨ 16 < f → newD A k b f i j = A f i j := fun f i j hf => newD_o hf
  refine ⟨?_, fun D hD => ?_, fun D hD s hs => ?_, fun s hs => ?_, fun g hg => ?_⟩
  · unfold RepQ
    simp only [eo 0 _ _ (by omega), eo 1 _ _ (by omega), eo 2 _ _ (by omega), eo 3 _ _ (by omega), eo 4 _ _ (by omega), eo 5 _ _ (by omega), eo 6 _ _ (by omega), eo 7 _ _ (by omega), eo 8 _ _ (by omega), eo 9 _ _ (by omega), eo 10 _ _ (by omega), newD_11]
    rw [r 265 (by omega) (by omega), r 266 (by omega) (by omega), r 267 (by omega) (by omega), e274, e275]
    exact ⟨h1, h2', h3, h4, h5, h6, h7, h8, rfl, h10, by omega⟩
  · rw [newD_11] at hD
    by_cases e : D = A 11 0 0
    · rw [e]; exact rn
    · have h := g1 D (by omega)
      unfold RepA at h ⊢
      rw [r _ (by omega) (by omega)]
      unfold mkB at h ⊢
      rw [newD_D (f := 12) (by omega) (by omega) (by omega), newD_D (f := 13) (by omega) (by omega) (by omega), newD_D (f := 15) (by omega) (by omega) (by omega), newD_D (f := 15) (by omega) (by omega) (by omega), newD_D (f := 15) (by omega) (by omega) (by omega)]
      exact ⟨fun u hu => by rw [newD_D (by omega) (by omega) (by omega)]; exact h.1 u hu, h.2⟩
  · have hk := g2 D hD s hs
    rw [r _ (by omega) (by omega), newD_11]
    by_cases e : D = A 11 0 0
    · subst e
      rw [if_neg (by omega)] at hk
      rw [if_pos (by omega), newD_16 hs]; exact hk
    · by_cases e2 : D < A 11 0 0
      · rw [if_pos e2] at hk
        rw [if_pos (by omega), newD_D (by omega) (by omega) (by omega)]; exact hk
      · rw [if_neg e2] at hk
        rw [if_neg (by omega)]; exact hk
  · rw [r _ (by omega) (by omega), eo 17 _ _ (by omega)]; exact g3 s hs
  · rw [r _ (by omega) (by omega), eo 18 _ _ (by omega), eo 19 _ _ (by omega), eo 20 _ _ (by omega)]; exact g4 g hg
theorem T_J55 {A : St} {σ : Sg} {d : Dt} {k b : Nat} (hS : Lay σ) (hn : ly_n σ = A 11 0 0) (hW : WF A) (hI : SoI A d) (h2 : A 11 0 0 < 2) (hk : k ≤ 2) (hb : b ≤ 4) : ok (f_L_isTold_J55 (dI b) 0 268 269 274 (nI k) σ d) (PostS A) := by
  have hsz := hS.sz
  have ha : 268 + A 11 0 0 = 268 ∨ 268 + A 11 0 0 = 269 := by omega
  have h741 : aw_I σ 20 274 1 := ly_I (N := 2) (i := 1) hS (by decide) (by decide) (by decide) (by decide)
  have q1 : d.1 274 (Int32.toNatClampNeg 1) = nI (A 11 0 0) := rq_des hI.2.1
  -- a kind or a base that there isn't
  have hbad : ¬ (k < 2 ∧ b < 4) → ok (f_L_isTold_J149 0 274 (nI k) (dI b) (nI 0) σ d) (PostS A) := fun hno => by
    unfold f_L_isTold_J149
    refine ok_chk (by omega) (ok_chk (by omega) (ok_bind (D_design hS hn hW hI.1 (nI k) (dI b) 0 0 0) (fun z hz => ?_)))
    have eo : o_design A (nI k) (dI b) = (1, nI 0, A) := by
      unfold o_design
      rw [if_pos]
      rw [okb hb]
      by_cases c : k < 2
      · rw [decide_eq_false (fun h => hno ⟨c, h⟩), Bool.and_false]
      · rw [ix_f (by omega) (by omega), Bool.false_and]
    rw [eo] at hz
    obtain ⟨z1, z2, z3, z4, z5⟩ := hz
    rw [if_pos (show nI 0 = 0 from rfl), if_pos (show z.1 = -2000000 from z1)]
    exact ok_chk (by decide) (ok_some ⟨rfl, A, hW, z4, z5, z2, hI.2.c z3⟩)
  have hgood : k < 2 → b < 4 → ok (f_L_isTold_J88 (268 + A 11 0 0) 0 274 (nI k) (dI b) (nI 1) σ d) (PostS A) := fun hk2 hb4 => by
    unfold f_L_isTold_J88
    rw [if_neg (show ¬ nI 1 = 0 by decide)]
    refine T_L98 (d0 := d) hS ha (fun d1 h1 => ?_) 47 0 aw_FU d (by omega) (by show _ < 5000; omega) ⟨fun _ _ => rfl, fun j hj => by omega⟩
    have p1 : d1.1 274 1 = nI (A 11 0 0) := by rw [h1.1 274 (by omega)]; exact q1
    have b48 : dI b + 1 = nI b := (by decide : ∀ b, b < 5 → dI b + 1 = nI b) b (by omega)
    have p1' : (aw_sI (aw_sI (aw_sI d1 (268 + A 11 0 0) 47 (nI k)) (268 + A 11 0 0) 48 (nI b)) (268 + A 11 0 0) 49 (nI 7)).1 274 1 = nI (A 11 0 0) := by rw [aw_sI_n (by omega), aw_sI_n (by omega), aw_sI_n (by omega)]; exact p1
    obtain ⟨hC1, hL1⟩ := hI.w11 (k := k) (b := b) hW h2 h1
    refine ok_chk (li_a (i := 47) hS ha (by omega)) (ok_chk (li_a (i := 48) hS ha (by omega)) (ok_chk (li_a (i := 49) hS ha (by omega)) (ok_chk h741 ?_)))
    have e47 : Int32.toNatClampNeg 47 = 47 := rfl
    have e48 : Int32.toNatClampNeg 48 = 48 := rfl
    have e49 : Int32.toNatClampNeg 49 = 49 := rfl
    have e1 : Int32.toNatClampNeg 1 = 1 := rfl
    have e7 : (7 : Int32) = nI 7 := rfl
    rw [e47, e48, e49, e1, e7, b48, p1', il_1, nI_add]
    have p2 : (aw_sI (aw_sI (aw_sI (aw_sI d1 (268 + A 11 0 0) 47 (nI k)) (268 + A 11 0 0) 48 (nI b)) (268 + A 11 0 0) 49 (nI 7)) 274 1 (nI (A 11 0 0 + 1))).1 274 1 = nI (A 11 0 0 + 1) := aw_sI_e rfl rfl
    generalize aw_sI (aw_sI (aw_sI (aw_sI d1 (268 + A 11 0 0) 47 (nI k)) (268 + A 11 0 0) 48 (nI b)) (268 + A 11 0 0) 49 (nI 7)) 274 1 (nI (A 11 0 0 + 1)) = d2 at hC1 hL1 p2 ⊢
    unfold f_L_isTold_J149
    refine ok_chk (by omega) (ok_chk (by omega) (ok_bind (D_design hS hn hW hC1 (nI k) (dI b) 0 0 0) (fun z hz => ?_)))
    have eo : o_design A (nI k) (dI b) = (0, nI (A 11 0 0), newD A k b) := by
      unfold o_design
      rw [if_neg (by rw [ix_t hk2 (by omega), okb hb, decide_eq_true hb4]; decide), if_neg (by omega), nI_cl (by omega), bas_dI hb]
    rw [eo] at hz
    obtain ⟨z1, z2, z3, z4, z5⟩ := hz
    rw [if_neg (show ¬ nI 1 = 0 by decide)]
    refine ok_chk (ly_I (N := 2) (i := 1) z4 (by decide) (by decide) (by decide) (by decide)) ?_
    have z6 : z.2.2.1 274 (Int32.toNatClampNeg 1) = nI (A 11 0 0 + 1) := by rw [(z3 274 (by omega) (by omega)).1]; exact p2
    have z7 : nI (A 11 0 0 + 1) - 1 = nI (A 11 0 0) := by rw [il_1, nI_subI (by omega), Nat.add_sub_cancel]
    rw [z6, z7, if_pos (show z.1 = nI (A 11 0 0) from z1)]
    exact ok_chk (by decide) (ok_some ⟨rfl, newD A k b, hW.des2 (by omega) (by omega) (by omega), z4, z5, z2, hL1.c z3⟩)
  have h73 : ¬ (k < 2 ∧ b < 4) → ok (f_L_isTold_J73 0 268 269 274 (nI k) (dI b) σ d) (PostS A) := fun hno => by
    unfold f_L_isTold_J73 f_L_isTold_J74
    refine ok_chk h741 ?_
    unfold f_L_isTold_J88
    rw [if_pos (show (0 : Int32) = 0 from rfl)]
    exact ok_s (fun _ => hbad hno) (fun _ => hbad hno)
  unfold f_L_isTold_J55
  by_cases ck : k < 2
  · rw [if_neg (by rw [il_2, nI_leJ (by omega) (by omega)]; omega)]
    by_cases cb : b < 4
    · rw [if_neg ((by decide : ∀ b, b < 4 → ¬ (3 : Int32) ≤ dI b) b cb)]
      unfold f_L_isTold_J74
      refine ok_chk h741 ?_
      rw [q1]
      have h := hgood ck cb
      rcases (show A 11 0 0 = 0 ∨ A 11 0 0 = 1 by omega) with e | e
      · rw [if_pos (by rw [e]; rfl)]
        rw [e] at h; exact h
      · rw [if_neg (by rw [e]; decide)]
        rw [e] at h; exact h
    · rw [if_pos (by rw [show b = 4 by omega]; decide)]
      exact h73 (fun h => cb h.2)
  · rw [if_pos (by rw [il_2, nI_leJ (by omega) (by omega)]; omega)]
    exact h73 (fun h => ck h.1)
theorem T_J33 {A : St} {σ : Sg} {d : Dt} {k two : Nat} (hS : Lay σ) (hn : ly_n σ = A 11 0 0) (hW : WF A) (hI : SoI A d) (h2 : A 11 0 0 < 2) (hk : k ≤ 2) (ht : two < 60000) : ok (f_L_isTold_J33 (nI k) 0 268 269 274 (nI two) σ d) (PostS A) := by
  have d13 : nI two - nI two / (13 : Int32) * (13 : Int32) = nI (two % 13) := by rw [il_13]; exact nI_mod (by omega) (by omega)
  have d4 : nI two - nI two / (4 : Int32) * (4 : Int32) = nI (two % 4) := by rw [il_4]; exact nI_mod (by omega) (by omega)
  unfold f_L_isTold_J33
  rw [d13, d4]
  by_cases c : two % 13 = 12
  · rw [if_pos (by rw [c]; rfl)]
    exact T_J55 (b := 4) hS hn hW hI h2 hk (by omega)
  · rw [if_neg (by rw [il_12, nI_eqJ (by omega) (by omega)]; exact c)]
    exact T_J55 (b := two % 4) hS hn hW hI h2 hk (by omega)
theorem L_isTold {A : St} {σ : Sg} {d : Dt} {what one two : Nat} (hS : Lay σ) (hn : ly_n σ = A 11 0 0) (hW : WF A) (hI : SoI A d) (hwh : what < 3) (h1 : one < 60000) (h2 : two < 60000) : ok (f_L_isTold 0 268 269 272 273 274 (nI what) (nI one) (nI two) σ d) (PostS A) := by
  have hd2 := hI.2.1.d2
  have q1 : d.1 274 (Int32.toNatClampNeg 1) = nI (A 11 0 0) := rq_des hI.2.1
  have d13 : nI one - nI one / (13 : Int32) * (13 : Int32) = nI (one % 13) := by rw [il_13]; exact nI_mod (by omega) (by omega)
  have d2 : nI one - nI one / (2 : Int32) * (2 : Int32) = nI (one % 2) := by rw [il_2]; exact nI_mod (by omega) (by omega)
  have d23 : nI one - nI one / (23 : Int32) * (23 : Int32) = nI (one % 23) := by rw [il_23]; exact nI_mod (by omega) (by omega)
  have d50 : nI one - nI one / (50 : Int32) * (50 : Int32) = nI (one % 50) := by rw [il_50]; exact nI_mod (by omega) (by omega)
  have d4 : nI one - nI one / (4 : Int32) * (4 : Int32) = nI (one % 4) := by rw [il_4]; exact nI_mod (by omega) (by omega)
  unfold f_L_isTold
  rcases (show what = 0 ∨ what = 1 ∨ what = 2 by omega) with rfl | rfl | rfl
  · rw [if_pos (show nI 0 = 0 from rfl)]
    refine ok_chk (ly_I (N := 2) (i := 1) hS (by decide) (by decide) (by decide) (by decide)) ?_
    rw [q1, d13, d2]
    by_cases c2 : A 11 0 0 = 2
    · rw [if_pos (by rw [c2]; rfl)]
      exact ok_chk (by decide) (ok_some ⟨rfl, A, hW, hS, hn, hI⟩)
    · rw [if_neg (by rw [il_2, nI_eqJ (by omega) (by omega)]; exact c2)]
      by_cases c : one % 13 = 12
      · rw [if_pos (by rw [c]; rfl)]
        exact T_J33 (k := 2) hS hn hW hI (by omega) (by omega) h2
      · rw [if_neg (by rw [il_12, nI_eqJ (by omega) (by omega)]; exact c)]
        exact T_J33 hS hn hW hI (by omega) (by omega) h2
  · rw [if_neg (show ¬ nI 1 = 0 by decide), if_pos (show nI 1 = 1 from rfl), d23, d50]
    by_cases c : one % 23 = 22
    · rw [if_pos (by rw [c]; rfl)]
      exact T_J212 (s := 50) hS hn hW hI (by omega) h2
    · rw [if_neg (by rw [il_22, nI_eqJ (by omega) (by omega)]; exact c)]
      exact T_J212 hS hn hW hI (by omega) h2
  · rw [if_neg (show ¬ nI 2 = 0 by decide), if_neg (show ¬ nI 2 = 1 by decide), d13, d4]
    by_cases c : one % 13 = 12
    · rw [if_pos (by rw [c]; rfl)]
      exact T_J438 (g := 4) hS hn hW hI (by omega) h1 h2
    · rw [if_neg (by rw [il_12, nI_eqJ (by omega) (by omega)]; exact c)]
      exact T_J438 hS hn hW hI (by omega) h1 h2
