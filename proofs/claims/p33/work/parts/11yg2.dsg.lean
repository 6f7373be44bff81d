/-! a sign for a unit -/
theorem li_a {σ : Sg} {a i : Nat} (hS : Lay σ) (ha : a = 268 ∨ a = 269) (hi : i < 50) : aw_I σ 20 a (nI i) := by
  rcases ha with rfl | rfl <;> exact ly_I (N := 50) hS (by decide) (by decide) hi (by decide)
theorem li_k {σ : Sg} {a i : Nat} (hS : Lay σ) (ha : a = 270 ∨ a = 271) (hi : i < 50) : aw_I σ 20 a (nI i) := by
  rcases ha with rfl | rfl <;> exact ly_I (N := 50) hS (by decide) (by decide) hi (by decide)
theorem SoI.w14 {A : St} {d : Dt} {D u s : Nat} (hI : SoI A d) (hW : WF A) (hD : D < A 11 0 0) (hu : u < 47) : RepC A (aw_sI d (268 + D) u (nI s)) ∧ RepL (stU A 14 D u s) (aw_sI d (268 + D) u (nI s)) := by
  have hd2 := hI.2.1.d2
  have hA := hI.2.2.1 D hD
  refine ⟨hI.1.w_x (by omega) hW.words, hI.2.dsg hD (fun f i j hf => stU_n (by omega)) (fun c h1 h2 h3 h4 => by funext j; exact aw_sI_n (by omega)) ⟨fun v hv => ?_, ?_, ?_, ?_⟩ (fun k hk => ?_)⟩
  · by_cases e : v = u
    · rw [aw_sI_e rfl e, stU_e rfl rfl e]
    · rw [aw_sI_n (by omega), stU_n (by omega)]; exact hA.1 v hv
  · rw [aw_sI_n (by omega), stU_n (by omega)]; exact hA.2.1
  · rw [aw_sI_n (by omega), stU_n (by omega)]; exact hA.2.2.1
  · unfold mkB
    rw [aw_sI_n (by omega), stU_n (by omega), stU_n (by omega), stU_n (by omega)]; exact hA.2.2.2
  · have := hI.2.2.2.1 D (by omega) k hk
    rw [if_pos hD] at this
    rw [aw_sI_n (by omega), stU_n (by omega)]; exact this
theorem G_no {A : St} {σ : Sg} {d : Dt} {a D u s m : Nat} (hS : Lay σ) (hn : ly_n σ = A 11 0 0) (hW : WF A) (hI : SoI A d) (ha : a = 268 ∨ a = 269) (hu : u < 50) (hs : s ≤ 50) (hm : m ≤ 1) (eo : o_assign A (nI D) (nI u) (nI s) m = (1, nI 0, A)) : ok (f_L_isDesign_J138 σ (nI 0) 0 a (nI D) (nI u) (nI s) (nI m) d) (Post A) := by
  unfold f_L_isDesign_J138
  refine G_L146 hS ha hu (fun b => ?_) 47 0 aw_FU false (by omega) (by show _ < 5000; omega)
  rw [if_pos (show nI 0 = 0 from rfl)]
  unfold f_L_isDesign_J222 f_L_isDesign_J223
  rw [if_pos (show nI 0 = 0 from rfl)]
  unfold f_L_isDesign_J238
  rw [if_pos rfl]
  exact G_J251 hS hn hW hI.1 hm hs false false hW rfl hI.2 ⟨1, nI 0, eo, Or.inl ⟨rfl, rfl⟩⟩
theorem G_yes {A : St} {σ : Sg} {d : Dt} {D u s m : Nat} (hS : Lay σ) (hn : ly_n σ = A 11 0 0) (hW : WF A) (hI : SoI A d) (hD : D < A 11 0 0) (hU : isU (A 12 0 D) u = true) (hs : s ≤ 50) (hm : m ≤ 1) : ok (f_L_isDesign_J138 σ (nI 1) 0 (268 + D) (nI D) (nI u) (nI s) (nI m) d) (Post A) := by
  have hd2 := hI.2.1.d2
  have ha : 268 + D = 268 ∨ 268 + D = 269 := by omega
  have hu := isU_47 hU
  have hG := hW.G hD
  have hA := hI.2.2.1 D hD
  have hx : (ix (nI D) (A 11 0 0) && uOK (A 12 0 (nI D).toNatClampNeg) (nI u)) = true := by rw [ix_t hD (by omega), nI_cl (by omega), uOK_is (by omega), hU]; rfl
  have hcu : aw_I σ 20 (268 + D) (nI u) := li_a hS ha (by omega)
  have qu : d.1 (268 + D) (nI u).toNatClampNeg = nI (A 14 D u) := by rw [nI_cl (by omega)]; exact hA.1 u hu
  -- nothing is put
  have hno : (∃ t v, o_assign A (nI D) (nI u) (nI s) m = (t, v, A) ∧ ((true = false ∧ t = 1) ∨ (true = true ∧ s = 50 ∧ t = 2) ∨ (true = true ∧ s < 50 ∧ false = false ∧ t = 3) ∨ (true = true ∧ s < 50 ∧ false = true ∧ t = 0 ∧ nI (A 14 D u) = v))) → ok (f_L_isDesign_J222 σ 0 (268 + D) (nI D) (nI u) (nI s) (nI m) (nI 1) d) (Post A) := fun h => by
    unfold f_L_isDesign_J222 f_L_isDesign_J223
    rw [if_neg (show ¬ nI 1 = 0 by decide)]
    refine ok_chk hcu ?_
    unfold f_L_isDesign_J238
    rw [if_pos rfl, qu]
    exact G_J251 hS hn hW hI.1 hm hs true false hW rfl hI.2 h
  unfold f_L_isDesign_J138
  by_cases e50 : s = 50
  · refine G_L146 hS ha (by omega) (fun b => ?_) 47 0 aw_FU false (by omega) (by show _ < 5000; omega)
    rw [if_neg (show ¬ nI 1 = 0 by decide), if_pos (by rw [e50]; decide)]
    refine hno ⟨2, nI 0, ?_, Or.inr (Or.inl ⟨rfl, e50, rfl⟩)⟩
    unfold o_assign
    rw [if_neg (by rw [hx]; decide), if_pos (ix_f (by omega) (by omega))]
  · have hs50 : s < 50 := by omega
    have hL := fun kk => G_L146t (x4 := nI D) (x11 := nI m) (x12 := nI 1) (k := kk) hS ha hA hG.1 hG.2.2.1 (show u < 50 by omega) hs50 47 0 aw_FU (by omega) (by show _ < 5000; omega)
    refine (congrArg (fun t => ok t _) (hL _)).mpr ?_
    rw [if_neg (show ¬ nI 1 = 0 by decide), if_neg (by rw [il_50, nI_leJ (by omega) (by omega)]; omega)]
    have e1 : (nI D).toNatClampNeg = D := nI_cl (by omega)
    have e2 : (nI u).toNatClampNeg = u := nI_cl (by omega)
    have e3 : (nI s).toNatClampNeg = s := nI_cl (by omega)
    have hyes : ¬ (m = 0 ∧ othU A D u s = true) → ok (f_L_isDesign_J218 σ 0 (268 + D) (nI D) (nI u) (nI s) (nI m) (nI 1) d) (Post A) := fun hc => by
      obtain ⟨hC1, hL1⟩ := hI.w14 (s := s) hW hD hu
      unfold f_L_isDesign_J218 f_L_isDesign_J223
      rw [if_neg (show ¬ nI 1 = 0 by decide)]
      refine ok_chk hcu ?_
      unfold f_L_isDesign_J238
      rw [if_neg (show ¬ (1 : Int32) = 0 by decide), qu]
      refine ok_chk hcu ?_
      rw [e2]
      refine G_J251 hS hn hW hC1 hm hs true true (hW.asg hs50) (stU_n (by omega)) hL1 ⟨0, nI (A 14 D u), ?_, Or.inr (Or.inr (Or.inr ⟨rfl, hs50, rfl, rfl, rfl⟩))⟩
      unfold o_assign
      rw [if_neg (by rw [hx]; decide), if_neg (by rw [ix_t hs50 (by omega)]; decide), e1, e2, e3, if_neg hc]
    rcases (show m = 0 ∨ m = 1 by omega) with rfl | rfl
    · rw [if_pos (show nI 0 = 0 from rfl)]
      cases ho : othU A D u s
      · rw [if_pos (show bI false = 0 from rfl)]
        exact hyes (fun h => by rw [ho] at h; exact absurd h.2 (by decide))
      · rw [if_neg (show ¬ bI true = 0 by decide)]
        refine hno ⟨3, nI 0, ?_, Or.inr (Or.inr (Or.inl ⟨rfl, hs50, rfl, rfl⟩))⟩
        unfold o_assign
        rw [if_neg (by rw [hx]; decide), if_neg (by rw [ix_t hs50 (by omega)]; decide), e1, e2, e3, if_pos ⟨rfl, ho⟩]
    · rw [if_neg (show ¬ nI 1 = 0 by decide)]
      exact hyes (fun h => by omega)
theorem G_J117 {A : St} {σ : Sg} {d : Dt} {a D u s m : Nat} (hS : Lay σ) (hn : ly_n σ = A 11 0 0) (hW : WF A) (hI : SoI A d) (ha : a = 268 ∨ a = 269) (hD3 : D < 3) (hax : D < A 11 0 0 → a = 268 + D) (hu : u < 50) (hs : s ≤ 50) (hm : m ≤ 1) : ok (f_L_isDesign_J117 σ (nI m) 0 a (nI D) (bI (decide (D < A 11 0 0))) (nI u) (nI s) d) (Post A) := by
  have hd2 := hI.2.1.d2
  unfold f_L_isDesign_J117
  by_cases e : D < A 11 0 0
  · rw [decide_eq_true e, if_neg (show ¬ bI true = 0 by decide)]
    have hA := hI.2.2.1 D e
    obtain rfl := hax e
    refine ok_bs (L_isUnit hS ha hA (hW.G e).1 (by omega)) ?_
    cases hU : isU (A 12 0 D) u
    · rw [if_pos (show bI false = 0 from rfl)]
      refine G_no hS hn hW hI ha hu hs hm ?_
      unfold o_assign
      rw [if_pos (by rw [ix_t e (by omega), nI_cl (by omega), uOK_is (by omega), hU]; rfl)]
    · rw [if_neg (show ¬ bI true = 0 by decide)]
      exact G_yes hS hn hW hI e hU hs hm
  · rw [decide_eq_false e, if_pos (show bI false = 0 from rfl)]
    refine G_no hS hn hW hI ha hu hs hm ?_
    unfold o_assign
    rw [if_pos (by rw [ix_f (by omega) (by omega), Bool.false_and])]
