/-! marks and keys; one turn for designs -/
theorem shr_b {a b c t : Nat} (ha : a ≤ 1) (hb : b ≤ 1) (hc : c ≤ 1) (ht : t < 3) : (nI (a + 2 * b + 4 * c) >>> (nI t &&& nI 31)) &&& nI 1 = nI (if t = 0 then a else if t = 1 then b else c) := (by decide +kernel : ∀ a, a < 2 → ∀ b, b < 2 → ∀ c, c < 2 → ∀ t, t < 3 → (nI (a + 2 * b + 4 * c) >>> (nI t &&& nI 31)) &&& nI 1 = nI (if t = 0 then a else if t = 1 then b else c)) a (by omega) b (by omega) c (by omega) t ht
theorem shr_mk {A : St} {D t : Nat} (hm : ∀ t, t < 3 → A 15 D t ≤ 1) (ht : t < 3) : (nI (mkB A D) >>> (nI t &&& nI 31)) &&& nI 1 = nI (A 15 D t) := by
  unfold mkB
  rw [shr_b (hm 0 (by omega)) (hm 1 (by omega)) (hm 2 (by omega)) ht]
  rcases (show t = 0 ∨ t = 1 ∨ t = 2 by omega) with rfl | rfl | rfl <;> rfl
theorem stU_same {A : St} {f i j v : Nat} (h : v = A f i j) : stU A f i j v = A := by
  funext a b c
  by_cases e : a = f ∧ b = i ∧ c = j
  · obtain ⟨rfl, rfl, rfl⟩ := e
    rw [stU_e rfl rfl rfl, h]
  · exact stU_n e
theorem SoI.w15 {A : St} {d : Dt} {D t b : Nat} (hI : SoI A d) (hW : WF A) (hD : D < A 11 0 0) : RepC A (aw_sI d (268 + D) 49 (nI (mkB (stU A 15 D t b) D))) ∧ RepL (stU A 15 D t b) (aw_sI d (268 + D) 49 (nI (mkB (stU A 15 D t b) D))) := by
  have hd2 := hI.2.1.d2
  have hA := hI.2.2.1 D hD
  refine ⟨hI.1.w_x (by omega) hW.words, hI.2.dsg hD (fun f i j hf => stU_n (by omega)) (fun c h1 h2 h3 h4 => by funext j; exact aw_sI_n (by omega)) ⟨fun v hv => ?_, ?_, ?_, ?_⟩ (fun k hk => ?_)⟩
  · rw [aw_sI_n (by omega), stU_n (by omega)]; exact hA.1 v hv
  · rw [aw_sI_n (by omega), stU_n (by omega)]; exact hA.2.1
  · rw [aw_sI_n (by omega), stU_n (by omega)]; exact hA.2.2.1
  · rw [aw_sI_e rfl rfl]
  · have := hI.2.2.2.1 D (by omega) k hk
    rw [if_pos hD] at this
    rw [aw_sI_n (by omega), stU_n (by omega)]; exact this
theorem G_J353 {A : St} {σ : Sg} {d : Dt} {D t two : Nat} (hS : Lay σ) (hn : ly_n σ = A 11 0 0) (hW : WF A) (hI : SoI A d) (hD : D < A 11 0 0) (ht : t < 3) (h2 : two < 60000) : ok (f_L_isDesign_J353 σ (nI (A 15 D t)) 0 (268 + D) (nI D) (nI two) (nI t) d) (Post A) := by
  have hd2 := hI.2.1.d2
  have ha : 268 + D = 268 ∨ 268 + D = 269 := by omega
  have hm := (hW.G hD).2.2.2.1
  have hmt := hm t ht
  have hA := hI.2.2.1 D hD
  have h49 : aw_I σ 20 (268 + D) 49 := li_a (i := 49) hS ha (by omega)
  have q49 : d.1 (268 + D) (Int32.toNatClampNeg 49) = nI (mkB A D) := hA.2.2.2
  have key : ∀ b, b ≤ 1 → ok (f_L_isDesign_J367 σ (nI b) 0 (268 + D) (nI D) (nI t) (nI (A 15 D t)) d) (Post A) := fun b hb => by
    obtain ⟨hC1, hL1⟩ := hI.w15 (t := t) (b := b) hW hD
    have hc := C_mark hS hn hW hC1 (nI D) (nI t) hb
    have eo : o_mark A (nI D) (nI t) b = (0, nI (A 15 D t), stU A 15 D t b) := by
      unfold o_mark
      rw [if_neg (by rw [ix_t hD (by omega), ix_t ht (by omega)]; decide), nI_cl (by omega), nI_cl (by omega)]
    rw [eo] at hc
    have fin : ∀ T : Int32, nI (mkB A D) ^^^ T = nI (mkB (stU A 15 D t b) D) → ok (f_L_isDesign_J389 σ T (d.1 (268 + D) (Int32.toNatClampNeg 49)) 49 (268 + D) 0 (nI D) (nI t) (nI (A 15 D t)) (nI b) d) (Post A) := fun T hT => by
      unfold f_L_isDesign_J389
      rw [q49, hT]
      refine ok_chk h49 (ok_chk (ly_O hS (by decide) (by decide)) ?_)
      refine ok_bind hc (fun z hz => ?_)
      obtain ⟨z1, z2, z3⟩ := hz
      unfold aw_nt
      rw [z1]
      show ok (if nI (A 15 D t) = nI (A 15 D t) then _ else _) _
      rw [if_pos rfl]
      exact ok_some ⟨rfl, _, hW.mrk hb, stU_n (by omega), z2, hL1.c z3⟩
    unfold f_L_isDesign_J367
    refine ok_chk h49 ?_
    by_cases e : A 15 D t = b
    · rw [if_pos (by rw [e])]
      refine fin 0 ?_
      rw [stU_same e.symm]; exact Int32.xor_zero
    · rw [if_neg (by rw [nI_eqJ (by omega) (by omega)]; exact e)]
      refine fin _ ?_
      have eb : b = 1 - A 15 D t := by omega
      rw [eb]
      exact xor_flip hm ht
  unfold f_L_isDesign_J353
  have d2 : nI two - nI two / (2 : Int32) * (2 : Int32) = nI (two % 2) := by rw [il_2]; exact nI_mod (by omega) (by omega)
  rw [d2]
  by_cases c : two % 2 = 0
  · rw [if_pos (by rw [c]; rfl)]
    exact key 1 (by omega)
  · rw [if_neg (by rw [il_0, nI_eqJ (by omega) (by omega)]; exact c)]
    exact key 0 (by omega)
/-! keys -/
theorem G_564 {A : St} {σ : Sg} {y : Dt} {B : St} {x v : Int32} (hx : x = v) (hW : WF B) (e : B 11 0 0 = A 11 0 0) (hI : SoI B y) : ok (f_L_isDesign_J564 σ v x y) (Post A) := by
  unfold f_L_isDesign_J564
  rw [if_pos hx]
  exact ok_some ⟨rfl, B, hW, e, hI⟩
def kyG (A : St) (D s q : Nat) (j : Nat) : Nat := if A 16 D j = q then A 16 D s else A 16 D j
def Ky (A : St) (D s q i : Nat) (d0 d : Dt) : Prop := (∀ c, c ≠ 270 + D → d.1 c = d0.1 c) ∧ (∀ j, j < i → d.1 (270 + D) j = nI (kyG A D s q j)) ∧ ∀ j, i ≤ j → d.1 (270 + D) j = d0.1 (270 + D) j
theorem G_L466 {A : St} {σ : Sg} {d0 : Dt} {D s q : Nat} {Q : Int32 × Dt → Prop} {k : Dt → Option (Int32 × Dt)} (hS : Lay σ) (hW : WF A) (hD : D < A 11 0 0) (hD2 : D < 2) (hs : s < 50) (hq : q < 50) (hK : ∀ j, j < 50 → d0.1 (270 + D) j = nI (A 16 D j)) (hk : ∀ d, Ky A D s q 50 d0 d → ok (k d) Q) : ∀ (m i f : Nat) (d : Dt), i + m = 50 → m < f → Ky A D s q i d0 d → ok (f_L_isDesign_L466 σ f k 0 (270 + D) (nI D) (nI 1) (nI s) (nI q) (nI (A 16 D s)) (nI i) d) Q := by
  have hr : 270 + D = 270 ∨ 270 + D = 271 := by omega
  intro m
  induction m with
  | zero =>
    intro i f d hi hf h
    cases f with
    | zero => omega
    | succ f =>
      obtain rfl : i = 50 := by omega
      show ok (f_L_isDesign_B466 σ (f_L_isDesign_L466 σ f k 0 (270 + D) (nI D) (nI 1) (nI s) (nI q) (nI (A 16 D s))) k 0 (270 + D) (nI D) (nI 1) (nI s) (nI q) (nI (A 16 D s)) (nI 50) d) Q
      unfold f_L_isDesign_B466
      rw [if_pos (by decide)]
      exact hk d h
  | succ m ih =>
    intro i f d hi hf h
    cases f with
    | zero => omega
    | succ f =>
      have hi50 : i < 50 := by omega
      have ci : (nI i).toNatClampNeg = i := nI_cl (by omega)
      have hb := (hW.G hD).2.2.2.2 i hi50
      have qi : d.1 (270 + D) i = nI (A 16 D i) := by rw [h.2.2 i (Nat.le_refl _)]; exact hK i hi50
      have fin : ∀ v, v = kyG A D s q i → ok (f_L_isDesign_J506 σ (f_L_isDesign_L466 σ f k 0 (270 + D) (nI D) (nI 1) (nI s) (nI q) (nI (A 16 D s))) (nI v) (nI i) (270 + D) 0 (270 + D) (nI D) (nI 1) (nI s) (nI q) (nI (A 16 D s)) (nI i) d) Q := fun v hv => by
        unfold f_L_isDesign_J506
        rw [il_1, nI_add]
        refine ok_chk (li_k hS hr hi50) ?_
        rw [ci]
        refine ih (i + 1) f _ (by omega) (by omega) ⟨fun c hc => ?_, fun j hj => ?_, fun j hj => ?_⟩
        · rw [← h.1 c hc]; funext j; exact aw_sI_n (by omega)
        · by_cases e : j = i
          · rw [aw_sI_e rfl e, e, hv]
          · rw [aw_sI_n (by omega)]; exact h.2.1 j (by omega)
        · rw [aw_sI_n (by omega)]; exact h.2.2 j (by omega)
      show ok (f_L_isDesign_B466 σ (f_L_isDesign_L466 σ f k 0 (270 + D) (nI D) (nI 1) (nI s) (nI q) (nI (A 16 D s))) k 0 (270 + D) (nI D) (nI 1) (nI s) (nI q) (nI (A 16 D s)) (nI i) d) Q
      unfold f_L_isDesign_B466
      rw [if_neg (by rw [il_50, nI_leJ (by omega) (by omega)]; omega), if_neg (show ¬ nI 1 = 0 by decide), if_neg (by rw [il_50, nI_leJ (by omega) (by omega)]; omega)]
      refine ok_chk (li_k hS hr hi50) ?_
      rw [ci, qi]
      by_cases e : A 16 D i = q
      · rw [if_pos (by rw [e])]
        exact fin _ (by unfold kyG; rw [if_pos e])
      · rw [if_neg (by rw [nI_eqJ (by omega) (by omega)]; exact e)]
        exact fin _ (by unfold kyG; rw [if_neg e])
theorem SoI.w16 {A : St} {d0 d : Dt} {D s q : Nat} (hI : SoI A d0) (hW : WF A) (hD : D < A 11 0 0) (hs : s < 50) (h : Ky A D s q 50 d0 d) : RepC A (aw_sI d (270 + D) s (nI q)) ∧ RepL (stU (stF A 16 D 50 (kyG A D s q)) 16 D s q) (aw_sI d (270 + D) s (nI q)) := by
  have hd2 := hI.2.1.d2
  have hA := hI.2.2.1 D hD
  have hC : RepC A d := hI.1.scr hW.words (fun k hk => h.1 k (by omega))
  have r : ∀ c, c ≠ 270 + D → (aw_sI d (270 + D) s (nI q)).1 c = d0.1 c := fun c hc => by rw [← h.1 c hc]; funext j; exact aw_sI_n (by omega)
  refine ⟨hC.w_x (by omega) hW.words, hI.2.dsg hD (fun f i j hf => by rw [stU_n (by omega), stF_n (by omega)]) (fun c h1 h2 h3 h4 => r c h4) ?_ (fun k hk => ?_)⟩
  · unfold RepA at hA ⊢
    rw [r _ (by omega)]
    unfold mkB at hA ⊢
    have e : ∀ f i j, f ≠ 16 → stU (stF A 16 D 50 (kyG A D s q)) 16 D s q f i j = A f i j := fun f i j hf => by rw [stU_n (by omega), stF_n (by omega)]
    simp only [e 12 _ _ (by omega), e 13 _ _ (by omega), e 14 _ _ (by omega), e 15 _ _ (by omega)]
    exact hA
  · by_cases e : k = s
    · rw [aw_sI_e rfl e, stU_e rfl rfl e]
    · rw [aw_sI_n (by omega), stU_n (by omega), stF_e rfl rfl hk]
      exact h.2.1 k hk
theorem G_J531 {A : St} {σ : Sg} {d : Dt} {D s q : Nat} {b : Bool} {x11 : Int32} (hS : Lay σ) (hn : ly_n σ = A 11 0 0) (hW : WF A) (hI : SoI A d) (h : b = true → s = 50) (hs : s ≤ 50) (eo : o_key A (nI D) (nI s) (nI q) = (1, nI 0, A)) : ok (f_L_isDesign_J531 σ 0 (nI D) (bI b) (nI s) (nI q) x11 d) (Post A) := by
  unfold f_L_isDesign_J531
  refine ok_bind (D_key hS hn hW hI.1 (nI D) (nI s) (nI q) 0 0) (fun z hz => ?_)
  rw [eo] at hz
  have fin : ok (f_L_isDesign_J562 σ z.1 z.2) (Post A) := G_564 hz.1 hW rfl (hI.c hz.2.1 hz.2.2)
  cases b
  · rw [if_pos (show bI false = 0 from rfl)]; exact fin
  · rw [if_neg (show ¬ bI true = 0 by decide), if_pos (by rw [h rfl]; decide)]; exact fin
theorem G_J432 {A : St} {σ : Sg} {d : Dt} {r D s two : Nat} (hS : Lay σ) (hn : ly_n σ = A 11 0 0) (hW : WF A) (hI : SoI A d) (hr : r = 270 ∨ r = 271) (hD3 : D < 3) (hax : D < A 11 0 0 → r = 270 + D) (hs : s ≤ 50) (h2 : two < 60000) : ok (f_L_isDesign_J432 σ (nI s) 0 r (nI D) (nI two) (bI (decide (D < A 11 0 0))) d) (Post A) := by
  have hd2 := hI.2.1.d2
  have d50 : nI two - nI two / (50 : Int32) * (50 : Int32) = nI (two % 50) := by rw [il_50]; exact nI_mod (by omega) (by omega)
  have hFU : aw_FU = 4999 + 1 := rfl
  unfold f_L_isDesign_J432
  rw [d50]
  by_cases e : D < A 11 0 0
  · rw [decide_eq_true e, if_neg (show ¬ bI true = 0 by decide)]
    by_cases e50 : s = 50
    · rw [if_pos (by rw [e50]; decide)]
      unfold f_L_isDesign_J460 f_L_isDesign_J461
      rw [hFU]
      show ok (f_L_isDesign_B466 σ _ _ 0 r (nI D) (bI true) (nI s) (nI (two % 50)) 0 0 d) _
      unfold f_L_isDesign_B466
      rw [if_neg (by decide), if_neg (show ¬ bI true = 0 by decide), if_pos (by rw [e50]; decide)]
      unfold f_L_isDesign_J513
      rw [if_neg (show ¬ bI true = 0 by decide), if_pos (by rw [e50]; decide)]
      refine G_J531 hS hn hW hI (fun _ => e50) hs ?_
      unfold o_key
      rw [if_pos (by rw [ix_f (show 50 ≤ s by omega) (by omega), Bool.false_and, Bool.and_false])]
    · have hs50 : s < 50 := by omega
      obtain rfl := hax e
      have hK : ∀ j, j < 50 → d.1 (270 + D) j = nI (A 16 D j) := fun j hj => by
        have := hI.2.2.2.1 D (by omega) j hj
        rw [if_pos e] at this; exact this
      have cs : (nI s).toNatClampNeg = s := nI_cl (by omega)
      rw [if_neg (by rw [il_50, nI_leJ (by omega) (by omega)]; omega)]
      refine ok_chk (li_k hS hr hs50) ?_
      rw [cs, hK s hs50]
      unfold f_L_isDesign_J461
      refine G_L466 (d0 := d) hS hW e (by omega) hs50 (show two % 50 < 50 by omega) hK (fun d1 h1 => ?_) 50 0 aw_FU d (by omega) (by show _ < 5000; omega) ⟨fun _ _ => rfl, fun j hj => by omega, fun _ _ => rfl⟩
      obtain ⟨hC1, hL1⟩ := hI.w16 hW e hs50 h1
      unfold f_L_isDesign_J513
      rw [if_neg (show ¬ bI true = 0 by decide), if_neg (by rw [il_50, nI_leJ (by omega) (by omega)]; omega)]
      refine ok_chk (li_k hS hr hs50) ?_
      rw [cs]
      unfold f_L_isDesign_J531
      have hkb := (hW.G e).2.2.2.2
      have eo : o_key A (nI D) (nI s) (nI (two % 50)) = (0, nI (A 16 D s), stU (stF A 16 D 50 (kyG A D s (two % 50))) 16 D s (two % 50)) := by
        unfold o_key
        rw [if_neg (by rw [ix_t e (by omega), ix_t hs50 (by omega), ix_t (show two % 50 < 50 by omega) (by omega)]; decide), nI_cl (by omega), nI_cl (by omega), nI_cl (by omega)]
        rfl
      refine ok_bind (D_key hS hn hW hC1 (nI D) (nI s) (nI (two % 50)) 0 0) (fun z hz => ?_)
      rw [eo] at hz
      rw [if_neg (show ¬ bI true = 0 by decide), if_neg (by rw [il_50, nI_leJ (by omega) (by omega)]; omega)]
      refine G_564 hz.1 (hW.kys (by omega) (fun j hj => ?_)) (by rw [stU_n (by omega), stF_n (by omega)]) ⟨hz.2.1, hL1.c hz.2.2⟩
      unfold kyG
      split
      · exact hkb s hs50
      · exact hkb j hj
  · rw [decide_eq_false e, if_pos (show bI false = 0 from rfl)]
    unfold f_L_isDesign_J460 f_L_isDesign_J461
    rw [hFU]
    show ok (f_L_isDesign_B466 σ _ _ 0 r (nI D) (bI false) (nI s) (nI (two % 50)) 0 0 d) _
    unfold f_L_isDesign_B466
    rw [if_neg (by decide), if_pos (show bI false = 0 from rfl)]
    unfold f_L_isDesign_J513
    rw [if_pos (show bI false = 0 from rfl)]
    refine G_J531 hS hn hW hI (fun h => by cases h) hs ?_
    unfold o_key
    rw [if_pos (by rw [ix_f (by omega) (by omega), Bool.false_and])]
theorem G_J59 {A : St} {σ : Sg} {d : Dt} {a D u two : Nat} (hS : Lay σ) (hn : ly_n σ = A 11 0 0) (hW : WF A) (hI : SoI A d) (ha : a = 268 ∨ a = 269) (hD3 : D < 3) (hax : D < A 11 0 0 → a = 268 + D) (hu : u < 50) (h2 : two < 60000) : ok (f_L_isDesign_J59 σ (nI u) 0 a (nI D) (nI two) (bI (decide (D < A 11 0 0))) d) (Post A) := by
  have d19 : nI two - nI two / (19 : Int32) * (19 : Int32) = nI (two % 19) := by rw [il_19]; exact nI_mod (by omega) (by omega)
  have d3 : nI two - nI two / (3 : Int32) * (3 : Int32) = nI (two % 3) := by rw [il_3]; exact nI_mod (by omega) (by omega)
  have q3 : nI two / (3 : Int32) = nI (two / 3) := by rw [il_3, nI_divI (by omega) (by omega)]
  have q7 : nI two / (7 : Int32) = nI (two / 7) := by rw [il_7, nI_divI (by omega) (by omega)]
  have d73 : nI (two / 7) - nI (two / 7) / (3 : Int32) * (3 : Int32) = nI (two / 7 % 3) := by rw [il_3]; exact nI_mod (by omega) (by omega)
  have d50 : nI (two / 3) - nI (two / 3) / (50 : Int32) * (50 : Int32) = nI (two / 3 % 50) := by rw [il_50]; exact nI_mod (by omega) (by omega)
  have d6 : nI (two / 3) - nI (two / 3) / (6 : Int32) * (6 : Int32) = nI (two / 3 % 6) := by rw [il_6]; exact nI_mod (by omega) (by omega)
  have key : ∀ s, s ≤ 50 → ok (f_L_isDesign_J100 σ (nI s) 0 a (nI D) (nI two) (bI (decide (D < A 11 0 0))) (nI u) d) (Post A) := fun s hs => by
    unfold f_L_isDesign_J100
    rw [q7, d73]
    by_cases c : two / 7 % 3 = 0
    · rw [if_pos (by rw [c]; decide)]
      exact G_J117 (m := 0) hS hn hW hI ha hD3 hax hu hs (by omega)
    · rw [if_neg (by rw [il_0, nI_leJ (by omega) (by omega)]; omega)]
      exact G_J117 (m := 1) hS hn hW hI ha hD3 hax hu hs (by omega)
  unfold f_L_isDesign_J59
  rw [d19, d3, q3, d50, d6]
  by_cases c : two % 19 = 18
  · rw [if_pos (by rw [c]; rfl)]
    exact key 50 (by omega)
  · rw [if_neg (by rw [il_18, nI_eqJ (by omega) (by omega)]; exact c)]
    by_cases c3 : two % 3 = 0
    · rw [if_pos (by rw [c3]; rfl)]
      exact key _ (by omega)
    · rw [if_neg (by rw [il_0, nI_eqJ (by omega) (by omega)]; exact c3)]
      exact key _ (by omega)
theorem L_isDesign {A : St} {σ : Sg} {d : Dt} {a r D what one two : Nat} (hS : Lay σ) (hn : ly_n σ = A 11 0 0) (hW : WF A) (hI : SoI A d) (ha : a = 268 ∨ a = 269) (hr : r = 270 ∨ r = 271) (hD3 : D < 3) (hax : D < A 11 0 0 → a = 268 + D ∧ r = 270 + D) (hwh : what < 3) (h1 : one < 60000) (h2 : two < 60000) : ok (f_L_isDesign σ 0 a r 274 (nI D) (nI what) (nI one) (nI two) d) (Post A) := by
  have hd2 := hI.2.1.d2
  have q1 : d.1 274 (Int32.toNatClampNeg 1) = nI (A 11 0 0) := rq_des hI.2.1
  have d17 : nI one - nI one / (17 : Int32) * (17 : Int32) = nI (one % 17) := by rw [il_17]; exact nI_mod (by omega) (by omega)
  have d3 : nI one - nI one / (3 : Int32) * (3 : Int32) = nI (one % 3) := by rw [il_3]; exact nI_mod (by omega) (by omega)
  have q3 : nI one / (3 : Int32) = nI (one / 3) := by rw [il_3, nI_divI (by omega) (by omega)]
  have d33 : nI (one / 3) - nI (one / 3) / (3 : Int32) * (3 : Int32) = nI (one / 3 % 3) := by rw [il_3]; exact nI_mod (by omega) (by omega)
  have d12 : nI one - nI one / (12 : Int32) * (12 : Int32) = nI (one % 12) := by rw [il_12]; exact nI_mod (by omega) (by omega)
  have d23 : nI one - nI one / (23 : Int32) * (23 : Int32) = nI (one % 23) := by rw [il_23]; exact nI_mod (by omega) (by omega)
  have d50 : nI one - nI one / (50 : Int32) * (50 : Int32) = nI (one % 50) := by rw [il_50]; exact nI_mod (by omega) (by omega)
  have key : ok (f_L_isDesign_J13 σ (bI (decide (D < A 11 0 0))) 0 a r (nI D) (nI what) (nI one) (nI two) d) (Post A) := by
    unfold f_L_isDesign_J13
    rcases (show what = 0 ∨ what = 1 ∨ what = 2 by omega) with rfl | rfl | rfl
    · rw [if_pos (show nI 0 = 0 from rfl), d17, d3, q3, d33, d12]
      by_cases c : one % 17 = 16
      · rw [if_pos (by rw [c]; rfl)]
        exact G_J59 (u := 47) hS hn hW hI ha hD3 (fun h => (hax h).1) (by omega) h2
      · rw [if_neg (by rw [il_16, nI_eqJ (by omega) (by omega)]; exact c)]
        by_cases c3 : one % 3 = 0
        · rw [if_pos (by rw [c3]; rfl), il_44, nI_add]
          exact G_J59 hS hn hW hI ha hD3 (fun h => (hax h).1) (by omega) h2
        · rw [if_neg (by rw [il_0, nI_eqJ (by omega) (by omega)]; exact c3)]
          exact G_J59 hS hn hW hI ha hD3 (fun h => (hax h).1) (by omega) h2
    · rw [if_neg (show ¬ nI 1 = 0 by decide), if_pos (show nI 1 = 1 from rfl)]
      by_cases e : D < A 11 0 0
      · rw [decide_eq_true e, if_neg (show ¬ bI true = 0 by decide)]
        obtain ⟨rfl, _⟩ := hax e
        have hm := (hW.G e).2.2.2.1
        have ht : one % 3 < 3 := by omega
        have hmt := hm _ ht
        have q49 : d.1 (268 + D) (Int32.toNatClampNeg 49) = nI (mkB A D) := (hI.2.2.1 D e).2.2.2
        refine ok_chk (li_a (i := 49) hS ha (by omega)) ?_
        have eb : ((nI (mkB A D) >>> (nI (one % 3) &&& 31)) &&& (1 : Int32)) = nI (A 15 D (one % 3)) := shr_mk hm ht
        rw [q49, d3, eb]
        have fin := G_J353 hS hn hW hI e ht h2
        by_cases c : A 15 D (one % 3) = 1
        · rw [if_pos (by rw [c]; rfl)]
          rw [c] at fin; exact fin
        · rw [if_neg (by rw [il_1, nI_eqJ (by omega) (by omega)]; exact c)]
          rw [show A 15 D (one % 3) = 0 by omega] at fin; exact fin
      · rw [decide_eq_false e, if_pos (show bI false = 0 from rfl)]
        exact ok_some ⟨rfl, A, hW, rfl, hI⟩
    · rw [if_neg (show ¬ nI 2 = 0 by decide), if_neg (show ¬ nI 2 = 1 by decide), d23, d50]
      by_cases c : one % 23 = 22
      · rw [if_pos (by rw [c]; rfl)]
        exact G_J432 (s := 50) hS hn hW hI hr hD3 (fun h => (hax h).2) (by omega) h2
      · rw [if_neg (by rw [il_22, nI_eqJ (by omega) (by omega)]; exact c)]
        exact G_J432 hS hn hW hI hr hD3 (fun h => (hax h).2) (by omega) h2
  unfold f_L_isDesign
  refine ok_chk (ly_I (N := 2) (i := 1) hS (by decide) (by decide) (by decide) (by decide)) ?_
  rw [q1]
  by_cases e : D < A 11 0 0
  · rw [if_neg (by rw [nI_leJ (by omega) (by omega)]; omega)]
    rw [decide_eq_true e] at key; exact key
  · rw [if_pos (by rw [nI_leJ (by omega) (by omega)]; omega)]
    rw [decide_eq_false e] at key; exact key
