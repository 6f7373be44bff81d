/-! the class's cells written -/
theorem alts_cg {A B : St} (h : ∀ f, f = 7 ∨ f = 8 ∨ f = 9 ∨ f = 10 → ∀ i j, B f i j = A f i j) (x n k c : Nat) : ∀ m, alts B x n k c m = alts A x n k c m := by
  intro m
  induction m with
  | zero => rfl
  | succ m ih => simp only [alts, ih, h 7 (by omega), h 8 (by omega), h 9 (by omega), h 10 (by omega)]
theorem spk_cg {A B : St} (h : ∀ f, f = 3 ∨ f = 4 ∨ (6 ≤ f ∧ f ≤ 10) → ∀ i j, B f i j = A f i j) (b w k : Nat) : spk B b w k = spk A b w k := by
  unfold spk
  rw [h 4 (by omega), h 3 (by omega), h 6 (by omega), alts_cg (fun f hf => h f (by omega))]
theorem RepD.cg {A B : St} {d d' : Dt} {b x : Nat} (h : RepD A d b x) (hA : ∀ f, (2 ≤ f ∧ f ≤ 4) ∨ (6 ≤ f ∧ f ≤ 10) → ∀ i j, B f i j = A f i j) (h20 : A 2 0 0 ≤ 20) (hd : ∀ c, x ≤ c → c < x + 27 → d'.1 c = d.1 c) : RepD B d' b x := by
  obtain ⟨h1, h2, h3, h4, h5⟩ := h
  have e0 := hd x (by omega) (by omega)
  have e2 := hA 2 (by omega) 0 0
  have e3 := hA 3 (by omega)
  have e6 := hA 6 (by omega)
  refine ⟨by rw [e0, e2]; exact h1, fun w hw => ?_, fun w hw k hk => ?_, fun hb => by rw [e0]; exact h4 hb, fun hb => ⟨by rw [e0, e6]; exact (h5 hb).1, fun c hc => ?_⟩⟩
  · rw [e2] at hw
    rw [hd (x + 26) (by omega) (by omega), e3]; exact h2 w hw
  · rw [e2] at hw
    rw [e3] at hk
    rw [hd (x + 6 + w) (by omega) (by omega), spk_cg (fun f hf => hA f (by omega))]; exact h3 w hw k hk
  · rw [hd (x + 1) (by omega) (by omega), hd (x + 2) (by omega) (by omega), hd (x + 3) (by omega) (by omega), hd (x + 4) (by omega) (by omega), hA 7 (by omega), hA 8 (by omega), hA 9 (by omega), hA 10 (by omega)]
    exact (h5 hb).2 c hc
theorem RepG.cg {A B : St} {d d' : Dt} {D x : Nat} (h : RepG A d D x) (hA : ∀ f, 14 ≤ f ∧ f ≤ 16 → ∀ j, B f D j = A f D j) (hA2 : ∀ f, f = 12 ∨ f = 13 → B f 0 D = A f 0 D) (hd : ∀ c, x ≤ c → c < x + 4 → d'.1 c = d.1 c) : RepG B d' D x := by
  obtain ⟨h1, h2, h3, h4, h5⟩ := h
  have e0 := hd x (by omega) (by omega)
  refine ⟨by rw [e0, hA2 12 (by omega)]; exact h1, by rw [e0, hA2 13 (by omega)]; exact h2, fun u hu => ?_, fun u hu => ?_, fun u hu => ?_⟩
  · rw [hd (x + 1) (by omega) (by omega), hA 14 (by omega) u]; exact h3 u hu
  · rw [hd (x + 2) (by omega) (by omega), hA 15 (by omega) u]; exact h4 u hu
  · rw [hd (x + 3) (by omega) (by omega), hA 16 (by omega) u]; exact h5 u hu
theorem dlx_or {b : Nat} (hb : b < 4) : dlx b = 4 ∨ dlx b = 184 ∨ dlx b = 211 ∨ dlx b = 238 := (by decide : ∀ b, b < 4 → dlx b = 4 ∨ dlx b = 184 ∨ dlx b = 211 ∨ dlx b = 238) b hb
/-- the whole of it, from state to state -/
theorem RepC.cg {A B : St} {d d' : Dt} (h : RepC A d) (h20 : A 2 0 0 ≤ 20)
    (h1 : d'.1 1 1 = nI (B 0 0 0)) (h2 : ∀ k, k < 4 → d'.1 2 k = nI (B 1 0 k)) (h3 : ∀ w, w < 20 → d'.1 3 w = nI (B 5 0 w)) (h4 : d'.1 1 3 = nI (B 2 0 0)) (h5 : d'.1 0 4 = nI (B 11 0 0))
    (h6 : (∀ f, (2 ≤ f ∧ f ≤ 4) ∨ (6 ≤ f ∧ f ≤ 10) → ∀ i j, B f i j = A f i j) ∧ (∀ c, (4 ≤ c ∧ c ≤ 30) ∨ (184 ≤ c ∧ c ≤ 264) → d'.1 c = d.1 c))
    (h7 : ∀ s, s < 50 → d'.1 36 s = nI (B 17 0 s) ∧ d'.1 88 s = nI (figs (B 17 0 s)) ∧ ∀ p, p < figs (B 17 0 s) → d'.1 (38 + s) p = nI (dig (B 17 0 s) p))
    (h8 : ∀ g, g < 4 → d'.1 90 g = nI (B 18 0 g) ∧ d'.1 91 g = nI (B 19 0 g) ∧ d'.1 92 g = nI (B 20 0 g))
    (h9 : ∀ D, D < B 11 0 0 → RepG B d' D (277 + 4 * D)) : RepC B d' :=
  ⟨h1, h2, h3, h4, h5, fun b hb => (h.2.2.2.2.2.1 b hb).cg h6.1 h20 (fun c hc1 hc2 => h6.2 c (by have := dlx_or hb; omega)), h7, h8, h9⟩
theorem rc_dr {A : St} {d : Dt} (h : RepC A d) : d.1 1 1 = nI (A 0 0 0) := h.1
theorem rc_draft {A : St} {d : Dt} (h : RepC A d) {k : Nat} (hk : k < 4) : d.1 2 k = nI (A 1 0 k) := h.2.1 k hk
theorem rc_wt {A : St} {d : Dt} (h : RepC A d) {k : Nat} (hk : k < 20) : d.1 3 k = nI (A 5 0 k) := h.2.2.1 k hk
theorem rc_words {A : St} {d : Dt} (h : RepC A d) : d.1 1 3 = nI (A 2 0 0) := h.2.2.2.1
theorem rc_des {A : St} {d : Dt} (h : RepC A d) : d.1 0 4 = nI (A 11 0 0) := h.2.2.2.2.1
theorem RepC.D {A : St} {d : Dt} (h : RepC A d) {b : Nat} (hb : b < 4) : RepD A d b (dlx b) := h.2.2.2.2.2.1 b hb
theorem RepC.s {A : St} {d : Dt} (h : RepC A d) {s : Nat} (hs : s < 50) : d.1 36 s = nI (A 17 0 s) ∧ d.1 88 s = nI (figs (A 17 0 s)) ∧ ∀ p, p < figs (A 17 0 s) → d.1 (38 + s) p = nI (dig (A 17 0 s) p) := h.2.2.2.2.2.2.1 s hs
theorem RepC.g {A : St} {d : Dt} (h : RepC A d) {g : Nat} (hg : g < 4) : d.1 90 g = nI (A 18 0 g) ∧ d.1 91 g = nI (A 19 0 g) ∧ d.1 92 g = nI (A 20 0 g) := h.2.2.2.2.2.2.2.1 g hg
theorem RepC.G {A : St} {d : Dt} (h : RepC A d) {D : Nat} (hD : D < A 11 0 0) : RepG A d D (277 + 4 * D) := h.2.2.2.2.2.2.2.2 D hD

theorem RepC.w_dr {A : St} {d : Dt} {v : Nat} (h20 : A 2 0 0 ≤ 20) (h : RepC A d) : RepC (stU A 0 0 0 v) (aw_sI d 1 1 (nI v)) :=
  h.cg h20 (by rw [aw_sI_e rfl rfl, stU_e rfl rfl rfl]) (fun k hk => by rw [aw_sI_n (by omega), stU_n (by omega)]; exact rc_draft h hk) (fun k hk => by rw [aw_sI_n (by omega), stU_n (by omega)]; exact rc_wt h hk) (by rw [aw_sI_n (by omega), stU_n (by omega)]; exact rc_words h) (by rw [aw_sI_n (by omega), stU_n (by omega)]; exact rc_des h) ⟨fun f hf i k => stU_n (by omega), fun c hc => by funext k; exact aw_sI_n (by omega)⟩ (fun s hs => by
    have hs2 := h.s hs
    rw [show (stU A 0 0 0 v) 17 0 s = A 17 0 s from stU_n (by omega), aw_sI_n (by omega), aw_sI_n (by omega)]
    exact ⟨hs2.1, hs2.2.1, fun p hp => by rw [aw_sI_n (by omega)]; exact hs2.2.2 p hp⟩) (fun k hk => by
    have hg := h.g hk
    rw [aw_sI_n (by omega), aw_sI_n (by omega), aw_sI_n (by omega), stU_n (by omega), stU_n (by omega), stU_n (by omega)]; exact hg) (fun E hE => by
    rw [show (stU A 0 0 0 v) 11 0 0 = A 11 0 0 from stU_n (by omega)] at hE
    exact (h.G hE).cg (fun f hf k => stU_n (by omega)) (fun f hf => stU_n (by omega)) (fun c hc1 hc2 => by funext k; exact aw_sI_n (by omega)))
theorem RepC.w_draft {A : St} {d : Dt} {j v : Nat} (h20 : A 2 0 0 ≤ 20) (h : RepC A d) : RepC (stU A 1 0 j v) (aw_sI d 2 j (nI v)) :=
  h.cg h20 (by rw [aw_sI_n (by omega), stU_n (by omega)]; exact rc_dr h) (fun k hk => by
    by_cases e : k = j
    · rw [aw_sI_e rfl e, stU_e rfl rfl e]
    · rw [aw_sI_n (by omega), stU_n (by omega)]; exact rc_draft h hk) (fun k hk => by rw [aw_sI_n (by omega), stU_n (by omega)]; exact rc_wt h hk) (by rw [aw_sI_n (by omega), stU_n (by omega)]; exact rc_words h) (by rw [aw_sI_n (by omega), stU_n (by omega)]; exact rc_des h) ⟨fun f hf i k => stU_n (by omega), fun c hc => by funext k; exact aw_sI_n (by omega)⟩ (fun s hs => by
    have hs2 := h.s hs
    rw [show (stU A 1 0 j v) 17 0 s = A 17 0 s from stU_n (by omega), aw_sI_n (by omega), aw_sI_n (by omega)]
    exact ⟨hs2.1, hs2.2.1, fun p hp => by rw [aw_sI_n (by omega)]; exact hs2.2.2 p hp⟩) (fun k hk => by
    have hg := h.g hk
    rw [aw_sI_n (by omega), aw_sI_n (by omega), aw_sI_n (by omega), stU_n (by omega), stU_n (by omega), stU_n (by omega)]; exact hg) (fun E hE => by
    rw [show (stU A 1 0 j v) 11 0 0 = A 11 0 0 from stU_n (by omega)] at hE
    exact (h.G hE).cg (fun f hf k => stU_n (by omega)) (fun f hf => stU_n (by omega)) (fun c hc1 hc2 => by funext k; exact aw_sI_n (by omega)))
theorem RepC.w_wt {A : St} {d : Dt} {j v : Nat} (h20 : A 2 0 0 ≤ 20) (h : RepC A d) : RepC (stU A 5 0 j v) (aw_sI d 3 j (nI v)) :=
  h.cg h20 (by rw [aw_sI_n (by omega), stU_n (by omega)]; exact rc_dr h) (fun k hk => by rw [aw_sI_n (by omega), stU_n (by omega)]; exact rc_draft h hk) (fun k hk => by
    by_cases e : k = j
    · rw [aw_sI_e rfl e, stU_e rfl rfl e]
    · rw [aw_sI_n (by omega), stU_n (by omega)]; exact rc_wt h hk) (by rw [aw_sI_n (by omega), stU_n (by omega)]; exact rc_words h) (by rw [aw_sI_n (by omega), stU_n (by omega)]; exact rc_des h) ⟨fun f hf i k => stU_n (by omega), fun c hc => by funext k; exact aw_sI_n (by omega)⟩ (fun s hs => by
    have hs2 := h.s hs
    rw [show (stU A 5 0 j v) 17 0 s = A 17 0 s from stU_n (by omega), aw_sI_n (by omega), aw_sI_n (by omega)]
    exact ⟨hs2.1, hs2.2.1, fun p hp => by rw [aw_sI_n (by omega)]; exact hs2.2.2 p hp⟩) (fun k hk => by
    have hg := h.g hk
    rw [aw_sI_n (by omega), aw_sI_n (by omega), aw_sI_n (by omega), stU_n (by omega), stU_n (by omega), stU_n (by omega)]; exact hg) (fun E hE => by
    rw [show (stU A 5 0 j v) 11 0 0 = A 11 0 0 from stU_n (by omega)] at hE
    exact (h.G hE).cg (fun f hf k => stU_n (by omega)) (fun f hf => stU_n (by omega)) (fun c hc1 hc2 => by funext k; exact aw_sI_n (by omega)))
theorem RepC.w_ppl {A : St} {d : Dt} {j v : Nat} (h20 : A 2 0 0 ≤ 20) (h : RepC A d) : RepC (stU A 18 0 j v) (aw_sI d 90 j (nI v)) :=
  h.cg h20 (by rw [aw_sI_n (by omega), stU_n (by omega)]; exact rc_dr h) (fun k hk => by rw [aw_sI_n (by omega), stU_n (by omega)]; exact rc_draft h hk) (fun k hk => by rw [aw_sI_n (by omega), stU_n (by omega)]; exact rc_wt h hk) (by rw [aw_sI_n (by omega), stU_n (by omega)]; exact rc_words h) (by rw [aw_sI_n (by omega), stU_n (by omega)]; exact rc_des h) ⟨fun f hf i k => stU_n (by omega), fun c hc => by funext k; exact aw_sI_n (by omega)⟩ (fun s hs => by
    have hs2 := h.s hs
    rw [show (stU A 18 0 j v) 17 0 s = A 17 0 s from stU_n (by omega), aw_sI_n (by omega), aw_sI_n (by omega)]
    exact ⟨hs2.1, hs2.2.1, fun p hp => by rw [aw_sI_n (by omega)]; exact hs2.2.2 p hp⟩) (fun k hk => ⟨by
      by_cases e : k = j
      · rw [aw_sI_e rfl e, stU_e rfl rfl e]
      · rw [aw_sI_n (by omega), stU_n (by omega)]; exact (h.g hk).1, by rw [aw_sI_n (by omega), stU_n (by omega)]; exact (h.g hk).2.1, by rw [aw_sI_n (by omega), stU_n (by omega)]; exact (h.g hk).2.2⟩) (fun E hE => by
    rw [show (stU A 18 0 j v) 11 0 0 = A 11 0 0 from stU_n (by omega)] at hE
    exact (h.G hE).cg (fun f hf k => stU_n (by omega)) (fun f hf => stU_n (by omega)) (fun c hc1 hc2 => by funext k; exact aw_sI_n (by omega)))
theorem RepC.w_wor {A : St} {d : Dt} {j v : Nat} (h20 : A 2 0 0 ≤ 20) (h : RepC A d) : RepC (stU A 19 0 j v) (aw_sI d 91 j (nI v)) :=
  h.cg h20 (by rw [aw_sI_n (by omega), stU_n (by omega)]; exact rc_dr h) (fun k hk => by rw [aw_sI_n (by omega), stU_n (by omega)]; exact rc_draft h hk) (fun k hk => by rw [aw_sI_n (by omega), stU_n (by omega)]; exact rc_wt h hk) (by rw [aw_sI_n (by omega), stU_n (by omega)]; exact rc_words h) (by rw [aw_sI_n (by omega), stU_n (by omega)]; exact rc_des h) ⟨fun f hf i k => stU_n (by omega), fun c hc => by funext k; exact aw_sI_n (by omega)⟩ (fun s hs => by
    have hs2 := h.s hs
    rw [show (stU A 19 0 j v) 17 0 s = A 17 0 s from stU_n (by omega), aw_sI_n (by omega), aw_sI_n (by omega)]
    exact ⟨hs2.1, hs2.2.1, fun p hp => by rw [aw_sI_n (by omega)]; exact hs2.2.2 p hp⟩) (fun k hk => ⟨by rw [aw_sI_n (by omega), stU_n (by omega)]; exact (h.g hk).1, by
      by_cases e : k = j
      · rw [aw_sI_e rfl e, stU_e rfl rfl e]
      · rw [aw_sI_n (by omega), stU_n (by omega)]; exact (h.g hk).2.1, by rw [aw_sI_n (by omega), stU_n (by omega)]; exact (h.g hk).2.2⟩) (fun E hE => by
    rw [show (stU A 19 0 j v) 11 0 0 = A 11 0 0 from stU_n (by omega)] at hE
    exact (h.G hE).cg (fun f hf k => stU_n (by omega)) (fun f hf => stU_n (by omega)) (fun c hc1 hc2 => by funext k; exact aw_sI_n (by omega)))
theorem RepC.w_dia {A : St} {d : Dt} {j v : Nat} (h20 : A 2 0 0 ≤ 20) (h : RepC A d) : RepC (stU A 20 0 j v) (aw_sI d 92 j (nI v)) :=
  h.cg h20 (by rw [aw_sI_n (by omega), stU_n (by omega)]; exact rc_dr h) (fun k hk => by rw [aw_sI_n (by omega), stU_n (by omega)]; exact rc_draft h hk) (fun k hk => by rw [aw_sI_n (by omega), stU_n (by omega)]; exact rc_wt h hk) (by rw [aw_sI_n (by omega), stU_n (by omega)]; exact rc_words h) (by rw [aw_sI_n (by omega), stU_n (by omega)]; exact rc_des h) ⟨fun f hf i k => stU_n (by omega), fun c hc => by funext k; exact aw_sI_n (by omega)⟩ (fun s hs => by
    have hs2 := h.s hs
    rw [show (stU A 20 0 j v) 17 0 s = A 17 0 s from stU_n (by omega), aw_sI_n (by omega), aw_sI_n (by omega)]
    exact ⟨hs2.1, hs2.2.1, fun p hp => by rw [aw_sI_n (by omega)]; exact hs2.2.2 p hp⟩) (fun k hk => ⟨by rw [aw_sI_n (by omega), stU_n (by omega)]; exact (h.g hk).1, by rw [aw_sI_n (by omega), stU_n (by omega)]; exact (h.g hk).2.1, by
      by_cases e : k = j
      · rw [aw_sI_e rfl e, stU_e rfl rfl e]
      · rw [aw_sI_n (by omega), stU_n (by omega)]; exact (h.g hk).2.2⟩) (fun E hE => by
    rw [show (stU A 20 0 j v) 11 0 0 = A 11 0 0 from stU_n (by omega)] at hE
    exact (h.G hE).cg (fun f hf k => stU_n (by omega)) (fun f hf => stU_n (by omega)) (fun c hc1 hc2 => by funext k; exact aw_sI_n (by omega)))
theorem RepC.w_sign {A : St} {d : Dt} {D j v : Nat} (hD : D < A 11 0 0) (h20 : A 2 0 0 ≤ 20) (h : RepC A d) : RepC (stU A 14 D j v) (aw_sI d (277 + 4 * D + 1) j (nI v)) :=
  h.cg h20 (by rw [aw_sI_n (by omega), stU_n (by omega)]; exact rc_dr h) (fun k hk => by rw [aw_sI_n (by omega), stU_n (by omega)]; exact rc_draft h hk) (fun k hk => by rw [aw_sI_n (by omega), stU_n (by omega)]; exact rc_wt h hk) (by rw [aw_sI_n (by omega), stU_n (by omega)]; exact rc_words h) (by rw [aw_sI_n (by omega), stU_n (by omega)]; exact rc_des h) ⟨fun f hf i k => stU_n (by omega), fun c hc => by funext k; exact aw_sI_n (by omega)⟩ (fun s hs => by
    have hs2 := h.s hs
    rw [show (stU A 14 D j v) 17 0 s = A 17 0 s from stU_n (by omega), aw_sI_n (by omega), aw_sI_n (by omega)]
    exact ⟨hs2.1, hs2.2.1, fun p hp => by rw [aw_sI_n (by omega)]; exact hs2.2.2 p hp⟩) (fun k hk => by
    have hg := h.g hk
    rw [aw_sI_n (by omega), aw_sI_n (by omega), aw_sI_n (by omega), stU_n (by omega), stU_n (by omega), stU_n (by omega)]; exact hg) (fun E hE => by
    rw [show (stU A 14 D j v) 11 0 0 = A 11 0 0 from stU_n (by omega)] at hE
    by_cases eE : E = D
    · subst eE
      have hG := h.G hE
      exact ⟨by rw [aw_sI_n (by omega), stU_n (by omega)]; exact hG.1, by rw [aw_sI_n (by omega), stU_n (by omega)]; exact hG.2.1, fun k hk => by
        by_cases e : k = j
        · rw [aw_sI_e rfl e, stU_e rfl rfl e]
        · rw [aw_sI_n (by omega), stU_n (by omega)]; exact hG.2.2.1 k hk, fun k hk => by rw [aw_sI_n (by omega), stU_n (by omega)]; exact hG.2.2.2.1 k hk, fun k hk => by rw [aw_sI_n (by omega), stU_n (by omega)]; exact hG.2.2.2.2 k hk⟩
    · exact (h.G hE).cg (fun f hf k => stU_n (by omega)) (fun f hf => stU_n (by omega)) (fun c hc1 hc2 => by funext k; exact aw_sI_n (by omega)))
theorem RepC.w_mark {A : St} {d : Dt} {D j v : Nat} (hD : D < A 11 0 0) (h20 : A 2 0 0 ≤ 20) (h : RepC A d) : RepC (stU A 15 D j v) (aw_sI d (277 + 4 * D + 2) j (nI v)) :=
  h.cg h20 (by rw [aw_sI_n (by omega), stU_n (by omega)]; exact rc_dr h) (fun k hk => by rw [aw_sI_n (by omega), stU_n (by omega)]; exact rc_draft h hk) (fun k hk => by rw [aw_sI_n (by omega), stU_n (by omega)]; exact rc_wt h hk) (by rw [aw_sI_n (by omega), stU_n (by omega)]; exact rc_words h) (by rw [aw_sI_n (by omega), stU_n (by omega)]; exact rc_des h) ⟨fun f hf i k => stU_n (by omega), fun c hc => by funext k; exact aw_sI_n (by omega)⟩ (fun s hs => by
    have hs2 := h.s hs
    rw [show (stU A 15 D j v) 17 0 s = A 17 0 s from stU_n (by omega), aw_sI_n (by omega), aw_sI_n (by omega)]
    exact ⟨hs2.1, hs2.2.1, fun p hp => by rw [aw_sI_n (by omega)]; exact hs2.2.2 p hp⟩) (fun k hk => by
    have hg := h.g hk
    rw [aw_sI_n (by omega), aw_sI_n (by omega), aw_sI_n (by omega), stU_n (by omega), stU_n (by omega), stU_n (by omega)]; exact hg) (fun E hE => by
    rw [show (stU A 15 D j v) 11 0 0 = A 11 0 0 from stU_n (by omega)] at hE
    by_cases eE : E = D
    · subst eE
      have hG := h.G hE
      exact ⟨by rw [aw_sI_n (by omega), stU_n (by omega)]; exact hG.1, by rw [aw_sI_n (by omega), stU_n (by omega)]; exact hG.2.1, fun k hk => by rw [aw_sI_n (by omega), stU_n (by omega)]; exact hG.2.2.1 k hk, fun k hk => by
        by_cases e : k = j
        · rw [aw_sI_e rfl e, stU_e rfl rfl e]
        · rw [aw_sI_n (by omega), stU_n (by omega)]; exact hG.2.2.2.1 k hk, fun k hk => by rw [aw_sI_n (by omega), stU_n (by omega)]; exact hG.2.2.2.2 k hk⟩
    · exact (h.G hE).cg (fun f hf k => stU_n (by omega)) (fun f hf => stU_n (by omega)) (fun c hc1 hc2 => by funext k; exact aw_sI_n (by omega)))
theorem RepC.w_key {A : St} {d : Dt} {D j v : Nat} (hD : D < A 11 0 0) (h20 : A 2 0 0 ≤ 20) (h : RepC A d) : RepC (stU A 16 D j v) (aw_sI d (277 + 4 * D + 3) j (nI v)) :=
  h.cg h20 (by rw [aw_sI_n (by omega), stU_n (by omega)]; exact rc_dr h) (fun k hk => by rw [aw_sI_n (by omega), stU_n (by omega)]; exact rc_draft h hk) (fun k hk => by rw [aw_sI_n (by omega), stU_n (by omega)]; exact rc_wt h hk) (by rw [aw_sI_n (by omega), stU_n (by omega)]; exact rc_words h) (by rw [aw_sI_n (by omega), stU_n (by omega)]; exact rc_des h) ⟨fun f hf i k => stU_n (by omega), fun c hc => by funext k; exact aw_sI_n (by omega)⟩ (fun s hs => by
    have hs2 := h.s hs
    rw [show (stU A 16 D j v) 17 0 s = A 17 0 s from stU_n (by omega), aw_sI_n (by omega), aw_sI_n (by omega)]
    exact ⟨hs2.1, hs2.2.1, fun p hp => by rw [aw_sI_n (by omega)]; exact hs2.2.2 p hp⟩) (fun k hk => by
    have hg := h.g hk
    rw [aw_sI_n (by omega), aw_sI_n (by omega), aw_sI_n (by omega), stU_n (by omega), stU_n (by omega), stU_n (by omega)]; exact hg) (fun E hE => by
    rw [show (stU A 16 D j v) 11 0 0 = A 11 0 0 from stU_n (by omega)] at hE
    by_cases eE : E = D
    · subst eE
      have hG := h.G hE
      exact ⟨by rw [aw_sI_n (by omega), stU_n (by omega)]; exact hG.1, by rw [aw_sI_n (by omega), stU_n (by omega)]; exact hG.2.1, fun k hk => by rw [aw_sI_n (by omega), stU_n (by omega)]; exact hG.2.2.1 k hk, fun k hk => by rw [aw_sI_n (by omega), stU_n (by omega)]; exact hG.2.2.2.1 k hk, fun k hk => by
        by_cases e : k = j
        · rw [aw_sI_e rfl e, stU_e rfl rfl e]
        · rw [aw_sI_n (by omega), stU_n (by omega)]; exact hG.2.2.2.2 k hk⟩
    · exact (h.G hE).cg (fun f hf k => stU_n (by omega)) (fun f hf => stU_n (by omega)) (fun c hc1 hc2 => by funext k; exact aw_sI_n (by omega)))
/-- scratch and the law's cell -/
theorem RepC.w_x {A : St} {d : Dt} {c j : Nat} {x : Int32} (hc : c = 35 ∨ (93 ≤ c ∧ c ≤ 183) ∨ c = 89 ∨ (265 ≤ c ∧ c ≤ 276)) (h20 : A 2 0 0 ≤ 20) (h : RepC A d) : RepC A (aw_sI d c j x) :=
  h.scr h20 (fun k hk => by funext i; exact aw_sI_n (by omega))
theorem RepC.w_l {A : St} {d : Dt} {c j : Nat} {x : Int64} (h : RepC A d) : RepC A (aw_sL d c j x) := h
/-- what a call of the class leaves: c tells which exception a number stands for -/
def cc_I (t : Nat) : Nat := t
def cc_S (t : Nat) : Nat := t + 1
def cc_L (t : Nat) : Nat := if t = 1 then 1 else 3
def cc_E (t : Nat) : Nat := t + 2
def PXr (c : Nat → Nat) (o : Res) : Nat ⊕ Int32 := match o.1 with
  | 0 => .inr o.2.1
  | t + 1 => .inl (c (t + 1))
def PX (c : Nat → Nat) (d : Dt) (o : Res) (z : (Nat ⊕ Int32) × Dt) : Prop := z.1 = PXr c o ∧ RepC o.2.2 z.2 ∧ FrC d z.2
theorem ixi_1 {α : Type} {x : Int32} {N : Nat} {i1 : Decidable (x < nI 0)} {i2 : Decidable (x < nI N)} {a b : α} (hN : N < 2147483648) : @ite α (x < nI 0) i1 a (@ite α (x < nI N) i2 b a) = if ix x N = true then b else a := by
  rcases ix_or x N hN with ⟨j, hj, rfl, hi⟩ | ⟨hi, hx⟩
  · rw [hi, if_neg (by rw [nI_ltJ (by omega) (by omega)]; omega), if_pos (by rw [nI_ltJ (by omega) hN]; exact hj), if_pos rfl]
  · rw [hi]
    rcases hx with hx | ⟨hx, j, h1, h2, rfl⟩
    · rw [if_pos (show x < nI 0 from hx), if_neg (by simp)]
    · rw [if_neg (show ¬ nI j < nI 0 from hx), if_neg (by rw [nI_ltJ h2 hN]; omega), if_neg (by simp)]
theorem ixi_2 {α : Type} {x : Int32} {N : Nat} {i1 : Decidable (x < nI 0)} {i2 : Decidable (x ≤ nI N)} {a b : α} (hN : N < 2147483647) : @ite α (x < nI 0) i1 a (@ite α (x ≤ nI N) i2 b a) = if ix x (N + 1) = true then b else a := by
  have e : (x ≤ nI N) = (x < nI (N + 1)) := by
    rw [Int32.le_iff_toInt_le, Int32.lt_iff_toInt_lt, nI_toInt (by omega), nI_toInt (by omega)]
    apply propext; omega
  rw [← ixi_1 (i1 := i1) (i2 := Int32.decLt x (nI (N + 1))) (show N + 1 < 2147483648 by omega)]
  by_cases h1 : x < nI 0
  · rw [if_pos h1, if_pos h1]
  · rw [if_neg h1, if_neg h1]
    by_cases h2 : x ≤ nI N
    · rw [if_pos h2, if_pos (e ▸ h2)]
    · rw [if_neg h2, if_neg (e ▸ h2)]
theorem ixi_3 {α : Type} {x : Int32} {N : Nat} {i1 : Decidable (x < nI 0)} {i2 : Decidable (nI N ≤ x)} {a b : α} (hN : N < 2147483648) : @ite α (x < nI 0) i1 a (@ite α (nI N ≤ x) i2 a b) = if ix x N = true then b else a := by
  have e : (nI N ≤ x) = ¬ (x < nI N) := by
    rw [Int32.le_iff_toInt_le, Int32.lt_iff_toInt_lt]; apply propext; omega
  rw [← ixi_1 (i1 := i1) (i2 := Int32.decLt x (nI N)) hN]
  by_cases h1 : x < nI 0
  · rw [if_pos h1, if_pos h1]
  · rw [if_neg h1, if_neg h1]
    by_cases h2 : x < nI N
    · rw [if_pos h2, if_neg (by rw [e]; exact fun h => h h2)]
    · rw [if_neg h2, if_pos (by rw [e]; exact h2)]
theorem ixi_4 {α : Type} {x : Int32} {L N : Nat} {i1 : Decidable (x < nI L)} {i2 : Decidable (x ≤ nI N)} {a b : α} (hL : 0 < L) (hLN : L ≤ N) (hN : N < 2147483647) : @ite α (x < nI L) i1 a (@ite α (x ≤ nI N) i2 b a) = if (ix x (N + 1) && !ix x L) = true then b else a := by
  rcases nI_split x with h | ⟨j, hj, rfl⟩
  · rw [ix_neg h, if_pos (by rw [ng_3 h (by omega)]; trivial)]; simp
  · rw [ix1 hj (by omega), ix1 hj (by omega)]
    by_cases h1 : j < L
    · rw [if_pos (by rw [nI_ltJ hj (by omega)]; exact h1)]; simp [h1]
    · rw [if_neg (by rw [nI_ltJ hj (by omega)]; exact h1)]
      by_cases h2 : j ≤ N
      · rw [if_pos (by rw [nI_leJ hj (by omega)]; exact h2)]; simp [h1, Nat.lt_succ_of_le h2]
      · have h3 : ¬ j < N + 1 := by omega
        rw [if_neg (by rw [nI_leJ hj (by omega)]; exact h2)]; simp [h1, h3]
theorem aw_ct_L {V α : Type} {e : Nat} {d : Dt} {kx : Nat → Option α} {kv : V → Option α} : aw_ct (Sum.inl e, d) kx kv = kx e := rfl
theorem aw_ct_R {V α : Type} {v : V} {d : Dt} {kx : Nat → Option α} {kv : V → Option α} : aw_ct (Sum.inr v, d) kx kv = kv v := rfl
