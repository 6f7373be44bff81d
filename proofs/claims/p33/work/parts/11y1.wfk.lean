/-! what holds of a state keeps holding -/
def W1 (A : St) : Prop := A 0 0 0 ≤ 4 ∧ ∀ k, k < A 0 0 0 → A 1 0 k < 972
def W2 (A : St) : Prop := A 2 0 0 ≤ 20 ∧ ∀ w, w < A 2 0 0 → 1 ≤ A 3 0 w ∧ A 3 0 w ≤ 4 ∧ 1 ≤ A 5 0 w ∧ A 5 0 w ≤ 999 ∧ ∀ k, k < A 3 0 w → A 4 w k < 972
def W3 (A : St) : Prop := ∀ x, x < 3 → A 6 0 x ≤ 6 ∧ ∀ c, c < A 6 0 x → A 7 x c < 4 ∧ A 8 x c < vals (A 7 x c) ∧ A 9 x c < vals (A 7 x c) ∧ A 10 x c ≤ 1
def W4 (A : St) : Prop := A 11 0 0 ≤ 5 ∧ ∀ D, D < A 11 0 0 → A 12 0 D ≤ 1 ∧ A 13 0 D ≤ 3 ∧ (∀ u, u < 47 → A 14 D u < 50) ∧ (∀ t, t < 3 → A 15 D t ≤ 1) ∧ ∀ s, s < 50 → A 16 D s < 50
def W5 (A : St) : Prop := ∀ s, s < 50 → isShape (A 17 0 s)
def W6 (A : St) : Prop := ∀ g, g < 4 → A 18 0 g ≤ 999 ∧ A 19 0 g ≤ 999 ∧ A 20 0 g < 3
theorem WF.to {A : St} (h : WF A) : W1 A ∧ W2 A ∧ W3 A ∧ W4 A ∧ W5 A ∧ W6 A := ⟨⟨h.1, h.2.1⟩, ⟨h.2.2.1, h.2.2.2.1⟩, h.2.2.2.2.1, ⟨h.2.2.2.2.2.1, h.2.2.2.2.2.2.1⟩, h.2.2.2.2.2.2.2.1, h.2.2.2.2.2.2.2.2⟩
theorem WF.mk2 {A B : St} (h : WF A) (g1 : (∀ f, f ≤ 1 → ∀ i j, B f i j = A f i j) ∨ W1 B) (g2 : (∀ f, 2 ≤ f ∧ f ≤ 5 → ∀ i j, B f i j = A f i j) ∨ W2 B) (g3 : (∀ f, 6 ≤ f ∧ f ≤ 10 → ∀ i j, B f i j = A f i j) ∨ W3 B) (g4 : (∀ f, 11 ≤ f ∧ f ≤ 16 → ∀ i j, B f i j = A f i j) ∨ W4 B) (g5 : (∀ i j, B 17 i j = A 17 i j) ∨ W5 B) (g6 : (∀ f, 18 ≤ f → ∀ i j, B f i j = A f i j) ∨ W6 B) : WF B := by
  obtain ⟨h1, h2, h3, h4, h5, h6⟩ := h.to
  have k1 : W1 B := by
    rcases g1 with g | g
    · unfold W1; rw [g 0 (by omega)]
      exact ⟨h1.1, fun k hk => by rw [g 1 (by omega)]; exact h1.2 k hk⟩
    · exact g
  have k2 : W2 B := by
    rcases g2 with g | g
    · unfold W2; rw [g 2 (by omega)]
      refine ⟨h2.1, fun w hw => ?_⟩
      rw [g 3 (by omega), g 5 (by omega)]
      have h := h2.2 w hw
      exact ⟨h.1, h.2.1, h.2.2.1, h.2.2.2.1, fun k hk => by rw [g 4 (by omega)]; exact h.2.2.2.2 k hk⟩
    · exact g
  have k3 : W3 B := by
    rcases g3 with g | g
    · intro x hx
      rw [g 6 (by omega)]
      refine ⟨(h3 x hx).1, fun c hc => ?_⟩
      rw [g 7 (by omega), g 8 (by omega), g 9 (by omega), g 10 (by omega)]
      exact (h3 x hx).2 c hc
    · exact g
  have k4 : W4 B := by
    rcases g4 with g | g
    · unfold W4; rw [g 11 (by omega)]
      refine ⟨h4.1, fun D hD => ?_⟩
      rw [g 12 (by omega), g 13 (by omega)]
      have h := h4.2 D hD
      exact ⟨h.1, h.2.1, fun u hu => by rw [g 14 (by omega)]; exact h.2.2.1 u hu, fun u hu => by rw [g 15 (by omega)]; exact h.2.2.2.1 u hu, fun u hu => by rw [g 16 (by omega)]; exact h.2.2.2.2 u hu⟩
    · exact g
  have k5 : W5 B := by
    rcases g5 with g | g
    · intro s hs; rw [g]; exact h5 s hs
    · exact g
  have k6 : W6 B := by
    rcases g6 with g | g
    · intro s hs; rw [g 18 (by omega), g 19 (by omega), g 20 (by omega)]; exact h6 s hs
    · exact g
  exact ⟨k1.1, k1.2, k2.1, k2.2, k3, k4.1, k4.2, k5, k6⟩

theorem WF.syl {A : St} (hW : WF A) {x : Nat} (hx : x < 972) (h4 : A 0 0 0 ≠ 4) : WF (stU (stU A 1 0 (A 0 0 0) x) 0 0 0 (A 0 0 0 + 1)) := by
  have h1 := hW.to.1
  refine hW.mk2 (Or.inr ?_) (Or.inl (fun f hf i j => by simp (disch := first | assumption | omega) only [stU_n, stF_n])) (Or.inl (fun f hf i j => by simp (disch := first | assumption | omega) only [stU_n, stF_n])) (Or.inl (fun f hf i j => by simp (disch := first | assumption | omega) only [stU_n, stF_n])) (Or.inl (fun i j => by simp (disch := first | assumption | omega) only [stU_n, stF_n])) (Or.inl (fun f hf i j => by simp (disch := first | assumption | omega) only [stU_n, stF_n]))
  · have e : stU (stU A 1 0 (A 0 0 0) x) 0 0 0 (A 0 0 0 + 1) 0 0 0 = A 0 0 0 + 1 := stU_e rfl rfl rfl
    unfold W1
    rw [e]
    refine ⟨by have := h1.1; omega, fun k hk => ?_⟩
    rw [stU_n (by omega)]
    by_cases e2 : k = A 0 0 0
    · rw [stU_e rfl rfl e2]; exact hx
    · rw [stU_n (by omega)]; exact h1.2 k (by omega)
theorem WF.wrd {A : St} (hW : WF A) {x : Nat} (hx : 1 ≤ x ∧ x ≤ 999) (h0 : A 0 0 0 ≠ 0) (h20 : A 2 0 0 ≠ 20) : WF (stU (stU (stU (stU (stF A 4 (A 2 0 0) (A 0 0 0) (A 1 0)) 3 0 (A 2 0 0) (A 0 0 0)) 5 0 (A 2 0 0) x) 0 0 0 0) 2 0 0 (A 2 0 0 + 1)) := by
  have h1 := hW.to.1
  have h2 := hW.to.2.1
  refine hW.mk2 (Or.inr ?_) (Or.inr ?_) (Or.inl (fun f hf i j => by simp (disch := first | assumption | omega) only [stU_n, stF_n])) (Or.inl (fun f hf i j => by simp (disch := first | assumption | omega) only [stU_n, stF_n])) (Or.inl (fun i j => by simp (disch := first | assumption | omega) only [stU_n, stF_n])) (Or.inl (fun f hf i j => by simp (disch := first | assumption | omega) only [stU_n, stF_n]))
  · unfold W1
    rw [stU_n (by omega), stU_e rfl rfl rfl]
    exact ⟨by omega, fun k hk => absurd hk (by omega)⟩
  · unfold W2
    rw [stU_e rfl rfl rfl]
    refine ⟨by have := h2.1; omega, fun w hw => ?_⟩
    by_cases e : w = A 2 0 0
    · subst e
      have e3 : ∀ y, stU (stU (stU (stU (stF A 4 (A 2 0 0) (A 0 0 0) (A 1 0)) 3 0 (A 2 0 0) (A 0 0 0)) 5 0 (A 2 0 0) x) 0 0 0 0) 2 0 0 y 3 0 (A 2 0 0) = A 0 0 0 := fun y => by
        rw [stU_n (by omega), stU_n (by omega), stU_n (by omega), stU_e rfl rfl rfl]
      have e5 : ∀ y, stU (stU (stU (stU (stF A 4 (A 2 0 0) (A 0 0 0) (A 1 0)) 3 0 (A 2 0 0) (A 0 0 0)) 5 0 (A 2 0 0) x) 0 0 0 0) 2 0 0 y 5 0 (A 2 0 0) = x := fun y => by
        rw [stU_n (by omega), stU_n (by omega), stU_e rfl rfl rfl]
      rw [e3, e5]
      refine ⟨by omega, h1.1, hx.1, hx.2, fun k hk => ?_⟩
      rw [stU_n (by omega), stU_n (by omega), stU_n (by omega), stU_n (by omega), stF_e rfl rfl hk]
      exact h1.2 k hk
    · simp (disch := first | assumption | omega) only [stU_n, stF_n]
      exact h2.2 w (by omega)
theorem WF.chg {A : St} (hW : WF A) {y p fr to b : Nat} (hy : y < 3) (hp : p < 4) (hf : fr < vals p) (ht : to < vals p) (hb : b ≤ 1) (h6 : A 6 0 y ≠ 6) : WF (stU (stU (stU (stU (stU A 7 y (A 6 0 y) p) 8 y (A 6 0 y) fr) 9 y (A 6 0 y) to) 10 y (A 6 0 y) b) 6 0 y (A 6 0 y + 1)) := by
  have h3 := hW.to.2.2.1
  refine hW.mk2 (Or.inl (fun f hf i j => by simp (disch := first | assumption | omega) only [stU_n, stF_n])) (Or.inl (fun f hf i j => by simp (disch := first | assumption | omega) only [stU_n, stF_n])) (Or.inr ?_) (Or.inl (fun f hf i j => by simp (disch := first | assumption | omega) only [stU_n, stF_n])) (Or.inl (fun i j => by simp (disch := first | assumption | omega) only [stU_n, stF_n])) (Or.inl (fun f hf i j => by simp (disch := first | assumption | omega) only [stU_n, stF_n]))
  · intro x hx
    have h := h3 x hx
    by_cases e : x = y
    · subst e
      rw [stU_e rfl rfl rfl]
      refine ⟨by omega, fun c hc => ?_⟩
      by_cases e2 : c = A 6 0 x
      · subst e2
        have e7 : ∀ z, stU (stU (stU (stU (stU A 7 x (A 6 0 x) p) 8 x (A 6 0 x) fr) 9 x (A 6 0 x) to) 10 x (A 6 0 x) b) 6 0 x z 7 x (A 6 0 x) = p := fun z => by
          rw [stU_n (by omega), stU_n (by omega), stU_n (by omega), stU_n (by omega), stU_e rfl rfl rfl]
        have e8 : ∀ z, stU (stU (stU (stU (stU A 7 x (A 6 0 x) p) 8 x (A 6 0 x) fr) 9 x (A 6 0 x) to) 10 x (A 6 0 x) b) 6 0 x z 8 x (A 6 0 x) = fr := fun z => by
          rw [stU_n (by omega), stU_n (by omega), stU_n (by omega), stU_e rfl rfl rfl]
        have e9 : ∀ z, stU (stU (stU (stU (stU A 7 x (A 6 0 x) p) 8 x (A 6 0 x) fr) 9 x (A 6 0 x) to) 10 x (A 6 0 x) b) 6 0 x z 9 x (A 6 0 x) = to := fun z => by
          rw [stU_n (by omega), stU_n (by omega), stU_e rfl rfl rfl]
        have e10 : ∀ z, stU (stU (stU (stU (stU A 7 x (A 6 0 x) p) 8 x (A 6 0 x) fr) 9 x (A 6 0 x) to) 10 x (A 6 0 x) b) 6 0 x z 10 x (A 6 0 x) = b := fun z => by
          rw [stU_n (by omega), stU_e rfl rfl rfl]
        rw [e7, e8, e9, e10]
        exact ⟨hp, hf, ht, hb⟩
      · simp (disch := first | assumption | omega) only [stU_n, stF_n]
        exact h.2 c (by omega)
    · simp (disch := first | assumption | omega) only [stU_n, stF_n]
      exact h
theorem WF.asg {A : St} (hW : WF A) {D u s : Nat} (hs : s < 50) : WF (stU A 14 D u s) := by
  have h4 := hW.to.2.2.2.1
  refine hW.mk2 (Or.inl (fun f hf i j => by simp (disch := first | assumption | omega) only [stU_n, stF_n])) (Or.inl (fun f hf i j => by simp (disch := first | assumption | omega) only [stU_n, stF_n])) (Or.inl (fun f hf i j => by simp (disch := first | assumption | omega) only [stU_n, stF_n])) (Or.inr ?_) (Or.inl (fun i j => by simp (disch := first | assumption | omega) only [stU_n, stF_n])) (Or.inl (fun f hf i j => by simp (disch := first | assumption | omega) only [stU_n, stF_n]))
  · unfold W4
    rw [stU_n (by omega)]
    refine ⟨h4.1, fun E hE => ?_⟩
    have h := h4.2 E hE
    rw [stU_n (by omega), stU_n (by omega)]
    refine ⟨h.1, h.2.1, fun v hv => ?_, fun v hv => by rw [stU_n (by omega)]; exact h.2.2.2.1 v hv, fun v hv => by rw [stU_n (by omega)]; exact h.2.2.2.2 v hv⟩
    by_cases e : E = D ∧ v = u
    · rw [stU_e rfl e.1 e.2]; exact hs
    · rw [stU_n (by omega)]; exact h.2.2.1 v hv
theorem WF.mrk {A : St} (hW : WF A) {D u s : Nat} (hs : s ≤ 1) : WF (stU A 15 D u s) := by
  have h4 := hW.to.2.2.2.1
  refine hW.mk2 (Or.inl (fun f hf i j => by simp (disch := first | assumption | omega) only [stU_n, stF_n])) (Or.inl (fun f hf i j => by simp (disch := first | assumption | omega) only [stU_n, stF_n])) (Or.inl (fun f hf i j => by simp (disch := first | assumption | omega) only [stU_n, stF_n])) (Or.inr ?_) (Or.inl (fun i j => by simp (disch := first | assumption | omega) only [stU_n, stF_n])) (Or.inl (fun f hf i j => by simp (disch := first | assumption | omega) only [stU_n, stF_n]))
  · unfold W4
    rw [stU_n (by omega)]
    refine ⟨h4.1, fun E hE => ?_⟩
    have h := h4.2 E hE
    rw [stU_n (by omega), stU_n (by omega)]
    refine ⟨h.1, h.2.1, fun v hv => by rw [stU_n (by omega)]; exact h.2.2.1 v hv, fun v hv => ?_, fun v hv => by rw [stU_n (by omega)]; exact h.2.2.2.2 v hv⟩
    by_cases e : E = D ∧ v = u
    · rw [stU_e rfl e.1 e.2]; exact hs
    · rw [stU_n (by omega)]; exact h.2.2.2.1 v hv
theorem WF.kys {A : St} (hW : WF A) {D u s : Nat} {g : Nat → Nat} (hs : s < 50) (hg : ∀ j, j < 50 → g j < 50) : WF (stU (stF A 16 D 50 g) 16 D u s) := by
  have h4 := hW.to.2.2.2.1
  refine hW.mk2 (Or.inl (fun f hf i j => by simp (disch := first | assumption | omega) only [stU_n, stF_n])) (Or.inl (fun f hf i j => by simp (disch := first | assumption | omega) only [stU_n, stF_n])) (Or.inl (fun f hf i j => by simp (disch := first | assumption | omega) only [stU_n, stF_n])) (Or.inr ?_) (Or.inl (fun i j => by simp (disch := first | assumption | omega) only [stU_n, stF_n])) (Or.inl (fun f hf i j => by simp (disch := first | assumption | omega) only [stU_n, stF_n]))
  · unfold W4
    rw [stU_n (by omega), stF_n (by omega)]
    refine ⟨h4.1, fun E hE => ?_⟩
    have h := h4.2 E hE
    rw [stU_n (by omega), stF_n (by omega), stU_n (by omega), stF_n (by omega)]
    refine ⟨h.1, h.2.1, fun v hv => by rw [stU_n (by omega), stF_n (by omega)]; exact h.2.2.1 v hv, fun v hv => by rw [stU_n (by omega), stF_n (by omega)]; exact h.2.2.2.1 v hv, fun v hv => ?_⟩
    by_cases e : E = D ∧ v = u
    · rw [stU_e rfl e.1 e.2]; exact hs
    · rw [stU_n (by omega)]
      by_cases e2 : E = D
      · rw [stF_e rfl e2 hv]; exact hg v hv
      · rw [stF_n (by omega)]; exact h.2.2.2.2 v hv
theorem WF.shp {A : St} (hW : WF A) {s n : Nat} (hn : isShape n) : WF (stU A 17 0 s n) := by
  have h5 := hW.to.2.2.2.2.1
  refine hW.mk2 (Or.inl (fun f hf i j => by simp (disch := first | assumption | omega) only [stU_n, stF_n])) (Or.inl (fun f hf i j => by simp (disch := first | assumption | omega) only [stU_n, stF_n])) (Or.inl (fun f hf i j => by simp (disch := first | assumption | omega) only [stU_n, stF_n])) (Or.inl (fun f hf i j => by simp (disch := first | assumption | omega) only [stU_n, stF_n])) (Or.inr ?_) (Or.inl (fun f hf i j => by simp (disch := first | assumption | omega) only [stU_n, stF_n]))
  · intro t ht
    by_cases e : t = s
    · rw [stU_e rfl rfl e]; exact hn
    · rw [stU_n (by omega)]; exact h5 t ht
theorem WF.grp {A : St} (hW : WF A) {g a b c : Nat} (ha : a ≤ 999) (hb : b ≤ 999) (hc : c < 3) : WF (stU (stU (stU A 18 0 g a) 19 0 g b) 20 0 g c) := by
  have h6 := hW.to.2.2.2.2.2
  refine hW.mk2 (Or.inl (fun f hf i j => by simp (disch := first | assumption | omega) only [stU_n, stF_n])) (Or.inl (fun f hf i j => by simp (disch := first | assumption | omega) only [stU_n, stF_n])) (Or.inl (fun f hf i j => by simp (disch := first | assumption | omega) only [stU_n, stF_n])) (Or.inl (fun f hf i j => by simp (disch := first | assumption | omega) only [stU_n, stF_n])) (Or.inl (fun i j => by simp (disch := first | assumption | omega) only [stU_n, stF_n])) (Or.inr ?_)
  · intro t ht
    by_cases e : t = g
    · subst e
      rw [stU_n (by omega), stU_n (by omega), stU_e rfl rfl rfl, stU_n (by omega), stU_e rfl rfl rfl, stU_e rfl rfl rfl]
      exact ⟨ha, hb, hc⟩
    · simp (disch := first | assumption | omega) only [stU_n]; exact h6 t ht
theorem WF.des2 {A : St} (hW : WF A) {k b : Nat} (hk : k ≤ 1) (hb : b ≤ 3) (h5 : A 11 0 0 ≠ 5) : WF (newD A k b) := by
  have h4 := hW.to.2.2.2.1
  refine hW.mk2 (Or.inl (fun f hf i j => newD_o (by omega))) (Or.inl (fun f hf i j => newD_o (by omega))) (Or.inl (fun f hf i j => newD_o (by omega))) (Or.inr ?_) (Or.inl (fun i j => newD_o (by omega))) (Or.inl (fun f hf i j => newD_o (by omega)))
  unfold W4
  rw [newD_11]
  refine ⟨by have := h4.1; omega, fun D hD => ?_⟩
  by_cases e : D = A 11 0 0
  · subst e
    rw [newD_12, newD_13]
    exact ⟨hk, hb, fun u hu => by rw [newD_14 hu]; omega, fun u hu => by rw [newD_15 hu]; omega, fun u hu => by rw [newD_16 hu]; exact hu⟩
  · have h := h4.2 D (by omega)
    rw [newD_D (by omega) (by omega) (by omega), newD_D (by omega) (by omega) (by omega)]
    exact ⟨h.1, h.2.1, fun u hu => by rw [newD_D (by omega) (by omega) (by omega)]; exact h.2.2.1 u hu, fun u hu => by rw [newD_D (by omega) (by omega) (by omega)]; exact h.2.2.2.1 u hu, fun u hu => by rw [newD_D (by omega) (by omega) (by omega)]; exact h.2.2.2.2 u hu⟩

/-- what a call leaves -/
def OpN (A : St) (o : Nat × Int32 × St) : Prop := o.1 < 10 ∧ WF o.2.2 ∧ o.2.2 11 0 0 = A 11 0 0
def OpNL (A : St) (o : Nat × Int64 × St) : Prop := o.1 < 10 ∧ WF o.2.2 ∧ o.2.2 11 0 0 = A 11 0 0
theorem OpN.l {A : St} {o : Nat × Int32 × St} (hW : WF A) (h1 : o.1 < 10) (h2 : o.2.2 = A) : OpN A o := by
  unfold OpN; rw [h2]; exact ⟨h1, hW, rfl⟩
theorem ix_nat {x : Int32} {N : Nat} (hN : N < 2147483648) (h : ix x N = true) : x.toNatClampNeg < N := by
  rcases ix_or x N hN with ⟨j, hj, rfl, -⟩ | ⟨hi, -⟩
  · rw [nI_cl (by omega)]; exact hj
  · rw [hi] at h; exact absurd h (by decide)

theorem N_spelled {A : St} (hW : WF A) (D w p : Int32) : OpN A (o_spelled A D w p) := by
  unfold o_spelled o_bad
  (repeat' split) <;> exact OpN.l hW (by show _ < 10; simp) rfl

theorem N_spoken {A : St} (hW : WF A) (x w p : Int32) : OpN A (o_spoken A x w p) := by
  unfold o_spoken o_bad
  (repeat' split) <;> exact OpN.l hW (by show _ < 10; simp) rfl

theorem N_doubts {A : St} (hW : WF A) (D : Int32) : OpN A (o_doubts A D) := by
  unfold o_doubts o_bad
  (repeat' split) <;> exact OpN.l hW (by show _ < 10; simp) rfl

theorem N_load {A : St} (hW : WF A) (D : Int32) : OpN A (o_load A D) := by
  unfold o_load o_bad
  (repeat' split) <;> exact OpN.l hW (by show _ < 10; simp) rfl

theorem N_loadIf {A : St} (hW : WF A) (D t : Int32) : OpN A (o_loadIf A D t) := by
  unfold o_loadIf o_bad
  (repeat' split) <;> exact OpN.l hW (by show _ < 10; simp) rfl

theorem N_fit {A : St} (hW : WF A) (D b : Int32) : OpN A (o_fit A D b) := by
  unfold o_fit o_bad
  (repeat' split) <;> exact OpN.l hW (by show _ < 10; simp) rfl

theorem N_lost {A : St} (hW : WF A) (D E : Int32) : OpN A (o_lost A D E) := by
  unfold o_lost o_bad
  (repeat' split) <;> exact OpN.l hW (by show _ < 10; simp) rfl

theorem N_reform {A : St} (hW : WF A) (D E : Int32) : OpN A (o_reform A D E) := by
  unfold o_reform o_bad
  (repeat' split) <;> exact OpN.l hW (by show _ < 10; simp) rfl

theorem N_apart {A : St} (hW : WF A) (s v : Int32) : OpN A (o_apart A s v) := by
  unfold o_apart o_bad
  (repeat' split) <;> exact OpN.l hW (by show _ < 10; simp) rfl

theorem N_clear {A : St} (hW : WF A) (D : Int32) : OpN A (o_clear A D) := by
  unfold o_clear o_bad
  (repeat' split) <;> exact OpN.l hW (by show _ < 10; simp) rfl

theorem N_errors {A : St} (hW : WF A) (D far : Int32) : OpN A (o_errors A D far) := by
  unfold o_errors o_bad
  (repeat' split) <;> exact OpN.l hW (by show _ < 10; simp) rfl

theorem N_primer {A : St} (hW : WF A) (D p : Int32) : OpN A (o_primer A D p) := by
  unfold o_primer o_bad
  (repeat' split) <;> exact OpN.l hW (by show _ < 10; simp) rfl

theorem N_cost {A : St} (hW : WF A) (D : Int32) : OpN A (o_cost A D) := by
  unfold o_cost o_bad
  (repeat' split) <;> exact OpN.l hW (by show _ < 10; simp) rfl

theorem N_leastCost {A : St} (hW : WF A) (D : Int32) : OpN A (o_leastCost A D) := by
  unfold o_leastCost o_bad
  (repeat' split) <;> exact OpN.l hW (by show _ < 10; simp) rfl

theorem N_travel {A : St} (hW : WF A) (D : Int32) : OpN A (o_travel A D) := by
  unfold o_travel o_bad
  (repeat' split) <;> exact OpN.l hW (by show _ < 10; simp) rfl

theorem N_exchange {A : St} (hW : WF A) (D : Int32) : OpN A (o_exchange A D) := by
  unfold o_exchange o_bad
  (repeat' split) <;> exact OpN.l hW (by show _ < 10; simp) rfl

theorem N_score {A : St} (hW : WF A) (g D : Int32) : OpN A (o_score A g D) := by
  unfold o_score o_bad
  (repeat' split) <;> exact OpN.l hW (by show _ < 10; simp) rfl

theorem N_votes {A : St} (hW : WF A) (D : Int32) : OpN A (o_votes A D) := by
  unfold o_votes o_bad
  (repeat' split) <;> exact OpN.l hW (by show _ < 10; simp) rfl

theorem N_elected {A : St} (hW : WF A)  : OpN A (o_elected A ) := by
  unfold o_elected o_bad
  (repeat' split) <;> exact OpN.l hW (by show _ < 10; simp) rfl

theorem N_readings {A : St} (hW : WF A) (D w : Int32) : OpNL A (o_readings A D w) := by
  unfold o_readings OpNL
  split <;> exact ⟨by show _ < 10; simp, hW, rfl⟩
theorem N_syllable {A : St} (hW : WF A) (x : Int32) : OpN A (o_syllable A x) := by
  unfold o_syllable
  split
  · exact OpN.l hW (by show _ < 10; simp) rfl
  · split
    · exact OpN.l hW (by show _ < 10; simp) rfl
    · rename_i h1 h2
      refine ⟨by show _ < 10; simp, hW.syl (ix_nat (by omega) (by simpa using h1)) h2, ?_⟩
      dsimp only
      simp (disch := first | assumption | omega) only [stU_n]
theorem N_word {A : St} (hW : WF A) (x : Int32) : OpN A (o_word A x) := by
  unfold o_word
  split
  · exact OpN.l hW (by show _ < 10; simp) rfl
  · split
    · exact OpN.l hW (by show _ < 10; simp) rfl
    · rename_i h1 h2
      have h1' : ix x 1000 = true ∧ ix x 1 = false := by simpa using h1
      have hx := ix_nat (by omega) h1'.1
      have hx0 : x.toNatClampNeg ≠ 0 := fun e => by
        rcases ix_or x 1000 (by omega) with ⟨j, hj, rfl, -⟩ | ⟨hi, -⟩
        · rw [nI_cl (by omega)] at e
          subst e
          exact absurd h1'.2 (by decide)
        · rw [hi] at h1'; exact absurd h1'.1 (by decide)
      refine ⟨by show _ < 10; simp, hW.wrd (by omega) (fun h => h2 (Or.inl h)) (fun h => h2 (Or.inr h)), ?_⟩
      dsimp only
      simp (disch := first | assumption | omega) only [stU_n, stF_n]
theorem N_change {A : St} (hW : WF A) (x p fr to : Int32) {b : Nat} (hb : b ≤ 1) : OpN A (o_change A x p fr to b) := by
  unfold o_change
  split
  · exact OpN.l hW (by show _ < 10; simp) rfl
  · split
    · exact OpN.l hW (by show _ < 10; simp) rfl
    · split
      · exact OpN.l hW (by show _ < 10; simp) rfl
      · rename_i h1 h2 h3
        have h1' : ix x 3 = true ∧ ix p 4 = true := by simpa using h1
        have h2' : ix fr (vals p.toNatClampNeg) = true ∧ ix to (vals p.toNatClampNeg) = true := by simpa using h2
        have hp := ix_nat (by omega) h1'.2
        have hv : vals p.toNatClampNeg < 2147483648 := by unfold vals; (repeat' split) <;> omega
        refine ⟨by show _ < 10; simp, hW.chg (ix_nat (by omega) h1'.1) hp (ix_nat hv h2'.1) (ix_nat hv h2'.2) hb h3, ?_⟩
        dsimp only
        simp (disch := first | assumption | omega) only [stU_n, stF_n]
theorem N_assign {A : St} (hW : WF A) (D u s : Int32) {b : Nat} : OpN A (o_assign A D u s b) := by
  unfold o_assign
  split
  · exact OpN.l hW (by show _ < 10; simp) rfl
  · split
    · exact OpN.l hW (by show _ < 10; simp) rfl
    · split
      · exact OpN.l hW (by show _ < 10; simp) rfl
      · rename_i h1 h2 h3
        refine ⟨by show _ < 10; simp, hW.asg (ix_nat (by omega) (by simpa using h2)), ?_⟩
        dsimp only
        simp (disch := first | assumption | omega) only [stU_n, stF_n]
theorem N_mark {A : St} (hW : WF A) (D t : Int32) {b : Nat} (hb : b ≤ 1) : OpN A (o_mark A D t b) ∧ ((o_mark A D t b).1 = 0 → (o_mark A D t b).2.1 = nI 0 ∨ (o_mark A D t b).2.1 = nI 1) := by
  unfold o_mark
  split
  · exact ⟨OpN.l hW (by show _ < 10; simp) rfl, fun h => Or.inl rfl⟩
  · rename_i h1
    refine ⟨⟨by show _ < 10; simp, hW.mrk hb, ?_⟩, fun _ => ?_⟩
    · dsimp only
      simp (disch := first | assumption | omega) only [stU_n, stF_n]
    · have h1' : ix D (A 11 0 0) = true ∧ ix t 3 = true := by simpa using h1
      have h5 := hW.des
      have h := (hW.G (ix_nat (by omega) h1'.1)).2.2.2.1 t.toNatClampNeg (ix_nat (by omega) h1'.2)
      show nI _ = nI 0 ∨ nI _ = nI 1
      rcases (show A 15 D.toNatClampNeg t.toNatClampNeg = 0 ∨ A 15 D.toNatClampNeg t.toNatClampNeg = 1 by omega) with e | e
      · rw [e]; exact Or.inl rfl
      · rw [e]; exact Or.inr rfl
theorem N_key {A : St} (hW : WF A) (D s to : Int32) : OpN A (o_key A D s to) := by
  unfold o_key
  split
  · exact OpN.l hW (by show _ < 10; simp) rfl
  · rename_i h1
    have h1' : ix D (A 11 0 0) = true ∧ ix s 50 = true ∧ ix to 50 = true := by simpa using h1
    have h5 := hW.des
    have hk := (hW.G (ix_nat (by omega) h1'.1)).2.2.2.2
    refine ⟨by show _ < 10; simp, hW.kys (ix_nat (by omega) h1'.2.2) (fun j hj => ?_), ?_⟩
    · split
      · exact hk _ (ix_nat (by omega) h1'.2.1)
      · exact hk j hj
    · dsimp only
      simp (disch := first | assumption | omega) only [stU_n, stF_n]
theorem N_shape {A : St} (hW : WF A) (s x : Int32) : OpN A (o_shape A s x) := by
  unfold o_shape
  split
  · exact OpN.l hW (by show _ < 10; simp) rfl
  · split
    · exact OpN.l hW (by show _ < 10; simp) rfl
    · rename_i h1 h2
      obtain ⟨n, rfl, hn⟩ := shB_is (x := x) (by simpa using h2)
      have hn2 : n ≤ 4444 := hn.2.1
      rw [nI_cl (by omega)]
      refine ⟨by show _ < 10; simp, hW.shp hn, ?_⟩
      dsimp only
      simp (disch := first | assumption | omega) only [stU_n, stF_n]
theorem N_group {A : St} (hW : WF A) (g its val sp : Int32) : OpN A (o_group A g its val sp) := by
  unfold o_group
  split
  · exact OpN.l hW (by show _ < 10; simp) rfl
  · split
    · exact OpN.l hW (by show _ < 10; simp) rfl
    · rename_i h1 h2
      have h1' : ix g 4 = true ∧ ix sp 3 = true := by simpa using h1
      have h2' : ix its 1000 = true ∧ ix val 1000 = true := by simpa using h2
      refine ⟨by show _ < 10; simp, hW.grp (Nat.le_of_lt_succ (ix_nat (by omega) h2'.1)) (Nat.le_of_lt_succ (ix_nat (by omega) h2'.2)) (ix_nat (by omega) h1'.2), ?_⟩
      dsimp only
      simp (disch := first | assumption | omega) only [stU_n, stF_n]
theorem N_design {A : St} (hW : WF A) (k b : Int32) : (o_design A k b).1 < 10 ∧ WF (o_design A k b).2.2 := by
  unfold o_design
  split
  · exact ⟨by show _ < 10; simp, hW⟩
  · split
    · exact ⟨by show _ < 10; simp, hW⟩
    · rename_i h1 h2
      have h1' : ix k 2 = true ∧ (¬ b = NO → ix b 3 = true) := by simpa using h1
      have hk := ix_nat (by omega) h1'.1
      have hb : bas b ≤ 3 := by
        by_cases e : b = NO
        · rw [e]; decide
        · have e2 := h1'.2 e
          rcases ix_or b 3 (by decide) with ⟨c, hc, rfl, -⟩ | ⟨hi, -⟩
          · rw [bas, nI_1, nI_cl (by omega)]; omega
          · rw [hi] at e2; exact absurd e2 (by decide)
      exact ⟨by show _ < 10; simp, hW.des2 (by omega) hb h2⟩
