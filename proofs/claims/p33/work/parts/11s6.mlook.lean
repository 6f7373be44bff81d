theorem stU_back {A : St} {f i j v : Nat} : stU (stU A f i j v) f i j (A f i j) = A := by
  funext a b c
  by_cases h : a = f ∧ b = i ∧ c = j
  · rw [stU_e h.1 h.2.1 h.2.2, h.1, h.2.1, h.2.2]
  · rw [stU_n h, stU_n h]
def o_doubts (A : St) (D : Int32) : Res := if ix D (A 11 0 0) = true then (0, nI (dbt A D.toNatClampNeg), A) else o_bad A 1
def o_load (A : St) (D : Int32) : Res := if ix D (A 11 0 0) = true then (0, nI (loadS A D.toNatClampNeg), A) else o_bad A 1
def flipM (A : St) (D t : Nat) : St := stU A 15 D t (1 - A 15 D t)
theorem WF.flip {A : St} (h : WF A) (D t : Nat) : WF (flipM A D t) := by
  have e : ∀ f i j, f ≠ 15 → flipM A D t f i j = A f i j := fun f i j hf => stU_n (by omega)
  obtain ⟨h1, h2, h3, h4, h5, h6, h7, h8, h9⟩ := h
  refine ⟨by rw [e _ _ _ (by omega)]; exact h1, fun k hk => ?_, by rw [e _ _ _ (by omega)]; exact h3, fun w hw => ?_, fun x hx => ?_, by rw [e _ _ _ (by omega)]; exact h6, fun E hE => ?_, fun s hs => ?_, fun g hg => ?_⟩
  · rw [e _ _ _ (by omega)] at hk ⊢; exact h2 k hk
  · rw [e _ _ _ (by omega)] at hw ⊢
    have h := h4 w hw
    rw [e _ _ _ (by omega)]
    exact ⟨h.1, h.2.1, h.2.2.1, h.2.2.2.1, fun k hk => by rw [e _ _ _ (by omega)]; exact h.2.2.2.2 k hk⟩
  · rw [e _ _ _ (by omega)]
    exact ⟨(h5 x hx).1, fun c hc => by rw [e _ _ _ (by omega), e _ _ _ (by omega), e _ _ _ (by omega), e _ _ _ (by omega)]; exact (h5 x hx).2 c hc⟩
  · rw [e _ _ _ (by omega)] at hE
    have h := h7 E hE
    refine ⟨by rw [e _ _ _ (by omega)]; exact h.1, by rw [e _ _ _ (by omega)]; exact h.2.1, fun u hu => by rw [e _ _ _ (by omega)]; exact h.2.2.1 u hu, fun u hu => ?_, fun u hu => by rw [e _ _ _ (by omega)]; exact h.2.2.2.2 u hu⟩
    unfold flipM
    by_cases e3 : E = D ∧ u = t
    · rw [stU_e rfl e3.1 e3.2]; omega
    · rw [stU_n (by omega)]; exact h.2.2.2.1 u hu
  · rw [e _ _ _ (by omega)]; exact h8 s hs
  · rw [e _ _ _ (by omega), e _ _ _ (by omega), e _ _ _ (by omega)]; exact h9 g hg
def o_loadIf (A : St) (D t : Int32) : Res := if ix D (A 11 0 0) = true ∧ ix t 3 = true then (0, nI (loadS (flipM A D.toNatClampNeg t.toNatClampNeg) D.toNatClampNeg), A) else o_bad A 1
def o_fit (A : St) (D b : Int32) : Res := if ix D (A 11 0 0) = true ∧ ix b 3 = true then (0, nI (fitS A D.toNatClampNeg (b.toNatClampNeg + 1)), A) else o_bad A 1
def o_lost (A : St) (D E : Int32) : Res := if ix D (A 11 0 0) = true ∧ ix E (A 11 0 0) = true then (0, nI (lostS A D.toNatClampNeg E.toNatClampNeg), A) else o_bad A 1
