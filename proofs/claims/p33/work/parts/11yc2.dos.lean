/-! what the law makes of a call of the class -/
def dvI (r : Nat ⊕ Int32) : Int32 := match r with
  | .inr v => v
  | .inl e => if e = 1 then -3000000 else if e = 2 then -2000000 else -1000000
theorem does_of {c : Nat → Nat} {d : Dt} {o : Res} {f : Option ((Nat ⊕ Int32) × Dt)} (h : ok f (PX c d o)) (he : ∀ e, PXr c o = Sum.inl e → e = 1 ∨ e = 2 ∨ e = 3) : ok (f.bind (fun z_2 => aw_ct z_2 (fun e0 => if e0 = 1 then some ((-3000000 : Int32), z_2.2) else if e0 = 2 then some ((-2000000 : Int32), z_2.2) else if e0 = 3 then some ((-1000000 : Int32), z_2.2) else none) (fun v_4 => some (v_4, z_2.2)))) (fun z => z.1 = dvI (PXr c o) ∧ RepC o.2.2 z.2 ∧ FrC d z.2) := by
  refine ok_bind h (fun z hz => ?_)
  obtain ⟨h1, h2, h3⟩ := hz
  unfold aw_ct
  rw [h1]
  cases e : PXr c o with
  | inl t =>
    rcases he t e with rfl | rfl | rfl
    · exact ok_some ⟨rfl, h2, h3⟩
    · exact ok_some ⟨rfl, h2, h3⟩
    · exact ok_some ⟨rfl, h2, h3⟩
  | inr v => exact ok_some ⟨rfl, h2, h3⟩
/-- a call that doesn't throw -/
theorem nt_of {α : Type} {A : St} {c : Nat → Nat} {d : Dt} {v : Int32} {f : Option ((Nat ⊕ Int32) × Dt)} {K : (Nat ⊕ Int32) × Dt → Int32 → Option α} {Q : α → Prop} (h : ok f (PX c d (0, v, A))) (hk : ∀ z : (Nat ⊕ Int32) × Dt, RepC A z.2 → FrC d z.2 → ok (K z v) Q) : ok (f.bind (fun z => aw_nt z (K z))) Q := by
  refine ok_bind h (fun z hz => ?_)
  obtain ⟨h1, h2, h3⟩ := hz
  unfold aw_nt
  rw [h1]
  exact hk z h2 h3
theorem ntL_of {α : Type} {A : St} {d : Dt} {v : Int64} {f : Option ((Nat ⊕ Int64) × Dt)} {K : (Nat ⊕ Int64) × Dt → Int64 → Option α} {Q : α → Prop} (h : ok f (PXL d (0, v, A))) (hk : ∀ z : (Nat ⊕ Int64) × Dt, RepC A z.2 → FrC d z.2 → ok (K z v) Q) : ok (f.bind (fun z => aw_nt z (K z))) Q := by
  refine ok_bind h (fun z hz => ?_)
  obtain ⟨h1, h2, h3⟩ := hz
  unfold aw_nt
  rw [h1]
  exact hk z h2 h3
theorem px_e {c : Nat → Nat} {o : Res} {e m : Nat} (h : PXr c o = Sum.inl e) (hm : o.1 ≤ m) (hc : ∀ t, 1 ≤ t → t ≤ m → c t = 1 ∨ c t = 2 ∨ c t = 3) : e = 1 ∨ e = 2 ∨ e = 3 := by
  obtain ⟨t, v, B⟩ := o
  cases t with
  | zero => cases h
  | succ t =>
    have h2 : Sum.inl (α := Nat) (β := Int32) (c (t + 1)) = Sum.inl e := h
    have h3 := Sum.inl.inj h2
    have h4 := hc (t + 1) (by omega) hm
    rw [h3] at h4; exact h4
theorem cI3 : ∀ t, 1 ≤ t → t ≤ 3 → cc_I t = 1 ∨ cc_I t = 2 ∨ cc_I t = 3 := fun t _ _ => by unfold cc_I; omega
theorem cS2 : ∀ t, 1 ≤ t → t ≤ 2 → cc_S t = 1 ∨ cc_S t = 2 ∨ cc_S t = 3 := fun t _ _ => by unfold cc_S; omega
theorem cL2 : ∀ t, 1 ≤ t → t ≤ 2 → cc_L t = 1 ∨ cc_L t = 2 ∨ cc_L t = 3 := fun t _ _ => by unfold cc_L; split <;> omega
theorem cE1 : ∀ t, 1 ≤ t → t ≤ 1 → cc_E t = 1 ∨ cc_E t = 2 ∨ cc_E t = 3 := fun t _ _ => by unfold cc_E; omega
theorem D_syllable {A : St} {σ : Sg} {d : Dt} (hS : Lay σ) (hn : ly_n σ = A 11 0 0) (hW : WF A) (hC : RepC A d) (x2 x3 x4 x5 x6 : Int32) : ok (f_L_does_0 σ 0 x2 x3 x4 x5 x6 d) (fun z => z.1 = dvI (PXr cc_S (o_syllable A x2)) ∧ RepC (o_syllable A x2).2.2 z.2 ∧ FrC d z.2) := by
  unfold f_L_does_0
  refine ok_chk (ly_O hS (by decide) (by decide)) (does_of (C_syllable hS hn hW hC x2) (fun e he => px_e (m := 2) he ?_ cS2))
  unfold o_syllable
  (repeat' split) <;> simp [o_bad]
theorem D_word {A : St} {σ : Sg} {d : Dt} (hS : Lay σ) (hn : ly_n σ = A 11 0 0) (hW : WF A) (hC : RepC A d) (x2 x3 x4 x5 x6 : Int32) : ok (f_L_does_1 σ 0 x2 x3 x4 x5 x6 d) (fun z => z.1 = dvI (PXr cc_S (o_word A x2)) ∧ RepC (o_word A x2).2.2 z.2 ∧ FrC d z.2) := by
  unfold f_L_does_1
  refine ok_chk (ly_O hS (by decide) (by decide)) (does_of (C_word hS hn hW hC x2) (fun e he => px_e (m := 2) he ?_ cS2))
  unfold o_word
  (repeat' split) <;> simp [o_bad]
theorem D_shape {A : St} {σ : Sg} {d : Dt} (hS : Lay σ) (hn : ly_n σ = A 11 0 0) (hW : WF A) (hC : RepC A d) (x2 x3 x4 x5 x6 : Int32) : ok (f_L_does_5 σ 0 x2 x3 x4 x5 x6 d) (fun z => z.1 = dvI (PXr cc_I (o_shape A x2 x3)) ∧ RepC (o_shape A x2 x3).2.2 z.2 ∧ FrC d z.2) := by
  unfold f_L_does_5
  refine ok_chk (ly_O hS (by decide) (by decide)) (does_of (C_shape hS hn hW hC x2 x3) (fun e he => px_e (m := 3) he ?_ cI3))
  unfold o_shape
  (repeat' split) <;> simp [o_bad]
theorem D_key {A : St} {σ : Sg} {d : Dt} (hS : Lay σ) (hn : ly_n σ = A 11 0 0) (hW : WF A) (hC : RepC A d) (x2 x3 x4 x5 x6 : Int32) : ok (f_L_does_6 σ 0 x2 x3 x4 x5 x6 d) (fun z => z.1 = dvI (PXr cc_I (o_key A x2 x3 x4)) ∧ RepC (o_key A x2 x3 x4).2.2 z.2 ∧ FrC d z.2) := by
  unfold f_L_does_6
  refine ok_chk (ly_O hS (by decide) (by decide)) (does_of (C_key hS hn hW hC x2 x3 x4) (fun e he => px_e (m := 3) he ?_ cI3))
  unfold o_key
  (repeat' split) <;> simp [o_bad]
theorem D_group {A : St} {σ : Sg} {d : Dt} (hS : Lay σ) (hn : ly_n σ = A 11 0 0) (hW : WF A) (hC : RepC A d) (x2 x3 x4 x5 x6 : Int32) : ok (f_L_does_7 σ 0 x2 x3 x4 x5 x6 d) (fun z => z.1 = dvI (PXr cc_I (o_group A x2 x3 x4 x5)) ∧ RepC (o_group A x2 x3 x4 x5).2.2 z.2 ∧ FrC d z.2) := by
  unfold f_L_does_7
  refine ok_chk (ly_O hS (by decide) (by decide)) (does_of (C_group hS hn hW hC x2 x3 x4 x5) (fun e he => px_e (m := 3) he ?_ cI3))
  unfold o_group
  (repeat' split) <;> simp [o_bad]
theorem D_spoken {A : St} {σ : Sg} {d : Dt} (hS : Lay σ) (hn : ly_n σ = A 11 0 0) (hW : WF A) (hC : RepC A d) (x2 x3 x4 x5 x6 : Int32) : ok (f_L_does_8 σ 0 x2 x3 x4 x5 x6 d) (fun z => z.1 = dvI (PXr cc_I (o_spoken A x2 x3 x4)) ∧ RepC (o_spoken A x2 x3 x4).2.2 z.2 ∧ FrC d z.2) := by
  unfold f_L_does_8
  refine ok_chk (ly_O hS (by decide) (by decide)) (does_of (C_spoken hS hn hW hC x2 x3 x4) (fun e he => px_e (m := 3) he ?_ cI3))
  unfold o_spoken
  (repeat' split) <;> simp [o_bad]
theorem D_spelled {A : St} {σ : Sg} {d : Dt} (hS : Lay σ) (hn : ly_n σ = A 11 0 0) (hW : WF A) (hC : RepC A d) (x2 x3 x4 x5 x6 : Int32) : ok (f_L_does_9 σ 0 x2 x3 x4 x5 x6 d) (fun z => z.1 = dvI (PXr cc_I (o_spelled A x2 x3 x4)) ∧ RepC (o_spelled A x2 x3 x4).2.2 z.2 ∧ FrC d z.2) := by
  unfold f_L_does_9
  refine ok_chk (ly_O hS (by decide) (by decide)) (does_of (C_spelled hS hn hW hC x2 x3 x4) (fun e he => px_e (m := 3) he ?_ cI3))
  unfold o_spelled
  (repeat' split) <;> simp [o_bad]
theorem D_leastCost {A : St} {σ : Sg} {d : Dt} (hS : Lay σ) (hn : ly_n σ = A 11 0 0) (hW : WF A) (hC : RepC A d) (x2 x3 x4 x5 x6 : Int32) : ok (f_L_does_10 σ 0 x2 x3 x4 x5 x6 d) (fun z => z.1 = dvI (PXr cc_L (o_leastCost A x2)) ∧ RepC (o_leastCost A x2).2.2 z.2 ∧ FrC d z.2) := by
  unfold f_L_does_10
  refine ok_chk (ly_O hS (by decide) (by decide)) (does_of (C_leastCost hS hn hW hC x2) (fun e he => px_e (m := 2) he ?_ cL2))
  unfold o_leastCost
  (repeat' split) <;> simp [o_bad]
theorem D_errors {A : St} {σ : Sg} {d : Dt} (hS : Lay σ) (hn : ly_n σ = A 11 0 0) (hW : WF A) (hC : RepC A d) (x2 x3 x4 x5 x6 : Int32) : ok (f_L_does_11 σ 0 x2 x3 x4 x5 x6 d) (fun z => z.1 = dvI (PXr cc_I (o_errors A x2 x3)) ∧ RepC (o_errors A x2 x3).2.2 z.2 ∧ FrC d z.2) := by
  unfold f_L_does_11
  refine ok_chk (ly_O hS (by decide) (by decide)) (does_of (C_errors hS hn hW hC x2 x3) (fun e he => px_e (m := 3) he ?_ cI3))
  unfold o_errors
  (repeat' split) <;> simp [o_bad]
theorem D_elected {A : St} {σ : Sg} {d : Dt} (hS : Lay σ) (hn : ly_n σ = A 11 0 0) (hW : WF A) (hC : RepC A d) (x2 x3 x4 x5 x6 : Int32) : ok (f_L_does_12 σ 0 x2 x3 x4 x5 x6 d) (fun z => z.1 = dvI (PXr cc_E (o_elected A)) ∧ RepC (o_elected A).2.2 z.2 ∧ FrC d z.2) := by
  unfold f_L_does_12
  refine ok_chk (ly_O hS (by decide) (by decide)) (does_of (C_elected hS hn hW hC) (fun e he => px_e (m := 1) he ?_ cE1))
  unfold o_elected
  (repeat' split) <;> simp [o_bad]
theorem D_primer {A : St} {σ : Sg} {d : Dt} (hS : Lay σ) (hn : ly_n σ = A 11 0 0) (hW : WF A) (hC : RepC A d) (x2 x3 x4 x5 x6 : Int32) : ok (f_L_does_13 σ 0 x2 x3 x4 x5 x6 d) (fun z => z.1 = dvI (PXr cc_I (o_primer A x2 x3)) ∧ RepC (o_primer A x2 x3).2.2 z.2 ∧ FrC d z.2) := by
  unfold f_L_does_13
  refine ok_chk (ly_O hS (by decide) (by decide)) (does_of (C_primer hS hn hW hC x2 x3) (fun e he => px_e (m := 3) he ?_ cI3))
  unfold o_primer
  (repeat' split) <;> simp [o_bad]
theorem D_change {A : St} {σ : Sg} {d : Dt} (hS : Lay σ) (hn : ly_n σ = A 11 0 0) (hW : WF A) (hC : RepC A d) (x2 x3 x4 x5 x6 : Int32) {b : Nat} (hb : b = if x6 = 1 then 1 else 0) : ok (f_L_does_2 σ 0 x2 x3 x4 x5 x6 d) (fun z => z.1 = dvI (PXr cc_I (o_change A x2 x3 x4 x5 b)) ∧ RepC (o_change A x2 x3 x4 x5 b).2.2 z.2 ∧ FrC d z.2) := by
  have hE : ∀ e, PXr cc_I (o_change A x2 x3 x4 x5 b) = Sum.inl e → e = 1 ∨ e = 2 ∨ e = 3 := fun e he => px_e (m := 3) he (by
    unfold o_change
    (repeat' split) <;> simp) cI3
  unfold f_L_does_2
  by_cases h : x6 = 1
  · rw [if_pos h] at hb ⊢
    subst hb
    exact ok_chk (ly_O hS (by decide) (by decide)) (does_of (C_change hS hn hW hC x2 x3 x4 x5 (b := 1) (by omega)) hE)
  · rw [if_neg h] at hb ⊢
    subst hb
    exact ok_chk (ly_O hS (by decide) (by decide)) (does_of (C_change hS hn hW hC x2 x3 x4 x5 (b := 0) (by omega)) hE)
theorem D_assign {A : St} {σ : Sg} {d : Dt} (hS : Lay σ) (hn : ly_n σ = A 11 0 0) (hW : WF A) (hC : RepC A d) (x2 x3 x4 x5 x6 : Int32) {b : Nat} (hb : b = if x5 = 1 then 1 else 0) : ok (f_L_does_4 σ 0 x2 x3 x4 x5 x6 d) (fun z => z.1 = dvI (PXr cc_I (o_assign A x2 x3 x4 b)) ∧ RepC (o_assign A x2 x3 x4 b).2.2 z.2 ∧ FrC d z.2) := by
  have hE : ∀ e, PXr cc_I (o_assign A x2 x3 x4 b) = Sum.inl e → e = 1 ∨ e = 2 ∨ e = 3 := fun e he => px_e (m := 3) he (by
    unfold o_assign
    (repeat' split) <;> simp) cI3
  unfold f_L_does_4
  by_cases h : x5 = 1
  · rw [if_pos h] at hb ⊢
    subst hb
    exact ok_chk (ly_O hS (by decide) (by decide)) (does_of (C_assign hS hn hW hC x2 x3 x4 (b := 1) (by omega)) hE)
  · rw [if_neg h] at hb ⊢
    subst hb
    exact ok_chk (ly_O hS (by decide) (by decide)) (does_of (C_assign hS hn hW hC x2 x3 x4 (b := 0) (by omega)) hE)
theorem D_design {A : St} {σ : Sg} {d : Dt} (hS : Lay σ) (hn : ly_n σ = A 11 0 0) (hW : WF A) (hC : RepC A d) (x2 x3 x4 x5 x6 : Int32) : ok (f_L_does_3 0 x2 x3 x4 x5 x6 σ d) (fun z => z.1 = dvI (PXr cc_S (o_design A x2 x3)) ∧ RepC (o_design A x2 x3).2.2 z.2.2 ∧ FrC d z.2.2 ∧ Lay z.2.1 ∧ ly_n z.2.1 = (o_design A x2 x3).2.2 11 0 0) := by
  have hE : ∀ e, PXr cc_S (o_design A x2 x3) = Sum.inl e → e = 1 ∨ e = 2 ∨ e = 3 := fun e he => px_e (m := 2) he (by
    unfold o_design
    (repeat' split) <;> simp) cS2
  unfold f_L_does_3
  have hO : aw_O σ 10 13 0 := ly_O hS (by decide) (by decide)
  refine ok_chk hO (ok_chk hO.1 (ok_bind (C_design hS hn hW hC x2 x3) (fun z hz => ?_)))
  obtain ⟨⟨h1, h2, h3⟩, h4, h5⟩ := hz
  unfold aw_cd
  have h1' : z.1 = PXr cc_S (o_design A x2 x3) := h1
  rw [h1']
  cases e : PXr cc_S (o_design A x2 x3) with
  | inl t =>
    rcases hE t e with rfl | rfl | rfl
    · exact ok_some ⟨rfl, h2, h3, h4, h5⟩
    · exact ok_some ⟨rfl, h2, h3, h4, h5⟩
    · exact ok_some ⟨rfl, h2, h3, h4, h5⟩
  | inr v => exact ok_some ⟨rfl, h2, h3, h4, h5⟩
