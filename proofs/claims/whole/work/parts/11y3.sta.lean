/-! the start -/
def st_s : Sg := (0, fun _ => (0, 0), fun _ _ => none)
def st_d : Dt := (fun _ _ => 0, fun _ _ => 0)
def stG {α : Type} (K : Nat → Nat → Nat → Sg → Dt → Option α) : Option α :=
  aw_new st_s st_d 10 13 (fun q_1 σ_2 d_3 => aw_chk (q_1 < σ_2.1) ((f_X10_init q_1 σ_2 d_3).bind (fun z_8 => aw_chk (q_1 < z_8.1.1) (aw_new z_8.1 z_8.2 11 32 (fun q_15 σ_16 d_17 => aw_chk (q_15 < σ_16.1) (aw_chk (q_1 < σ_16.1) ((f_X11_init q_15 σ_16 d_17).bind (fun z_24 => aw_chk (q_15 < z_24.1.1) (aw_chk (q_1 < z_24.1.1) (aw_new z_24.1 z_24.2 21 1 (fun q_33 σ_34 d_35 => K q_1 q_15 q_33 σ_34 d_35)))))))))))
theorem law_stG (xs : Nat → Int32) (L : Nat) : f_law xs L st_s st_d = stG (fun a b c σ d => f_law_L xs L a b c aw_FU (0 : Int32) σ d) := rfl
def stV : Option (Nat × Nat × Nat × Sg × Dt) := stG (fun a b c σ d => some (a, b, c, σ, d))
set_option maxRecDepth 100000 in
theorem stV_some : stV.isSome = true := by decide +kernel
def st_S : Sg := (stV.get stV_some).2.2.2.1
def st_D : Dt := (stV.get stV_some).2.2.2.2
def st_A : St := fun f _ j => if f = 13 then 1 else if f = 17 then (st_D.1 280 j).toNatClampNeg else 0
set_option maxRecDepth 100000 in
theorem st_n : (stV.get stV_some).1 = 0 ∧ (stV.get stV_some).2.1 = 265 ∧ (stV.get stV_some).2.2.1 = 294 ∧ st_S.1 = 295 := by decide +kernel
set_option maxRecDepth 100000 in
theorem st_kk : ∀ k, k < 295 → st_S.2.1 k = ly_k k := by decide +kernel
set_option maxRecDepth 100000 in
theorem st_rr : ∀ t ∈ ly_refs, st_S.2.2 t.1 t.2.1 = some t.2.2 := by decide +kernel
set_option maxRecDepth 100000 in
theorem st_WF : WF st_A := by
  refine ⟨by decide +kernel, by decide +kernel, by decide +kernel, fun w hw => absurd hw (by show ¬ w < 0; omega), fun x hx => ⟨by show 0 ≤ 6; omega, fun c hc => absurd hc (by show ¬ c < 0; omega)⟩, by decide +kernel, fun D hD => absurd hD (by show ¬ D < 0; omega), ?_, by decide +kernel⟩
  unfold isShape
  decide +kernel
set_option maxRecDepth 100000 in
theorem st_M : RepM st_A st_D := by
  unfold RepM
  decide +kernel
set_option maxRecDepth 100000 in
theorem st_C : RepC st_A st_D := by
  refine ⟨by decide +kernel, by decide +kernel, by decide +kernel, by decide +kernel, by decide +kernel, ?_, by decide +kernel, by decide +kernel, fun D hD => absurd hD (by show ¬ D < 0; omega)⟩
  intro b hb
  refine ⟨?_, fun w hw => absurd hw (by show ¬ w < 0; omega), fun w hw => absurd hw (by show ¬ w < 0; omega), ?_, ?_⟩
  · revert b; decide +kernel
  · revert b; decide +kernel
  · revert b; decide +kernel
theorem st_Lay : Lay st_S ∧ ly_n st_S = 0 := by
  have e : ly_n st_S = 0 := by unfold ly_n; rw [st_n.2.2.2]
  exact ⟨⟨by rw [e, st_n.2.2.2], by rw [e]; omega, st_kk, st_rr, fun D hD => absurd hD (by rw [e]; omega)⟩, e⟩
theorem st_Inv : Inv st_A st_S st_D := ⟨st_Lay.1, st_Lay.2, st_WF, st_C, st_M⟩
theorem chk_s {α : Type} {b : Prop} {inst : Decidable b} {x : Option α} {r : α} (h : @aw_chk α b inst x = some r) : b ∧ x = some r := by
  unfold aw_chk at h
  by_cases hb : b
  · rw [if_pos hb] at h; exact ⟨hb, h⟩
  · rw [if_neg hb] at h; cases h
theorem bind_s {α β : Type} {e : Option β} {k : β → Option α} {r : α} (h : e.bind k = some r) : ∃ z, e = some z ∧ k z = some r := by
  cases e with
  | none => cases h
  | some z => exact ⟨z, rfl, h⟩
theorem stG_at {α : Type} (K : Nat → Nat → Nat → Sg → Dt → Option α) {v : Nat × Nat × Nat × Sg × Dt} (h : stG (fun a b c σ d => some (a, b, c, σ, d)) = some v) : stG K = K v.1 v.2.1 v.2.2.1 v.2.2.2.1 v.2.2.2.2 := by
  unfold stG aw_new at h ⊢
  dsimp only at h ⊢
  obtain ⟨c1, h⟩ := chk_s h
  rw [ck_t c1]
  obtain ⟨z8, e8, h⟩ := bind_s h
  rw [e8, Option.bind_some]
  obtain ⟨c2, h⟩ := chk_s h
  rw [ck_t c2]
  obtain ⟨c3, h⟩ := chk_s h
  rw [ck_t c3]
  obtain ⟨c4, h⟩ := chk_s h
  rw [ck_t c4]
  obtain ⟨z24, e24, h⟩ := bind_s h
  rw [e24, Option.bind_some]
  obtain ⟨c5, h⟩ := chk_s h
  rw [ck_t c5]
  obtain ⟨c6, h⟩ := chk_s h
  rw [ck_t c6]
  cases h
  rfl
theorem stG_is {α : Type} (K : Nat → Nat → Nat → Sg → Dt → Option α) : stG K = K 0 265 294 st_S st_D := by
  have h : stV = some (stV.get stV_some) := (Option.some_get stV_some).symm
  have h2 := stG_at K h
  rw [h2, st_n.1, st_n.2.1, st_n.2.2.1]
  rfl
theorem law_all (xs : Nat → Int32) (L : Nat) (hL : L ≤ 3072) : f_law xs L st_s st_d = some 1 := by
  rw [law_stG, stG_is]
  obtain ⟨z, h1, h2⟩ := law_L (xs := xs) hL aw_FU 0 st_A st_S st_D (by show _ < 0 + 6 * 5000; omega) (by omega) st_Inv
  rw [il_0, h1, h2]
