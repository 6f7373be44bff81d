/-! the start of the law -/
def stG {α : Type} (K : Nat → Nat → Nat → Nat → Nat → Nat → Nat → Nat → Nat → Nat → Nat → Nat → Nat → Sg → Dt → Option α) : Option α :=
  aw_new aw_s0 aw_d0 10 13 (fun q_1 σ_2 d_3 => aw_chk (q_1 < σ_2.1) ((f_X10_init q_1 σ_2 d_3).bind (fun z_8 => aw_chk (q_1 < z_8.1.1) (aw_new z_8.1 z_8.2 20 28 (fun q_15 σ_16 d_17 => aw_chk (q_15 < σ_16.1) (aw_chk (q_1 < σ_16.1) (aw_new σ_16 d_17 20 64 (fun q_24 σ_25 d_26 => aw_chk (q_24 < σ_25.1) (aw_chk (q_15 < σ_25.1) (aw_chk (q_1 < σ_25.1) (aw_new σ_25 d_26 20 21 (fun q_35 σ_36 d_37 => aw_chk (q_35 < σ_36.1) (aw_chk (q_24 < σ_36.1) (aw_chk (q_15 < σ_36.1) (aw_chk (q_1 < σ_36.1) (aw_new σ_36 d_37 20 50 (fun q_48 σ_49 d_50 => aw_chk (q_48 < σ_49.1) (aw_chk (q_35 < σ_49.1) (aw_chk (q_24 < σ_49.1) (aw_chk (q_15 < σ_49.1) (aw_chk (q_1 < σ_49.1) (aw_new σ_49 d_50 20 50 (fun q_63 σ_64 d_65 => aw_chk (q_63 < σ_64.1) (aw_chk (q_48 < σ_64.1) (aw_chk (q_35 < σ_64.1) (aw_chk (q_24 < σ_64.1) (aw_chk (q_15 < σ_64.1) (aw_chk (q_1 < σ_64.1) (aw_new σ_64 d_65 20 50 (fun q_80 σ_81 d_82 => aw_chk (q_80 < σ_81.1) (aw_chk (q_63 < σ_81.1) (aw_chk (q_48 < σ_81.1) (aw_chk (q_35 < σ_81.1) (aw_chk (q_24 < σ_81.1) (aw_chk (q_15 < σ_81.1) (aw_chk (q_1 < σ_81.1) (aw_new σ_81 d_82 20 50 (fun q_99 σ_100 d_101 => aw_chk (q_99 < σ_100.1) (aw_chk (q_80 < σ_100.1) (aw_chk (q_63 < σ_100.1) (aw_chk (q_48 < σ_100.1) (aw_chk (q_35 < σ_100.1) (aw_chk (q_24 < σ_100.1) (aw_chk (q_15 < σ_100.1) (aw_chk (q_1 < σ_100.1) (aw_new σ_100 d_101 20 50 (fun q_120 σ_121 d_122 => aw_chk (q_120 < σ_121.1) (aw_chk (q_99 < σ_121.1) (aw_chk (q_80 < σ_121.1) (aw_chk (q_63 < σ_121.1) (aw_chk (q_48 < σ_121.1) (aw_chk (q_35 < σ_121.1) (aw_chk (q_24 < σ_121.1) (aw_chk (q_15 < σ_121.1) (aw_chk (q_1 < σ_121.1) (aw_new σ_121 d_122 20 12 (fun q_143 σ_144 d_145 => aw_chk (q_143 < σ_144.1) (aw_chk (q_120 < σ_144.1) (aw_chk (q_99 < σ_144.1) (aw_chk (q_80 < σ_144.1) (aw_chk (q_63 < σ_144.1) (aw_chk (q_48 < σ_144.1) (aw_chk (q_35 < σ_144.1) (aw_chk (q_24 < σ_144.1) (aw_chk (q_15 < σ_144.1) (aw_chk (q_1 < σ_144.1) (aw_new σ_144 d_145 20 2 (fun q_168 σ_169 d_170 => aw_chk (q_168 < σ_169.1) (aw_chk (q_143 < σ_169.1) (aw_chk (q_120 < σ_169.1) (aw_chk (q_99 < σ_169.1) (aw_chk (q_80 < σ_169.1) (aw_chk (q_63 < σ_169.1) (aw_chk (q_48 < σ_169.1) (aw_chk (q_35 < σ_169.1) (aw_chk (q_24 < σ_169.1) (aw_chk (q_15 < σ_169.1) (aw_chk (q_1 < σ_169.1) (aw_new σ_169 d_170 21 12 (fun q_195 σ_196 d_197 => aw_chk (q_195 < σ_196.1) (aw_chk (q_168 < σ_196.1) (aw_chk (q_143 < σ_196.1) (aw_chk (q_120 < σ_196.1) (aw_chk (q_99 < σ_196.1) (aw_chk (q_80 < σ_196.1) (aw_chk (q_63 < σ_196.1) (aw_chk (q_48 < σ_196.1) (aw_chk (q_35 < σ_196.1) (aw_chk (q_24 < σ_196.1) (aw_chk (q_15 < σ_196.1) (aw_chk (q_1 < σ_196.1) (aw_new σ_196 d_197 21 12 (fun q_224 σ_225 d_226 => K q_1 q_15 q_24 q_35 q_48 q_63 q_80 q_99 q_120 q_143 q_168 q_195 q_224 σ_225 d_226)))))))))))))))))))))))))))))))))))))))))))))))))))))))))))))))))))))))))))))))))))))))))))))
def stK (xs : Nat → Int32) (L : Nat) (a1 a2 a3 a4 a5 a6 a7 a8 a9 a10 a11 a12 a13 : Nat) (σ : Sg) (d : Dt) : Option Int32 :=
  f_L_law_L80 xs L aw_FU (fun σ_246 d_245 => (f_L_does_12 σ_246 a1 ((0 : Int32)) ((0 : Int32)) ((0 : Int32)) ((0 : Int32)) ((0 : Int32)) d_245).bind (fun z_249 => if z_249.1 = ((-1000000 : Int32)) then (f_L_does_1 σ_246 a1 ((1000 : Int32)) ((0 : Int32)) ((0 : Int32)) ((0 : Int32)) ((0 : Int32)) z_249.2).bind (fun z_339 => if z_339.1 = ((-2000000 : Int32)) then (f_L_does_1 σ_246 a1 ((1 : Int32)) ((0 : Int32)) ((0 : Int32)) ((0 : Int32)) ((0 : Int32)) z_339.2).bind (fun z_341 => if z_341.1 = ((-1000000 : Int32)) then (f_L_does_10 σ_246 a1 ((0 : Int32)) ((0 : Int32)) ((0 : Int32)) ((0 : Int32)) ((0 : Int32)) z_341.2).bind (fun z_343 => if z_343.1 = ((-3000000 : Int32)) then (f_L_does_11 σ_246 a1 ((0 : Int32)) ((5 : Int32)) ((0 : Int32)) ((0 : Int32)) ((0 : Int32)) z_343.2).bind (fun z_345 => if z_345.1 = ((-3000000 : Int32)) then (f_L_does_13 σ_246 a1 ((0 : Int32)) ((-1 : Int32)) ((0 : Int32)) ((0 : Int32)) ((0 : Int32)) z_345.2).bind (fun z_347 => if z_347.1 = ((-3000000 : Int32)) then f_L_law_J239 xs L ((1 : Int32)) a1 a2 a3 a4 a5 a6 a7 a8 a9 a10 a11 a12 a13 σ_246 z_347.2 else f_L_law_J238 xs L a1 a2 a3 a4 a5 a6 a7 a8 a9 a10 a11 a12 a13 σ_246 z_347.2) else f_L_law_J238 xs L a1 a2 a3 a4 a5 a6 a7 a8 a9 a10 a11 a12 a13 σ_246 z_345.2) else f_L_law_J238 xs L a1 a2 a3 a4 a5 a6 a7 a8 a9 a10 a11 a12 a13 σ_246 z_343.2) else f_L_law_J238 xs L a1 a2 a3 a4 a5 a6 a7 a8 a9 a10 a11 a12 a13 σ_246 z_341.2) else f_L_law_J238 xs L a1 a2 a3 a4 a5 a6 a7 a8 a9 a10 a11 a12 a13 σ_246 z_339.2) else f_L_law_J238 xs L a1 a2 a3 a4 a5 a6 a7 a8 a9 a10 a11 a12 a13 σ_246 z_249.2)) a1 a2 a3 a4 a5 a6 a7 a8 a9 a10 a11 a12 a13 ((0 : Int32)) σ d
theorem law_stG (xs : Nat → Int32) (L : Nat) : f_law xs L aw_s0 aw_d0 = stG (fun a1 a2 a3 a4 a5 a6 a7 a8 a9 a10 a11 a12 a13 σ d => stK xs L a1 a2 a3 a4 a5 a6 a7 a8 a9 a10 a11 a12 a13 σ d) := rfl
def stV : Option (List Nat × Sg × Dt) := stG (fun a1 a2 a3 a4 a5 a6 a7 a8 a9 a10 a11 a12 a13 σ d => some ([a1, a2, a3, a4, a5, a6, a7, a8, a9, a10, a11, a12, a13], σ, d))
set_option maxRecDepth 100000 in
theorem stV_some : stV.isSome = true := by decide +kernel
def st_S : Sg := (stV.get stV_some).2.1
def st_D : Dt := (stV.get stV_some).2.2
def shpO (j : Nat) : Nat := 100 * (j / 16) + 10 * (j / 4 % 4) + j % 4 + 111
def st_A : St := fun f _ j => if f = 13 then 1 else if f = 17 then shpO j else 0
set_option maxRecDepth 100000 in
theorem st_n : (stV.get stV_some).1 = [0, 265, 266, 267, 268, 269, 270, 271, 272, 273, 274, 275, 276] ∧ st_S.1 = 277 := by decide +kernel
set_option maxRecDepth 100000 in
theorem st_kk : ∀ k, k < 277 → st_S.2.1 k = ly_k k := by decide +kernel
set_option maxRecDepth 100000 in
theorem st_rr : ∀ t ∈ ly_refs, st_S.2.2 t.1 t.2.1 = some t.2.2 := by decide +kernel
set_option maxRecDepth 100000 in
theorem st_WF : WF st_A := by
  refine ⟨by decide +kernel, by decide +kernel, by decide +kernel, fun w hw => absurd hw (by show ¬ w < 0; omega), fun x hx => ⟨by show 0 ≤ 6; omega, fun c hc => absurd hc (by show ¬ c < 0; omega)⟩, by decide +kernel, fun D hD => absurd hD (by show ¬ D < 0; omega), ?_, by decide +kernel⟩
  unfold isShape
  decide +kernel
set_option maxRecDepth 100000 in
theorem st_C : RepC st_A st_D := by
  refine ⟨by decide +kernel, by decide +kernel, by decide +kernel, by decide +kernel, by decide +kernel, ?_, by decide +kernel, by decide +kernel, fun D hD => absurd hD (by show ¬ D < 0; omega)⟩
  intro b hb
  refine ⟨?_, fun w hw => absurd hw (by show ¬ w < 0; omega), fun w hw => absurd hw (by show ¬ w < 0; omega), ?_, ?_⟩
  · revert b; decide +kernel
  · revert b; decide +kernel
  · revert b; decide +kernel
set_option maxRecDepth 100000 in
theorem st_z : st_D.1 266 6 = nI 0 ∧ (∀ x, x < 3 → st_D.1 267 (18 + x) = nI 0) ∧ st_D.1 274 0 = nI 0 ∧ st_D.1 274 1 = nI 0 ∧ ∀ k, k < 12 → st_D.1 273 k = nI 0 := by decide +kernel
theorem st_Lay : Lay st_S ∧ ly_n st_S = 0 := by
  have e : ly_n st_S = 0 := by unfold ly_n; rw [st_n.2]
  exact ⟨⟨by rw [e, st_n.2], by rw [e]; omega, st_kk, st_rr, fun D hD => absurd hD (by rw [e]; omega)⟩, e⟩
theorem chk_nat {α β : Type} {b : Prop} {i1 i2 : Decidable b} {x : Option α} {y : Option β} {f : β → Option α} (h : x = y.bind f) : @aw_chk α b i1 x = (@aw_chk β b i2 y).bind f := by
  unfold aw_chk
  by_cases hb : b
  · rw [if_pos hb, if_pos hb]; exact h
  · rw [if_neg hb, if_neg hb]; rfl
theorem bind_nat {α β γ : Type} {e : Option γ} {x : γ → Option α} {y : γ → Option β} {f : β → Option α} (h : ∀ z, x z = (y z).bind f) : e.bind x = (e.bind y).bind f := by
  cases e with
  | none => rfl
  | some z => exact h z
theorem new_nat {α β : Type} {σ : Sg} {d : Dt} {t n : Nat} {x : Nat → Sg → Dt → Option α} {y : Nat → Sg → Dt → Option β} {f : β → Option α} (h : ∀ q σ d, x q σ d = (y q σ d).bind f) : aw_new σ d t n x = (aw_new σ d t n y).bind f := h _ _ _
def stH {α : Type} (K : Nat → Nat → Nat → Nat → Nat → Nat → Nat → Nat → Nat → Nat → Nat → Nat → Nat → Sg → Dt → Option α) (l : List Nat) (σ : Sg) (d : Dt) : Option α := K (l.getD 0 0) (l.getD 1 0) (l.getD 2 0) (l.getD 3 0) (l.getD 4 0) (l.getD 5 0) (l.getD 6 0) (l.getD 7 0) (l.getD 8 0) (l.getD 9 0) (l.getD 10 0) (l.getD 11 0) (l.getD 12 0) σ d
theorem stG_at {α : Type} (K : Nat → Nat → Nat → Nat → Nat → Nat → Nat → Nat → Nat → Nat → Nat → Nat → Nat → Sg → Dt → Option α) : stG K = stV.bind (fun v => stH K v.1 v.2.1 v.2.2) := by
  unfold stV stG
  repeat (first | refine new_nat (fun q σ d => ?_) | refine chk_nat ?_ | refine bind_nat (fun z => ?_))
  rfl
theorem stG_is {α : Type} (K : Nat → Nat → Nat → Nat → Nat → Nat → Nat → Nat → Nat → Nat → Nat → Nat → Nat → Sg → Dt → Option α) : stG K = K 0 265 266 267 268 269 270 271 272 273 274 275 276 st_S st_D := by
  have h : stV = some (stV.get stV_some) := (Option.some_get stV_some).symm
  have h2 := stG_at K
  rw [h, Option.bind_some] at h2
  rw [h2, st_n.1]
  rfl
