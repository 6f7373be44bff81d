/-! the class: a design is made -/
theorem nO {τ : Sg} {x : Nat} (h : ly_D τ x) (hx : x + 3 < τ.1) {α : Type} {inst : Decidable (aw_O τ 1 5 x)} (y : Option α) : @aw_chk α _ inst y = y := ck_t ⟨by omega, h.1⟩ y
theorem nA {τ : Sg} {c t n i : Nat} (h : τ.2.1 c = (t, n)) (hc : c < τ.1) (hi : i < n) (hn : n < 5000) : aw_I τ t c (nI i) := by
  refine ⟨hc, by rw [h], ?_⟩
  rw [h]
  exact nI_in hi (by show n < 2 ^ 31; omega)
theorem nA1 {τ : Sg} {x i : Nat} (h : ly_D τ x) (hx : x + 3 < τ.1) (hi : i < 47) {α : Type} {inst : Decidable (aw_I τ 20 (x + 1) (nI i))} (y : Option α) : @aw_chk α _ inst y = y := ck_t (nA h.2.1 (by omega) hi (by omega)) y
theorem nA2 {τ : Sg} {x i : Nat} (h : ly_D τ x) (hx : x + 3 < τ.1) (hi : i < 3) {α : Type} {inst : Decidable (aw_I τ 22 (x + 2) (nI i))} (y : Option α) : @aw_chk α _ inst y = y := ck_t (nA h.2.2.1 (by omega) hi (by omega)) y
theorem nA3 {τ : Sg} {x i : Nat} (h : ly_D τ x) (hx : x + 3 < τ.1) (hi : i < 50) {α : Type} {inst : Decidable (aw_I τ 20 (x + 3) (nI i))} (y : Option α) : @aw_chk α _ inst y = y := ck_t (nA h.2.2.2.1 (by omega) hi (by omega)) y

theorem C_in_L39 {τ : Sg} {x : Nat} {d0 : Dt} {Q : Sg × Dt → Prop} {k : Sg → Dt → Option (Sg × Dt)} (hD : ly_D τ x) (hx : x + 3 < τ.1) (hk : ∀ d, (∀ t, t < 3 → d.1 (x + 2) t = nI 1) → Fr (x + 2) (x + 2) d0 d → ok (k τ d) Q) : ∀ (m i f : Nat) (d : Dt), i + m = 3 → m < f → (∀ t, t < i → d.1 (x + 2) t = nI 1) → Fr (x + 2) (x + 2) d0 d → ok (f_X1_init_L39 f k x (nI i) τ d) Q := by
  intro m
  induction m with
  | zero =>
    intro i f d hi hf v F
    cases f with
    | zero => omega
    | succ f =>
      show ok (f_X1_init_B39 (f_X1_init_L39 f k x) k x (nI i) τ d) Q
      simp (disch := first | assumption | omega) only [f_X1_init_B39, nO hD hx, nA1 hD hx, nA2 hD hx, nA3 hD hx, hD.2.2.2.2.1, hD.2.2.2.2.2.1, hD.2.2.2.2.2.2, il_0, il_1, il_2, il_3, il_4, il_5, il_6, il_7, il_8, il_9, il_10, il_11, il_12, il_13, il_15, il_16, il_17, il_18, il_19, il_20, il_21, il_22, il_23, il_24, il_26, il_27, il_28, il_30, il_32, il_34, il_36, il_38, il_40, il_43, il_44, il_46, il_47, il_48, il_49, il_50, il_51, il_60, il_64, il_100, il_108, il_111, il_127, il_971, il_972, il_999, il_1000, il_1024, il_1087, il_2500, il_5000, il_9999, il_60000, il_2147483647, nI_add, nI_mulI, nI_subI, nI_divI, nI_cl, nI_leJ, nI_ltJ, nI_eqJ, nI_neM, nI_neM', il_31, aw_sI_e, aw_sI_n, aw_sI_2, aw_sL_e, aw_sL_n, aw_sL_1, Option.bind_some, aw_chkT, ck_and0, ck_and1, bI_t, bI_f, nar_0, nar_1]
      rw [if_pos (by omega)]
      obtain rfl : i = 3 := by omega
      exact hk d v F
  | succ m ih =>
    intro i f d hi hf v F
    cases f with
    | zero => omega
    | succ f =>
      show ok (f_X1_init_B39 (f_X1_init_L39 f k x) k x (nI i) τ d) Q
      simp (disch := first | assumption | omega) only [f_X1_init_B39, nO hD hx, nA1 hD hx, nA2 hD hx, nA3 hD hx, hD.2.2.2.2.1, hD.2.2.2.2.2.1, hD.2.2.2.2.2.2, il_0, il_1, il_2, il_3, il_4, il_5, il_6, il_7, il_8, il_9, il_10, il_11, il_12, il_13, il_15, il_16, il_17, il_18, il_19, il_20, il_21, il_22, il_23, il_24, il_26, il_27, il_28, il_30, il_32, il_34, il_36, il_38, il_40, il_43, il_44, il_46, il_47, il_48, il_49, il_50, il_51, il_60, il_64, il_100, il_108, il_111, il_127, il_971, il_972, il_999, il_1000, il_1024, il_1087, il_2500, il_5000, il_9999, il_60000, il_2147483647, nI_add, nI_mulI, nI_subI, nI_divI, nI_cl, nI_leJ, nI_ltJ, nI_eqJ, nI_neM, nI_neM', il_31, aw_sI_e, aw_sI_n, aw_sI_2, aw_sL_e, aw_sL_n, aw_sL_1, Option.bind_some, aw_chkT, ck_and0, ck_and1, bI_t, bI_f, nar_0, nar_1]
      rw [if_neg (by omega)]
      refine ih (i + 1) f _ (by omega) (by omega) (fun t ht => ?_) (F.w (by omega))
      by_cases e : t = i
      · subst e; rw [aw_sI_e rfl rfl]
      · rw [aw_sI_n (by omega)]; exact v t (by omega)

theorem C_in_L59 {τ : Sg} {x : Nat} {d0 : Dt} {Q : Sg × Dt → Prop} {k : Sg → Dt → Option (Sg × Dt)} (hD : ly_D τ x) (hx : x + 3 < τ.1) (hk : ∀ d, (∀ t, t < 47 → d.1 (x + 1) t = nI t) → Fr (x + 1) (x + 1) d0 d → ok (k τ d) Q) : ∀ (m i f : Nat) (d : Dt), i + m = 47 → m < f → (∀ t, t < i → d.1 (x + 1) t = nI t) → Fr (x + 1) (x + 1) d0 d → ok (f_X1_init_L59 f k x (nI i) τ d) Q := by
  intro m
  induction m with
  | zero =>
    intro i f d hi hf v F
    cases f with
    | zero => omega
    | succ f =>
      show ok (f_X1_init_B59 (f_X1_init_L59 f k x) k x (nI i) τ d) Q
      simp (disch := first | assumption | omega) only [f_X1_init_B59, nO hD hx, nA1 hD hx, nA2 hD hx, nA3 hD hx, hD.2.2.2.2.1, hD.2.2.2.2.2.1, hD.2.2.2.2.2.2, il_0, il_1, il_2, il_3, il_4, il_5, il_6, il_7, il_8, il_9, il_10, il_11, il_12, il_13, il_15, il_16, il_17, il_18, il_19, il_20, il_21, il_22, il_23, il_24, il_26, il_27, il_28, il_30, il_32, il_34, il_36, il_38, il_40, il_43, il_44, il_46, il_47, il_48, il_49, il_50, il_51, il_60, il_64, il_100, il_108, il_111, il_127, il_971, il_972, il_999, il_1000, il_1024, il_1087, il_2500, il_5000, il_9999, il_60000, il_2147483647, nI_add, nI_mulI, nI_subI, nI_divI, nI_cl, nI_leJ, nI_ltJ, nI_eqJ, nI_neM, nI_neM', il_31, aw_sI_e, aw_sI_n, aw_sI_2, aw_sL_e, aw_sL_n, aw_sL_1, Option.bind_some, aw_chkT, ck_and0, ck_and1, bI_t, bI_f, nar_0, nar_1]
      rw [if_pos (by omega)]
      obtain rfl : i = 47 := by omega
      exact hk d v F
  | succ m ih =>
    intro i f d hi hf v F
    cases f with
    | zero => omega
    | succ f =>
      show ok (f_X1_init_B59 (f_X1_init_L59 f k x) k x (nI i) τ d) Q
      simp (disch := first | assumption | omega) only [f_X1_init_B59, nO hD hx, nA1 hD hx, nA2 hD hx, nA3 hD hx, hD.2.2.2.2.1, hD.2.2.2.2.2.1, hD.2.2.2.2.2.2, il_0, il_1, il_2, il_3, il_4, il_5, il_6, il_7, il_8, il_9, il_10, il_11, il_12, il_13, il_15, il_16, il_17, il_18, il_19, il_20, il_21, il_22, il_23, il_24, il_26, il_27, il_28, il_30, il_32, il_34, il_36, il_38, il_40, il_43, il_44, il_46, il_47, il_48, il_49, il_50, il_51, il_60, il_64, il_100, il_108, il_111, il_127, il_971, il_972, il_999, il_1000, il_1024, il_1087, il_2500, il_5000, il_9999, il_60000, il_2147483647, nI_add, nI_mulI, nI_subI, nI_divI, nI_cl, nI_leJ, nI_ltJ, nI_eqJ, nI_neM, nI_neM', il_31, aw_sI_e, aw_sI_n, aw_sI_2, aw_sL_e, aw_sL_n, aw_sL_1, Option.bind_some, aw_chkT, ck_and0, ck_and1, bI_t, bI_f, nar_0, nar_1]
      rw [if_neg (by omega)]
      refine ih (i + 1) f _ (by omega) (by omega) (fun t ht => ?_) (F.w (by omega))
      by_cases e : t = i
      · subst e; rw [aw_sI_e rfl rfl]
      · rw [aw_sI_n (by omega)]; exact v t (by omega)

theorem C_in_L80 {τ : Sg} {x : Nat} {d0 : Dt} {Q : Sg × Dt → Prop} {k : Sg → Dt → Option (Sg × Dt)} (hD : ly_D τ x) (hx : x + 3 < τ.1) (hk : ∀ d, (∀ t, t < 50 → d.1 (x + 3) t = nI t) → Fr (x + 3) (x + 3) d0 d → ok (k τ d) Q) : ∀ (m i f : Nat) (d : Dt), i + m = 50 → m < f → (∀ t, t < i → d.1 (x + 3) t = nI t) → Fr (x + 3) (x + 3) d0 d → ok (f_X1_init_L80 f k x (nI i) τ d) Q := by
  intro m
  induction m with
  | zero =>
    intro i f d hi hf v F
    cases f with
    | zero => omega
    | succ f =>
      show ok (f_X1_init_B80 (f_X1_init_L80 f k x) k x (nI i) τ d) Q
      simp (disch := first | assumption | omega) only [f_X1_init_B80, nO hD hx, nA1 hD hx, nA2 hD hx, nA3 hD hx, hD.2.2.2.2.1, hD.2.2.2.2.2.1, hD.2.2.2.2.2.2, il_0, il_1, il_2, il_3, il_4, il_5, il_6, il_7, il_8, il_9, il_10, il_11, il_12, il_13, il_15, il_16, il_17, il_18, il_19, il_20, il_21, il_22, il_23, il_24, il_26, il_27, il_28, il_30, il_32, il_34, il_36, il_38, il_40, il_43, il_44, il_46, il_47, il_48, il_49, il_50, il_51, il_60, il_64, il_100, il_108, il_111, il_127, il_971, il_972, il_999, il_1000, il_1024, il_1087, il_2500, il_5000, il_9999, il_60000, il_2147483647, nI_add, nI_mulI, nI_subI, nI_divI, nI_cl, nI_leJ, nI_ltJ, nI_eqJ, nI_neM, nI_neM', il_31, aw_sI_e, aw_sI_n, aw_sI_2, aw_sL_e, aw_sL_n, aw_sL_1, Option.bind_some, aw_chkT, ck_and0, ck_and1, bI_t, bI_f, nar_0, nar_1]
      rw [if_pos (by omega)]
      obtain rfl : i = 50 := by omega
      exact hk d v F
  | succ m ih =>
    intro i f d hi hf v F
    cases f with
    | zero => omega
    | succ f =>
      show ok (f_X1_init_B80 (f_X1_init_L80 f k x) k x (nI i) τ d) Q
      simp (disch := first | assumption | omega) only [f_X1_init_B80, nO hD hx, nA1 hD hx, nA2 hD hx, nA3 hD hx, hD.2.2.2.2.1, hD.2.2.2.2.2.1, hD.2.2.2.2.2.2, il_0, il_1, il_2, il_3, il_4, il_5, il_6, il_7, il_8, il_9, il_10, il_11, il_12, il_13, il_15, il_16, il_17, il_18, il_19, il_20, il_21, il_22, il_23, il_24, il_26, il_27, il_28, il_30, il_32, il_34, il_36, il_38, il_40, il_43, il_44, il_46, il_47, il_48, il_49, il_50, il_51, il_60, il_64, il_100, il_108, il_111, il_127, il_971, il_972, il_999, il_1000, il_1024, il_1087, il_2500, il_5000, il_9999, il_60000, il_2147483647, nI_add, nI_mulI, nI_subI, nI_divI, nI_cl, nI_leJ, nI_ltJ, nI_eqJ, nI_neM, nI_neM', il_31, aw_sI_e, aw_sI_n, aw_sI_2, aw_sL_e, aw_sL_n, aw_sL_1, Option.bind_some, aw_chkT, ck_and0, ck_and1, bI_t, bI_f, nar_0, nar_1]
      rw [if_neg (by omega)]
      refine ih (i + 1) f _ (by omega) (by omega) (fun t ht => ?_) (F.w (by omega))
      by_cases e : t = i
      · subst e; rw [aw_sI_e rfl rfl]
      · rw [aw_sI_n (by omega)]; exact v t (by omega)

def sgT (σ : Sg) : Sg := aw_sR (aw_nw (aw_sR (aw_nw (aw_sR (aw_nw (aw_nw σ 1 5) 20 47) σ.1 2 (σ.1 + 1)) 22 3) σ.1 3 (σ.1 + 1 + 1)) 20 50) σ.1 4 (σ.1 + 1 + 1 + 1)
theorem sgT_1 (σ : Sg) : (sgT σ).1 = σ.1 + 4 := rfl
theorem sgT_D (σ : Sg) : ly_D (sgT σ) σ.1 := by
  unfold ly_D sgT aw_sR aw_nw
  have h1 : ¬ σ.1 = σ.1 + 1 := by omega
  have h2 : ¬ σ.1 = σ.1 + 1 + 1 := by omega
  have h3 : ¬ σ.1 = σ.1 + 1 + 1 + 1 := by omega
  have h4 : ¬ σ.1 + 1 = σ.1 + 1 + 1 := by omega
  have h5 : ¬ σ.1 + 1 = σ.1 + 1 + 1 + 1 := by omega
  have h6 : ¬ σ.1 + 2 = σ.1 + 1 + 1 + 1 := by omega
  have h7 : σ.1 + 2 = σ.1 + 1 + 1 := by omega
  have h8 : σ.1 + 3 = σ.1 + 1 + 1 + 1 := by omega
  have h9 : ¬ (2 : Nat) = 4 := by decide
  have h10 : ¬ (3 : Nat) = 4 := by decide
  have h11 : ¬ (2 : Nat) = 3 := by decide
  have h12 : ¬ σ.1 + 1 + 1 = σ.1 + 1 + 1 + 1 := by omega
  refine ⟨?_, ?_, ?_, ?_, ?_, ?_, ?_⟩
  · simp only [h1, h2, h3, if_true, if_false]
  · simp only [h4, h5, if_true, if_false]
  · simp only [h7, h12, if_true, if_false]
  · simp only [h8, if_true, if_false]
  · simp only [h1, h2, h3, h9, h11, and_false, and_true, if_true, if_false]
  · simp only [h1, h2, h3, h10, h7, and_false, and_true, if_true, if_false]
  · simp only [h8, and_true, if_true]
theorem sgT_k {σ : Sg} {c : Nat} (h : c < σ.1) : (sgT σ).2.1 c = σ.2.1 c := by
  have h1 : ¬ c = σ.1 := by omega
  have h2 : ¬ c = σ.1 + 1 := by omega
  have h3 : ¬ c = σ.1 + 1 + 1 := by omega
  have h4 : ¬ c = σ.1 + 1 + 1 + 1 := by omega
  unfold sgT aw_sR aw_nw
  simp only [h1, h2, h3, h4, if_false]
theorem sgT_r {σ : Sg} {c j : Nat} (h : c < σ.1) : (sgT σ).2.2 c j = σ.2.2 c j := by
  have h1 : ¬ c = σ.1 := by omega
  have h2 : ¬ c = σ.1 + 1 := by omega
  have h3 : ¬ c = σ.1 + 1 + 1 := by omega
  have h4 : ¬ c = σ.1 + 1 + 1 + 1 := by omega
  unfold sgT aw_sR aw_nw
  simp only [h1, h2, h3, h4, if_false, false_and]
theorem zd_lt {σ : Sg} {d : Dt} {c : Nat} (h : c < σ.1) : (aw_zd σ d).1 c = d.1 c ∧ (aw_zd σ d).2 c = d.2 c := by
  unfold aw_zd
  exact ⟨by funext j; exact if_neg (by omega), by funext j; exact if_neg (by omega)⟩
theorem C_initD {σ : Sg} {d : Dt} (kd b : Int32) : ok (f_X1_init σ.1 kd b (aw_nw σ 1 5) (aw_zd σ d)) (fun z => z.1 = sgT σ ∧ z.2.1 σ.1 0 = kd ∧ z.2.1 σ.1 1 = b ∧ (∀ u, u < 47 → z.2.1 (σ.1 + 1) u = nI u) ∧ (∀ t, t < 3 → z.2.1 (σ.1 + 2) t = nI 1) ∧ (∀ s, s < 50 → z.2.1 (σ.1 + 3) s = nI s) ∧ ∀ c, c < σ.1 → z.2.1 c = d.1 c ∧ z.2.2 c = d.2 c) := by
  unfold f_X1_init aw_new aw_let
  refine ok_chk (by show σ.1 < σ.1 + 1; omega) ?_
  have h1 : ¬ σ.1 = σ.1 + 1 := by omega
  have h2 : ¬ σ.1 = σ.1 + 1 + 1 := by omega
  have h3 : ¬ σ.1 = σ.1 + 1 + 1 + 1 := by omega
  refine ok_chk ⟨⟨by show σ.1 < σ.1 + 1 + 1; omega, by simp only [aw_nw, h1, if_true, if_false]⟩, by show σ.1 + 1 < σ.1 + 1 + 1; omega⟩ ?_
  refine ok_chk (by show σ.1 < σ.1 + 1 + 1; omega) ?_
  refine ok_chk ⟨⟨by show σ.1 < σ.1 + 1 + 1 + 1; omega, by simp only [aw_nw, aw_sR, h1, h2, if_true, if_false]⟩, by show σ.1 + 1 + 1 < σ.1 + 1 + 1 + 1; omega⟩ ?_
  refine ok_chk (by show σ.1 < σ.1 + 1 + 1 + 1; omega) ?_
  refine ok_chk ⟨⟨by show σ.1 < σ.1 + 1 + 1 + 1 + 1; omega, by simp only [aw_nw, aw_sR, h1, h2, h3, if_true, if_false]⟩, by show σ.1 + 1 + 1 + 1 < σ.1 + 1 + 1 + 1 + 1; omega⟩ ?_
  have hD := sgT_D σ
  have hx : σ.1 + 3 < (sgT σ).1 := by rw [sgT_1]; omega
  have hO : aw_O (sgT σ) 1 5 σ.1 := ⟨by omega, hD.1⟩
  refine ok_chk hO (ok_chk hO ?_)
  refine C_in_L39 (τ := sgT σ) (x := σ.1) hD hx (fun d1 v1 F1 => ?_) 3 0 aw_FU _ (by omega) (by show _ < 5000; omega) (fun t ht => by omega) Fr.rf
  refine C_in_L59 (τ := sgT σ) (x := σ.1) hD hx (fun d2 v2 F2 => ?_) 47 0 aw_FU _ (by omega) (by show _ < 5000; omega) (fun t ht => by omega) Fr.rf
  refine C_in_L80 (τ := sgT σ) (x := σ.1) hD hx (fun d3 v3 F3 => ?_) 50 0 aw_FU _ (by omega) (by show _ < 5000; omega) (fun t ht => by omega) Fr.rf
  refine ok_some ⟨rfl, ?_, ?_, fun u hu => ?_, fun t ht => ?_, v3, fun c hc => ?_⟩
  · show d3.1 σ.1 0 = kd
    rw [(F3 σ.1 (by omega)).1, (F2 σ.1 (by omega)).1, (F1 σ.1 (by omega)).1, aw_sI_n (by omega), aw_sI_e rfl rfl]
  · show d3.1 σ.1 1 = b
    rw [(F3 σ.1 (by omega)).1, (F2 σ.1 (by omega)).1, (F1 σ.1 (by omega)).1, aw_sI_e rfl rfl]
  · show d3.1 (σ.1 + 1) u = nI u
    rw [(F3 (σ.1 + 1) (by omega)).1]; exact v2 u hu
  · show d3.1 (σ.1 + 2) t = nI 1
    rw [(F3 (σ.1 + 2) (by omega)).1, (F2 (σ.1 + 2) (by omega)).1]; exact v1 t ht
  · have z0 := zd_lt (σ := σ) (d := d) hc
    have z1 := zd_lt (σ := aw_nw σ 1 5) (d := aw_zd σ d) (c := c) (by show c < σ.1 + 1; omega)
    have z2 := zd_lt (σ := aw_sR (aw_nw (aw_nw σ 1 5) 20 47) σ.1 2 (σ.1 + 1)) (d := aw_zd (aw_nw σ 1 5) (aw_zd σ d)) (c := c) (by show c < σ.1 + 1 + 1; omega)
    have z3 := zd_lt (σ := aw_sR (aw_nw (aw_sR (aw_nw (aw_nw σ 1 5) 20 47) σ.1 2 (σ.1 + 1)) 22 3) σ.1 3 (σ.1 + 1 + 1)) (d := aw_zd (aw_sR (aw_nw (aw_nw σ 1 5) 20 47) σ.1 2 (σ.1 + 1)) (aw_zd (aw_nw σ 1 5) (aw_zd σ d))) (c := c) (by show c < σ.1 + 1 + 1 + 1; omega)
    show d3.1 c = d.1 c ∧ d3.2 c = d.2 c
    rw [(F3 c (by omega)).1, (F2 c (by omega)).1, (F1 c (by omega)).1, (F3 c (by omega)).2, (F2 c (by omega)).2, (F1 c (by omega)).2]
    refine ⟨?_, ?_⟩
    · funext j
      rw [aw_sI_n (by omega), aw_sI_n (by omega)]
      exact congrFun (z3.1.trans (z2.1.trans (z1.1.trans z0.1))) j
    · exact z3.2.trans (z2.2.trans (z1.2.trans z0.2))
def sgD (σ : Sg) (n : Nat) : Sg := aw_sR (sgT σ) 32 n σ.1
theorem Lay.new {σ : Sg} (hS : Lay σ) (h5 : ly_n σ < 5) : Lay (sgD σ (ly_n σ)) ∧ ly_n (sgD σ (ly_n σ)) = ly_n σ + 1 := by
  obtain ⟨h1, h2, h3, h4, h6⟩ := hS
  have e1 : (sgD σ (ly_n σ)).1 = σ.1 + 4 := rfl
  have en : ly_n (sgD σ (ly_n σ)) = ly_n σ + 1 := by
    show (σ.1 + 4 - 277) / 4 = _
    omega
  refine ⟨⟨by rw [en, e1]; omega, by rw [en]; omega, fun c hc => ?_, fun t ht => ?_, fun D hD => ?_⟩, en⟩
  · show (sgT σ).2.1 c = _
    rw [sgT_k (by omega)]; exact h3 c hc
  · have ht2 := (by decide +kernel : ∀ t ∈ ly_refs, t.1 < 277 ∧ t.1 ≠ 32) t ht
    show (if t.1 = 32 ∧ t.2.1 = ly_n σ then some σ.1 else (sgT σ).2.2 t.1 t.2.1) = _
    rw [if_neg (fun h => ht2.2 h.1), sgT_r (by omega)]
    exact h4 t ht
  · rw [en] at hD
    by_cases e : D = ly_n σ
    · subst e
      refine ⟨?_, ?_⟩
      · show (if 32 = 32 ∧ ly_n σ = ly_n σ then some σ.1 else _) = _
        rw [if_pos ⟨rfl, rfl⟩, h1]
      · rw [← h1]
        obtain ⟨g1, g2, g3, g4, g5, g6, g7⟩ := sgT_D σ
        refine ⟨g1, g2, g3, g4, ?_, ?_, ?_⟩
        · show (if σ.1 = 32 ∧ _ then _ else (sgT σ).2.2 σ.1 2) = _
          rw [if_neg (by omega)]; exact g5
        · show (if σ.1 = 32 ∧ _ then _ else (sgT σ).2.2 σ.1 3) = _
          rw [if_neg (by omega)]; exact g6
        · show (if σ.1 = 32 ∧ _ then _ else (sgT σ).2.2 σ.1 4) = _
          rw [if_neg (by omega)]; exact g7
    · obtain ⟨g0, g1, g2, g3, g4, g5, g6, g7⟩ := h6 D (by omega)
      refine ⟨?_, ?_, ?_, ?_, ?_, ?_, ?_, ?_⟩
      · show (if 32 = 32 ∧ D = ly_n σ then some σ.1 else (sgT σ).2.2 32 D) = _
        rw [if_neg (by omega), sgT_r (by omega)]; exact g0
      · show (sgT σ).2.1 _ = _
        rw [sgT_k (by omega)]; exact g1
      · show (sgT σ).2.1 _ = _
        rw [sgT_k (by omega)]; exact g2
      · show (sgT σ).2.1 _ = _
        rw [sgT_k (by omega)]; exact g3
      · show (sgT σ).2.1 _ = _
        rw [sgT_k (by omega)]; exact g4
      · show (if 277 + 4 * D = 32 ∧ _ then _ else (sgT σ).2.2 (277 + 4 * D) 2) = _
        rw [if_neg (by omega), sgT_r (by omega)]; exact g5
      · show (if 277 + 4 * D = 32 ∧ _ then _ else (sgT σ).2.2 (277 + 4 * D) 3) = _
        rw [if_neg (by omega), sgT_r (by omega)]; exact g6
      · show (if 277 + 4 * D = 32 ∧ _ then _ else (sgT σ).2.2 (277 + 4 * D) 4) = _
        rw [if_neg (by omega), sgT_r (by omega)]; exact g7

def desB (x1 x2 : Int32) (σ : Sg) (d : Dt) : Option ((Nat ⊕ Int32) × (Sg × Dt)) :=
  aw_chk (aw_O σ 10 13 0) (if (d.1 0 4) < ((5 : Int32)) then (σ.2.2 0 3).bind (fun q_2 => aw_chk (q_2 < σ.1) (aw_chk (0 < σ.1) (aw_new σ d 1 5 (fun q_6 σ_7 d_8 => aw_chk (q_6 < σ_7.1) (aw_chk (q_2 < σ_7.1) (aw_chk (0 < σ_7.1) ((f_X1_init q_6 x1 x2 σ_7 d_8).bind (fun z_17 => aw_chk (aw_I z_17.1 26 q_2 (d.1 0 4) ∧ aw_O z_17.1 1 5 q_6) (aw_let (aw_sR z_17.1 q_2 (d.1 0 4).toNatClampNeg q_6) (fun σ_26 => aw_chk (aw_O σ_26 10 13 0) (some (Sum.inr (((aw_sI z_17.2 0 4 ((z_17.2.1 0 4) + ((1 : Int32)))).1 0 4) - ((1 : Int32))), σ_26, aw_sI z_17.2 0 4 ((z_17.2.1 0 4) + ((1 : Int32))))))))))))))) else some (Sum.inl 3, σ, d))
theorem X10_design_is (x1 x2 : Int32) (σ : Sg) (d : Dt) : f_X10_design 0 x1 x2 σ d = if x1 = 0 then if x2 = ((-1 : Int32)) then desB x1 x2 σ d else if x2 < 0 then some (Sum.inl 2, σ, d) else if x2 < ((3 : Int32)) then desB x1 x2 σ d else some (Sum.inl 2, σ, d) else if x1 = ((1 : Int32)) then if x2 = ((-1 : Int32)) then desB x1 x2 σ d else if x2 < 0 then some (Sum.inl 2, σ, d) else if x2 < ((3 : Int32)) then desB x1 x2 σ d else some (Sum.inl 2, σ, d) else some (Sum.inl 2, σ, d) := rfl
theorem newD_o {A : St} {k b f i j : Nat} (h : f < 11 ∨ 16 < f) : newD A k b f i j = A f i j := by
  unfold newD
  rw [stU_n (by omega), stF_n (by omega), stF_n (by omega), stF_n (by omega), stU_n (by omega), stU_n (by omega)]
theorem newD_11 {A : St} {k b : Nat} : newD A k b 11 0 0 = A 11 0 0 + 1 := by unfold newD; rw [stU_e rfl rfl rfl]
theorem newD_D {A : St} {k b f D j : Nat} (hf : 12 ≤ f ∧ f ≤ 16) (hD : f = 12 ∨ f = 13 → D = 0 ∧ j ≠ A 11 0 0) (hD2 : 14 ≤ f → D ≠ A 11 0 0) : newD A k b f D j = A f D j := by
  unfold newD
  rw [stU_n (by omega), stF_n (by omega), stF_n (by omega), stF_n (by omega), stU_n (by omega), stU_n (by omega)]
theorem newD_12 {A : St} {k b : Nat} : newD A k b 12 0 (A 11 0 0) = k := by
  unfold newD
  rw [stU_n (by omega), stF_n (by omega), stF_n (by omega), stF_n (by omega), stU_n (by omega), stU_e rfl rfl rfl]
theorem newD_13 {A : St} {k b : Nat} : newD A k b 13 0 (A 11 0 0) = b := by
  unfold newD
  rw [stU_n (by omega), stF_n (by omega), stF_n (by omega), stF_n (by omega), stU_e rfl rfl rfl]
theorem newD_14 {A : St} {k b u : Nat} (hu : u < 47) : newD A k b 14 (A 11 0 0) u = u := by
  unfold newD
  rw [stU_n (by omega), stF_n (by omega), stF_n (by omega), stF_e rfl rfl hu]
theorem newD_15 {A : St} {k b u : Nat} (hu : u < 3) : newD A k b 15 (A 11 0 0) u = 1 := by
  unfold newD
  rw [stU_n (by omega), stF_n (by omega), stF_e rfl rfl hu]
theorem newD_16 {A : St} {k b u : Nat} (hu : u < 50) : newD A k b 16 (A 11 0 0) u = u := by
  unfold newD
  rw [stU_n (by omega), stF_e rfl rfl hu]
theorem C_desB {A : St} {σ : Sg} {d : Dt} (hS : Lay σ) (hn : ly_n σ = A 11 0 0) (hW : WF A) (hC : RepC A d) {k b : Nat} (h5 : A 11 0 0 < 5) : ok (desB (nI k) (nI b - 1) σ d) (fun z => z.1 = Sum.inr (nI (A 11 0 0)) ∧ Lay z.2.1 ∧ ly_n z.2.1 = A 11 0 0 + 1 ∧ RepC (newD A k b) z.2.2 ∧ ∀ c, c < 277 → (c ≠ 0 → z.2.2.1 c = d.1 c) ∧ z.2.2.2 c = d.2 c) := by
  have q1 := rc_des hC
  have w2 := hW.words
  obtain ⟨z, hz, z0, z1, z2, z3, z4, z5, z6⟩ := C_initD (σ := σ) (d := d) (nI k) (nI b - 1)
  have hsz := hS.1
  obtain ⟨zs, zd⟩ := z
  have z0' : zs = sgT σ := z0
  subst z0'
  have L0 := (hS.new (by omega)).1
  have en := (hS.new (by omega)).2
  rw [hn] at L0 en
  have r1 : σ.2.2 0 3 = some 32 := lr_0_3 hS
  unfold desB aw_new aw_let
  rw [lo_0 hS, q1, il_5, if_pos (by rw [nI_ltJ (by omega) (by omega)]; exact h5), r1, Option.bind_some]
  refine ok_chk (by omega) (ok_chk (by omega) ?_)
  refine ok_chk (by show σ.1 < σ.1 + 1; omega) (ok_chk (by show 32 < σ.1 + 1; omega) (ok_chk (by show 0 < σ.1 + 1; omega) ?_))
  refine ok_bs hz ?_
  have k32 : (sgT σ).2.1 32 = (26, 5) := by rw [sgT_k (by omega)]; exact (hS.k (k := 32) (by omega) rfl).2
  refine ok_chk ⟨nA k32 (by rw [sgT_1]; omega) h5 (by omega), by rw [sgT_1]; omega, (sgT_D σ).1⟩ ?_
  rw [nI_cl (by omega)]
  refine ok_chk (ly_O L0 (k := 0) (by omega) rfl) ?_
  have q2 : zd.1 0 4 = nI (A 11 0 0) := by rw [(z6 0 (by omega)).1]; exact q1
  refine ok_some ⟨?_, L0, en, ?_, fun c hc => ⟨fun h0 => ?_, ?_⟩⟩
  · show Sum.inr ((aw_sI zd 0 4 (zd.1 0 4 + 1)).1 0 4 - 1) = _
    rw [aw_sI_e rfl rfl, q2, il_1, nI_add, nI_subI (by omega), Nat.add_sub_cancel]
  · show RepC (newD A k b) (aw_sI zd 0 4 (zd.1 0 4 + 1))
    have F : ∀ c, c < σ.1 → c ≠ 0 → (aw_sI zd 0 4 (zd.1 0 4 + 1)).1 c = d.1 c := fun c h1 h2 => by
      funext j; rw [aw_sI_n (by omega), (z6 c h1).1]
    have F2 : ∀ c, c ≠ 0 → (aw_sI zd 0 4 (zd.1 0 4 + 1)).1 c = zd.1 c := fun c h2 => by
      funext j; rw [aw_sI_n (by omega)]
    refine hC.cg w2 ?_ (fun j hj => ?_) (fun w hw => ?_) ?_ ?_ ⟨fun f hf i j => newD_o (by omega), fun c hc => F c (by omega) (by omega)⟩ (fun s hs => ?_) (fun g hg => ?_) (fun D hD => ?_)
    · rw [F 1 (by omega) (by omega), newD_o (by omega)]; exact rc_dr hC
    · rw [F 2 (by omega) (by omega), newD_o (by omega)]; exact rc_draft hC hj
    · rw [F 3 (by omega) (by omega), newD_o (by omega)]; exact rc_wt hC hw
    · rw [F 1 (by omega) (by omega), newD_o (by omega)]; exact rc_words hC
    · rw [aw_sI_e rfl rfl, q2, newD_11, il_1, nI_add]
    · rw [F 36 (by omega) (by omega), F 88 (by omega) (by omega), F (38 + s) (by omega) (by omega), newD_o (by omega)]; exact hC.s hs
    · rw [F 90 (by omega) (by omega), F 91 (by omega) (by omega), F 92 (by omega) (by omega), newD_o (by omega), newD_o (by omega), newD_o (by omega)]; exact hC.g hg
    · rw [newD_11] at hD
      by_cases e : D = A 11 0 0
      · subst e
        have ex : 277 + 4 * A 11 0 0 = σ.1 := by omega
        rw [ex]
        refine ⟨?_, ?_, fun u hu => ?_, fun t ht => ?_, fun s hs => ?_⟩
        · rw [F2 _ (by omega), newD_12]; exact z1
        · rw [F2 _ (by omega), newD_13]; exact z2
        · rw [F2 _ (by omega), newD_14 hu]; exact z3 u hu
        · rw [F2 _ (by omega), newD_15 ht]; exact z4 t ht
        · rw [F2 _ (by omega), newD_16 hs]; exact z5 s hs
      · exact (hC.G (show D < A 11 0 0 by omega)).cg (fun f hf j => newD_D (by omega) (by omega) (by omega)) (fun f hf => newD_D (by omega) (by omega) (by omega)) (fun c h1 h2 => F c (by omega) (by omega))
  · show (aw_sI zd 0 4 (zd.1 0 4 + 1)).1 c = d.1 c
    funext j; rw [aw_sI_n (by omega), (z6 c (by omega)).1]
  · exact (z6 c (by omega)).2
theorem C_desB5 {A : St} {σ : Sg} {d : Dt} (hS : Lay σ) (hC : RepC A d) {x1 x2 : Int32} (h5 : A 11 0 0 = 5) : desB x1 x2 σ d = some (Sum.inl 3, σ, d) := by
  have q1 := rc_des hC
  unfold desB
  rw [lo_0 hS, q1, h5, il_5, if_neg (by rw [nI_ltJ (by omega) (by omega)]; omega)]
def PXD (d : Dt) (o : Res) (z : (Nat ⊕ Int32) × (Sg × Dt)) : Prop := PX cc_S d o (z.1, z.2.2) ∧ Lay z.2.1 ∧ ly_n z.2.1 = o.2.2 11 0 0
theorem X10_design_ok {k : Nat} (hk : k < 2) {y : Int32} (hy : (decide (y = NO) || ix y 3) = true) (σ : Sg) (d : Dt) : f_X10_design 0 (nI k) y σ d = desB (nI k) y σ d := by
  rw [X10_design_is]
  have hyy : (if y = ((-1 : Int32)) then desB (nI k) y σ d else if y < 0 then some (Sum.inl 2, σ, d) else if y < ((3 : Int32)) then desB (nI k) y σ d else some (Sum.inl 2, σ, d)) = desB (nI k) y σ d := by
    by_cases e1 : y = NO
    · rw [if_pos (show y = (-1 : Int32) from e1)]
    · rcases ix_or y 3 (by decide) with ⟨c, hc, rfl, -⟩ | ⟨hi, -⟩
      · rw [if_neg (show ¬ nI c = (-1 : Int32) from e1), il_0, if_neg (by rw [nI_ltJ (by omega) (by omega)]; omega), il_3, if_pos (by rw [nI_ltJ (by omega) (by omega)]; exact hc)]
      · rw [hi, decide_eq_false e1] at hy; exact absurd hy (by decide)
  rw [hyy]
  rcases (show k = 0 ∨ k = 1 by omega) with rfl | rfl
  · rw [if_pos (show nI 0 = (0 : Int32) from rfl)]
  · rw [if_neg (by decide), if_pos (show nI 1 = (1 : Int32) from rfl)]
theorem X10_design_bad {x y : Int32} (h : (ix x 2 && (decide (y = NO) || ix y 3)) = false) (σ : Sg) (d : Dt) : f_X10_design 0 x y σ d = some (Sum.inl 2, σ, d) := by
  rw [X10_design_is]
  rcases ix_or x 2 (by decide) with ⟨k, hk, rfl, hi⟩ | ⟨hi, hx⟩
  · rw [hi, Bool.true_and] at h
    have hyy : (if y = ((-1 : Int32)) then desB (nI k) y σ d else if y < 0 then some (Sum.inl 2, σ, d) else if y < ((3 : Int32)) then desB (nI k) y σ d else some (Sum.inl 2, σ, d)) = some (Sum.inl 2, σ, d) := by
      have e1 : ¬ y = NO := fun e => by rw [decide_eq_true e] at h; exact absurd h (by simp)
      rw [if_neg (show ¬ y = (-1 : Int32) from e1)]
      rcases ix_or y 3 (by decide) with ⟨c, hc, rfl, hi2⟩ | ⟨hi2, hx2⟩
      · rw [hi2, Bool.or_true] at h; exact absurd h (by decide)
      · rcases hx2 with hx2 | ⟨-, j, h1, h2, rfl⟩
        · rw [if_pos hx2]
        · rw [il_0, if_neg (by rw [nI_ltJ (by omega) (by omega)]; omega), il_3, if_neg (by rw [nI_ltJ (by omega) (by omega)]; omega)]
    rw [hyy]
    rcases (show k = 0 ∨ k = 1 by omega) with rfl | rfl
    · rw [if_pos (show nI 0 = (0 : Int32) from rfl)]
    · rw [if_neg (by decide), if_pos (show nI 1 = (1 : Int32) from rfl)]
  · rcases hx with hx | ⟨-, j, h1, h2, rfl⟩
    · rw [if_neg (fun e => by rw [e] at hx; exact absurd hx (by decide)), if_neg (fun e => by rw [e] at hx; exact absurd hx (by decide))]
    · rw [il_0, if_neg (by rw [nI_eqJ (by omega) (by omega)]; omega), il_1, if_neg (by rw [nI_eqJ (by omega) (by omega)]; omega)]
theorem C_design {A : St} {σ : Sg} {d : Dt} (hS : Lay σ) (hn : ly_n σ = A 11 0 0) (hW : WF A) (hC : RepC A d) (x y : Int32) : ok (f_X10_design 0 x y σ d) (PXD d (o_design A x y)) := by
  have h5 := hW.des
  have w2 := hW.words
  have hsz := hS.1
  by_cases h1 : (ix x 2 && (decide (y = NO) || ix y 3)) = true
  · have h1' := h1
    simp only [Bool.and_eq_true] at h1'
    rcases ix_or x 2 (by decide) with ⟨k, hk, rfl, -⟩ | ⟨hi, -⟩
    rotate_left
    · rw [hi] at h1'; cases h1'.1
    have hxd := X10_design_ok hk h1'.2 σ d
    by_cases e : A 11 0 0 = 5
    · have eo : o_design A (nI k) y = (2, nI 0, A) := by simp only [o_design, h1, e]; rfl
      rw [eo, hxd, C_desB5 (x1 := nI k) (x2 := y) hS hC e]
      exact ok_some ⟨⟨rfl, hC, fun _ _ _ => ⟨rfl, rfl⟩⟩, hS, hn⟩
    · have eo : o_design A (nI k) y = (0, nI (A 11 0 0), newD A k (bas y)) := by
        have : o_design A (nI k) y = (0, nI (A 11 0 0), newD A (nI k).toNatClampNeg (bas y)) := by simp only [o_design, h1, e]; rfl
        rw [this, nI_cl (by omega)]
      rw [eo]
      have hb : y = nI (bas y) - 1 := by
        by_cases e1 : y = NO
        · subst e1; decide
        · rcases ix_or y 3 (by decide) with ⟨c, hc, rfl, -⟩ | ⟨hi, -⟩
          · rw [bas, nI_1, nI_cl (by omega), nI_pred]
          · simp [e1, hi] at h1'
      obtain ⟨z, hz, z1, z2, z3, z4, z5⟩ := C_desB (k := k) (b := bas y) hS hn hW hC (by omega)
      rw [← hb] at hz
      refine ⟨z, hxd.trans hz, ⟨z1, z4, fun c h1 h2 => ⟨(z5 c (by omega)).1 (by omega), (z5 c (by omega)).2⟩⟩, z2, ?_⟩
      show ly_n z.2.1 = newD A k (bas y) 11 0 0
      rw [newD_11]; exact z3
  · have h1' : (ix x 2 && (decide (y = NO) || ix y 3)) = false := by simpa using h1
    have eo : o_design A x y = (1, nI 0, A) := by simp only [o_design, h1', if_true]
    rw [eo]
    exact ⟨_, X10_design_bad h1' σ d, ⟨rfl, hC, fun _ _ _ => ⟨rfl, rfl⟩⟩, hS, hn⟩
