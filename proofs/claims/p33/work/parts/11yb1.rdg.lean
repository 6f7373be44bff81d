/-! readings: the law by all codes, from the end; its two rows lie behind the layout, so only places are asked of the heap -/
theorem cap_g {σ : Sg} {t c N : Nat} (h : ∀ i, i < N → aw_I σ t c (nI i)) {i : Nat} (hi : i < N) {α : Type} {inst : Decidable (aw_I σ t c (nI i))} (y : Option α) : @aw_chk α _ inst y = y := ck_t (h i hi) y
theorem L_sp127G {A : St} {σ : Sg} {d : Dt} {D x o u m : Nat} (hcA : ∀ i, i < 50 → aw_I σ 20 x (nI i)) (hA : RepA A D x d) (hs : ∀ u, u < 47 → A 14 D u < 50) (ho : o ≤ 8) (hu : u < 47) : f_L_spells_J127 σ (nI u) x (nL (m * 64)) x (nI o) (nI (isl A D)) d = some (nL (spO A D o (m * 64 + A 14 D u + 1)), d) := by
  have q := hA.1 u hu
  have s1 := hs u hu
  have hu2 : u < 50 := by omega
  by_cases e : A 12 0 D = 0
  · by_cases e2 : o = 8
    · subst e2
      have e9 : spO A D 8 (m * 64 + A 14 D u + 1) = m * 64 + A 14 D u + 1 := by simp [spO]
      simp (disch := first | assumption | omega) only [f_L_spells_J127, f_L_spells_J161, f_L_spells_J163, q, isl, e, e9, nI_L, nL_addL, jl_1, Nat.le_refl, ↓reduceIte, Nat.reduceEqDiff, Nat.one_ne_zero, if_true, if_false, cap_g hcA, il_0, il_1, il_2, il_3, il_4, il_5, il_6, il_7, il_8, il_9, il_10, il_11, il_12, il_13, il_15, il_16, il_17, il_18, il_19, il_20, il_21, il_22, il_23, il_24, il_26, il_27, il_28, il_30, il_32, il_34, il_36, il_38, il_40, il_43, il_44, il_46, il_47, il_48, il_49, il_50, il_51, il_60, il_64, il_100, il_108, il_111, il_127, il_971, il_972, il_999, il_1000, il_1024, il_1087, il_2500, il_5000, il_9999, il_60000, il_2147483647, nI_add, nI_mulI, nI_subI, nI_divI, nI_cl, nI_leJ, nI_ltJ, nI_eqJ, nI_neM, nI_neM', il_31, aw_sI_e, aw_sI_n, aw_sI_2, aw_sL_e, aw_sL_n, aw_sL_1, Option.bind_some, aw_chkT, ck_and0, ck_and1, bI_t, bI_f, nar_0, nar_1]
    · have q2 := hA.1 o (by omega)
      have s2 := hs o (by omega)
      have e9 : spO A D o (m * 64 + A 14 D u + 1) = (m * 64 + A 14 D u + 1) * 64 + A 14 D o + 1 := by simp [spO, e, e2]
      have e8 : ¬ 8 ≤ o := by omega
      simp (disch := first | assumption | omega) only [f_L_spells_J127, f_L_spells_J161, f_L_spells_J163, q, q2, isl, e, e8, e9, nI_L, nL_addL, nL_mulL, jl_1, jl_64, ↓reduceIte, Nat.reduceEqDiff, Nat.one_ne_zero, if_true, if_false, cap_g hcA, il_0, il_1, il_2, il_3, il_4, il_5, il_6, il_7, il_8, il_9, il_10, il_11, il_12, il_13, il_15, il_16, il_17, il_18, il_19, il_20, il_21, il_22, il_23, il_24, il_26, il_27, il_28, il_30, il_32, il_34, il_36, il_38, il_40, il_43, il_44, il_46, il_47, il_48, il_49, il_50, il_51, il_60, il_64, il_100, il_108, il_111, il_127, il_971, il_972, il_999, il_1000, il_1024, il_1087, il_2500, il_5000, il_9999, il_60000, il_2147483647, nI_add, nI_mulI, nI_subI, nI_divI, nI_cl, nI_leJ, nI_ltJ, nI_eqJ, nI_neM, nI_neM', il_31, aw_sI_e, aw_sI_n, aw_sI_2, aw_sL_e, aw_sL_n, aw_sL_1, Option.bind_some, aw_chkT, ck_and0, ck_and1, bI_t, bI_f, nar_0, nar_1]
  · have e9 : spO A D o (m * 64 + A 14 D u + 1) = m * 64 + A 14 D u + 1 := by simp [spO, e]
    simp (disch := first | assumption | omega) only [f_L_spells_J127, f_L_spells_J161, f_L_spells_J163, q, isl, e, e9, nI_L, nL_addL, jl_1, ↓reduceIte, Nat.reduceEqDiff, Nat.one_ne_zero, if_true, if_false, cap_g hcA, il_0, il_1, il_2, il_3, il_4, il_5, il_6, il_7, il_8, il_9, il_10, il_11, il_12, il_13, il_15, il_16, il_17, il_18, il_19, il_20, il_21, il_22, il_23, il_24, il_26, il_27, il_28, il_30, il_32, il_34, il_36, il_38, il_40, il_43, il_44, il_46, il_47, il_48, il_49, il_50, il_51, il_60, il_64, il_100, il_108, il_111, il_127, il_971, il_972, il_999, il_1000, il_1024, il_1087, il_2500, il_5000, il_9999, il_60000, il_2147483647, nI_add, nI_mulI, nI_subI, nI_divI, nI_cl, nI_leJ, nI_ltJ, nI_eqJ, nI_neM, nI_neM', il_31, aw_sI_e, aw_sI_n, aw_sI_2, aw_sL_e, aw_sL_n, aw_sL_1, Option.bind_some, aw_chkT, ck_and0, ck_and1, bI_t, bI_f, nar_0, nar_1]
theorem L_sp103G {A : St} {σ : Sg} {d : Dt} {D x o v n : Nat} (hcA : ∀ i, i < 50 → aw_I σ 20 x (nI i)) (hA : RepA A D x d) (hs : ∀ u, u < 47 → A 14 D u < 50) (ho : o ≤ 8) (hv : v ≤ 3) : f_L_spells_J103 σ x (nI o) (nI v) (nI (isl A D)) (nL n) d = some (nL (spV A D o v n), d) := by
  by_cases e : A 12 0 D = 0
  · have h := L_sp127G (m := n) hcA hA hs ho (show 8 + v < 47 by omega)
    unfold spV
    rw [if_pos e]
    have ei : isl A D = 1 := if_pos e
    rw [ei] at h ⊢
    simp (disch := first | assumption | omega) only [f_L_spells_J103, nL_mulL, jl_64, ↓reduceIte, Nat.reduceEqDiff, Nat.one_ne_zero, if_true, if_false, il_0, il_1, il_2, il_3, il_4, il_5, il_6, il_7, il_8, il_9, il_10, il_11, il_12, il_13, il_15, il_16, il_17, il_18, il_19, il_20, il_21, il_22, il_23, il_24, il_26, il_27, il_28, il_30, il_32, il_34, il_36, il_38, il_40, il_43, il_44, il_46, il_47, il_48, il_49, il_50, il_51, il_60, il_64, il_100, il_108, il_111, il_127, il_971, il_972, il_999, il_1000, il_1024, il_1087, il_2500, il_5000, il_9999, il_60000, il_2147483647, nI_add, nI_mulI, nI_subI, nI_divI, nI_cl, nI_leJ, nI_ltJ, nI_eqJ, nI_neM, nI_neM', il_31, aw_sI_e, aw_sI_n, aw_sI_2, aw_sL_e, aw_sL_n, aw_sL_1, Option.bind_some, aw_chkT, ck_and0, ck_and1, bI_t, bI_f, nar_0, nar_1]
    exact h
  · have h := L_sp127G (m := n) hcA hA hs ho (show 4 * o + v < 47 by omega)
    unfold spV
    rw [if_neg e]
    have ei : isl A D = 0 := if_neg e
    rw [ei] at h ⊢
    simp (disch := first | assumption | omega) only [f_L_spells_J103, nL_mulL, jl_64, ↓reduceIte, Nat.reduceEqDiff, Nat.one_ne_zero, if_true, if_false, il_0, il_1, il_2, il_3, il_4, il_5, il_6, il_7, il_8, il_9, il_10, il_11, il_12, il_13, il_15, il_16, il_17, il_18, il_19, il_20, il_21, il_22, il_23, il_24, il_26, il_27, il_28, il_30, il_32, il_34, il_36, il_38, il_40, il_43, il_44, il_46, il_47, il_48, il_49, il_50, il_51, il_60, il_64, il_100, il_108, il_111, il_127, il_971, il_972, il_999, il_1000, il_1024, il_1087, il_2500, il_5000, il_9999, il_60000, il_2147483647, nI_add, nI_mulI, nI_subI, nI_divI, nI_cl, nI_leJ, nI_ltJ, nI_eqJ, nI_neM, nI_neM', il_31, aw_sI_e, aw_sI_n, aw_sI_2, aw_sL_e, aw_sL_n, aw_sL_1, Option.bind_some, aw_chkT, ck_and0, ck_and1, bI_t, bI_f, nar_0, nar_1]
    exact h
theorem L_sp65G {A : St} {σ : Sg} {d : Dt} {D x c o v n : Nat} (hcA : ∀ i, i < 50 → aw_I σ 20 x (nI i)) (hA : RepA A D x d) (hs : ∀ u, u < 47 → A 14 D u < 50) (hm : ∀ t, t < 3 → A 15 D t ≤ 1) (hc : c < 972) (ho : o ≤ 8) (hv : v ≤ 3) : f_L_spells_J65 σ x (nI c) (nI o) (nI v) (nI (isl A D)) (nL n) d = some (nL (spV A D o v (spM A D (ofc c 3) n)), d) := by
  have ht := of3 hc
  have hb := mkB_bit hm (show ofc c 3 < 3 by omega)
  have q1 := hA.2.2.2
  have q2 := hA.1 (44 + ofc c 3) (by omega)
  have s2 := hs (44 + ofc c 3) (by omega)
  have hu : 44 + ofc c 3 < 50 := by omega
  have h1 := hm (ofc c 3) (by omega)
  rcases (show A 15 D (ofc c 3) = 0 ∨ A 15 D (ofc c 3) = 1 by omega) with e | e
  · rw [e] at hb
    have e9 : spM A D (ofc c 3) n = n := if_pos e
    simp (disch := first | assumption | omega) only [f_L_spells_J65, L_of, q1, hb, e9, L_sp103G hcA hA hs ho hv, ↓reduceIte, Nat.reduceEqDiff, Nat.one_ne_zero, if_true, if_false, cap_g hcA, il_0, il_1, il_2, il_3, il_4, il_5, il_6, il_7, il_8, il_9, il_10, il_11, il_12, il_13, il_15, il_16, il_17, il_18, il_19, il_20, il_21, il_22, il_23, il_24, il_26, il_27, il_28, il_30, il_32, il_34, il_36, il_38, il_40, il_43, il_44, il_46, il_47, il_48, il_49, il_50, il_51, il_60, il_64, il_100, il_108, il_111, il_127, il_971, il_972, il_999, il_1000, il_1024, il_1087, il_2500, il_5000, il_9999, il_60000, il_2147483647, nI_add, nI_mulI, nI_subI, nI_divI, nI_cl, nI_leJ, nI_ltJ, nI_eqJ, nI_neM, nI_neM', il_31, aw_sI_e, aw_sI_n, aw_sI_2, aw_sL_e, aw_sL_n, aw_sL_1, Option.bind_some, aw_chkT, ck_and0, ck_and1, bI_t, bI_f, nar_0, nar_1]
  · rw [e] at hb
    have e9 : spM A D (ofc c 3) n = n * 64 + A 14 D (44 + ofc c 3) + 1 := if_neg (by omega)
    simp (disch := first | assumption | omega) only [f_L_spells_J65, L_of, q1, q2, hb, e9, nI_L, nL_addL, nL_mulL, jl_1, jl_64, L_sp103G hcA hA hs ho hv, ↓reduceIte, Nat.reduceEqDiff, Nat.one_ne_zero, if_true, if_false, cap_g hcA, il_0, il_1, il_2, il_3, il_4, il_5, il_6, il_7, il_8, il_9, il_10, il_11, il_12, il_13, il_15, il_16, il_17, il_18, il_19, il_20, il_21, il_22, il_23, il_24, il_26, il_27, il_28, il_30, il_32, il_34, il_36, il_38, il_40, il_43, il_44, il_46, il_47, il_48, il_49, il_50, il_51, il_60, il_64, il_100, il_108, il_111, il_127, il_971, il_972, il_999, il_1000, il_1024, il_1087, il_2500, il_5000, il_9999, il_60000, il_2147483647, nI_add, nI_mulI, nI_subI, nI_divI, nI_cl, nI_leJ, nI_ltJ, nI_eqJ, nI_neM, nI_neM', il_31, aw_sI_e, aw_sI_n, aw_sI_2, aw_sL_e, aw_sL_n, aw_sL_1, Option.bind_some, aw_chkT, ck_and0, ck_and1, bI_t, bI_f, nar_0, nar_1]
theorem L_spellsG {A : St} {σ : Sg} {d : Dt} {D x c : Nat} (hcA : ∀ i, i < 50 → aw_I σ 20 x (nI i)) (hA : RepA A D x d) (hs : ∀ u, u < 47 → A 14 D u < 50) (hm : ∀ t, t < 3 → A 15 D t ≤ 1) (hk : A 12 0 D ≤ 1) (hc : c < 972) : f_L_spells σ x (nI c) d = some (nL (xk (syl A D c)), d) := by
  have b0 := of0 hc
  have b1 := of1 hc
  have b2 := of2 hc
  have q1 := hA.2.1
  have H := fun n => L_sp65G (n := n) hcA hA hs hm hc b0 b1
  rw [xk_syl]
  rcases (show A 12 0 D = 0 ∨ A 12 0 D = 1 by omega) with e | e
  · have ei : isl A D = 1 := if_pos e
    rw [ei] at H
    by_cases e8 : ofc c 2 = 8
    · have e9 : spK A D (ofc c 2) = 0 := if_pos e8
      rw [e9, ← H 0]
      simp (disch := first | assumption | omega) only [f_L_spells, f_L_spells_J31, L_of, q1, e, e8, jl_0, Nat.le_refl, ↓reduceIte, Nat.reduceEqDiff, Nat.one_ne_zero, if_true, if_false, cap_g hcA, il_0, il_1, il_2, il_3, il_4, il_5, il_6, il_7, il_8, il_9, il_10, il_11, il_12, il_13, il_15, il_16, il_17, il_18, il_19, il_20, il_21, il_22, il_23, il_24, il_26, il_27, il_28, il_30, il_32, il_34, il_36, il_38, il_40, il_43, il_44, il_46, il_47, il_48, il_49, il_50, il_51, il_60, il_64, il_100, il_108, il_111, il_127, il_971, il_972, il_999, il_1000, il_1024, il_1087, il_2500, il_5000, il_9999, il_60000, il_2147483647, nI_add, nI_mulI, nI_subI, nI_divI, nI_cl, nI_leJ, nI_ltJ, nI_eqJ, nI_neM, nI_neM', il_31, aw_sI_e, aw_sI_n, aw_sI_2, aw_sL_e, aw_sL_n, aw_sL_1, Option.bind_some, aw_chkT, ck_and0, ck_and1, bI_t, bI_f, nar_0, nar_1]
    · have q2 := hA.1 (ofc c 2) (by omega)
      have s2 := hs (ofc c 2) (by omega)
      have e9 : spK A D (ofc c 2) = A 14 D (ofc c 2) + 1 := by simp only [spK, e8, e, if_true, if_false, Nat.zero_add]
      have e7 : ¬ 8 ≤ ofc c 2 := by omega
      have hu : ofc c 2 < 50 := by omega
      rw [e9, ← H]
      simp (disch := first | assumption | omega) only [f_L_spells, f_L_spells_J31, f_L_spells_J59, L_of, q1, q2, e, e7, nI_L, ↓reduceIte, Nat.reduceEqDiff, Nat.one_ne_zero, if_true, if_false, cap_g hcA, il_0, il_1, il_2, il_3, il_4, il_5, il_6, il_7, il_8, il_9, il_10, il_11, il_12, il_13, il_15, il_16, il_17, il_18, il_19, il_20, il_21, il_22, il_23, il_24, il_26, il_27, il_28, il_30, il_32, il_34, il_36, il_38, il_40, il_43, il_44, il_46, il_47, il_48, il_49, il_50, il_51, il_60, il_64, il_100, il_108, il_111, il_127, il_971, il_972, il_999, il_1000, il_1024, il_1087, il_2500, il_5000, il_9999, il_60000, il_2147483647, nI_add, nI_mulI, nI_subI, nI_divI, nI_cl, nI_leJ, nI_ltJ, nI_eqJ, nI_neM, nI_neM', il_31, aw_sI_e, aw_sI_n, aw_sI_2, aw_sL_e, aw_sL_n, aw_sL_1, Option.bind_some, aw_chkT, ck_and0, ck_and1, bI_t, bI_f, nar_0, nar_1]
  · have ei : isl A D = 0 := if_neg (by omega)
    rw [ei] at H
    by_cases e8 : ofc c 2 = 8
    · have e9 : spK A D (ofc c 2) = 0 := if_pos e8
      rw [e9, ← H 0]
      simp (disch := first | assumption | omega) only [f_L_spells, f_L_spells_J31, L_of, q1, e, e8, jl_0, Nat.le_refl, ↓reduceIte, Nat.reduceEqDiff, Nat.one_ne_zero, if_true, if_false, cap_g hcA, il_0, il_1, il_2, il_3, il_4, il_5, il_6, il_7, il_8, il_9, il_10, il_11, il_12, il_13, il_15, il_16, il_17, il_18, il_19, il_20, il_21, il_22, il_23, il_24, il_26, il_27, il_28, il_30, il_32, il_34, il_36, il_38, il_40, il_43, il_44, il_46, il_47, il_48, il_49, il_50, il_51, il_60, il_64, il_100, il_108, il_111, il_127, il_971, il_972, il_999, il_1000, il_1024, il_1087, il_2500, il_5000, il_9999, il_60000, il_2147483647, nI_add, nI_mulI, nI_subI, nI_divI, nI_cl, nI_leJ, nI_ltJ, nI_eqJ, nI_neM, nI_neM', il_31, aw_sI_e, aw_sI_n, aw_sI_2, aw_sL_e, aw_sL_n, aw_sL_1, Option.bind_some, aw_chkT, ck_and0, ck_and1, bI_t, bI_f, nar_0, nar_1]
    · have q2 := hA.1 (36 + ofc c 2) (by omega)
      have s2 := hs (36 + ofc c 2) (by omega)
      have e9 : spK A D (ofc c 2) = A 14 D (36 + ofc c 2) + 1 := by simp only [spK, e8, e, Nat.one_ne_zero, if_false]
      have e7 : ¬ 8 ≤ ofc c 2 := by omega
      have hu : 36 + ofc c 2 < 50 := by omega
      rw [e9, ← H]
      simp (disch := first | assumption | omega) only [f_L_spells, f_L_spells_J31, f_L_spells_J59, L_of, q1, q2, e, e7, nI_L, ↓reduceIte, Nat.reduceEqDiff, Nat.one_ne_zero, if_true, if_false, cap_g hcA, il_0, il_1, il_2, il_3, il_4, il_5, il_6, il_7, il_8, il_9, il_10, il_11, il_12, il_13, il_15, il_16, il_17, il_18, il_19, il_20, il_21, il_22, il_23, il_24, il_26, il_27, il_28, il_30, il_32, il_34, il_36, il_38, il_40, il_43, il_44, il_46, il_47, il_48, il_49, il_50, il_51, il_60, il_64, il_100, il_108, il_111, il_127, il_971, il_972, il_999, il_1000, il_1024, il_1087, il_2500, il_5000, il_9999, il_60000, il_2147483647, nI_add, nI_mulI, nI_subI, nI_divI, nI_cl, nI_leJ, nI_ltJ, nI_eqJ, nI_neM, nI_neM', il_31, aw_sI_e, aw_sI_n, aw_sI_2, aw_sL_e, aw_sL_n, aw_sL_1, Option.bind_some, aw_chkT, ck_and0, ck_and1, bI_t, bI_f, nar_0, nar_1]
theorem L_signG {σ : Sg} {d : Dt} {x w k : Nat} {l : List Nat} (hcX : ∀ i, i < 12 → aw_I σ 21 x (nI i)) (hw : w < 6) (h : Lx d x w l) (hl : wrd l) (hk : k < 2147483648) : f_L_sign σ x (nI w) (nI k) d = some (atI l k, d) := by
  by_cases e : k ≤ 15
  · obtain ⟨m, m1, m2, m3⟩ := Lx_at h hl (show k < 16 by omega)
    have e1 : k - k / 8 * 8 = k % 8 := by omega
    have e2 : 6 * (k % 8) < 64 := by omega
    have e3 : 2 * w + k / 8 < 12 := by omega
    have e4 : m >>> (6 * (k % 8)) < 9223372036854775808 := by
      rw [Nat.shiftRight_eq_div_pow]
      exact Nat.lt_of_le_of_lt (Nat.div_le_self _ _) (by omega)
    have eA : 6 * (k % 8) &&& 63 = 6 * (k % 8) := (Nat.and_two_pow_sub_one_eq_mod _ 6).trans (Nat.mod_eq_of_lt e2)
    simp (disch := first | assumption | omega) only [f_L_sign, f_L_sign_J35, e, e1, m1, nI_L, jl_63, eA, nL_shrL, nL_andL, m3, nL_toI32, if_true, cap_g hcX, il_0, il_1, il_2, il_3, il_4, il_5, il_6, il_7, il_8, il_9, il_10, il_11, il_12, il_13, il_15, il_16, il_17, il_18, il_19, il_20, il_21, il_22, il_23, il_24, il_26, il_27, il_28, il_30, il_32, il_34, il_36, il_38, il_40, il_43, il_44, il_46, il_47, il_48, il_49, il_50, il_51, il_60, il_64, il_100, il_108, il_111, il_127, il_971, il_972, il_999, il_1000, il_1024, il_1087, il_2500, il_5000, il_9999, il_60000, il_2147483647, nI_add, nI_mulI, nI_subI, nI_divI, nI_cl, nI_leJ, nI_ltJ, nI_eqJ, nI_neM, nI_neM', il_31, aw_sI_e, aw_sI_n, aw_sI_2, aw_sL_e, aw_sL_n, aw_sL_1, Option.bind_some, aw_chkT, ck_and0, ck_and1, bI_t, bI_f, nar_0, nar_1]
    unfold atI
    by_cases e5 : k < l.length
    · have := hl.g k
      rw [if_pos e5, if_pos e5, nI_subI (by omega), Nat.add_sub_cancel]
    · rw [if_neg e5, if_neg e5]; rfl
  · simp (disch := first | assumption | omega) only [f_L_sign, f_L_sign_J35, e, if_false, nno, NO_n, NO_n2, NO_lt, NO_le, NO_lt2, NO_le2, il_0, il_1, il_2, il_3, il_4, il_5, il_6, il_7, il_8, il_9, il_10, il_11, il_12, il_13, il_15, il_16, il_17, il_18, il_19, il_20, il_21, il_22, il_23, il_24, il_26, il_27, il_28, il_30, il_32, il_34, il_36, il_38, il_40, il_43, il_44, il_46, il_47, il_48, il_49, il_50, il_51, il_60, il_64, il_100, il_108, il_111, il_127, il_971, il_972, il_999, il_1000, il_1024, il_1087, il_2500, il_5000, il_9999, il_60000, il_2147483647, nI_add, nI_mulI, nI_subI, nI_divI, nI_cl, nI_leJ, nI_ltJ, nI_eqJ, nI_neM, nI_neM', il_31, aw_sI_e, aw_sI_n, aw_sI_2, aw_sL_e, aw_sL_n, aw_sL_1, Option.bind_some, aw_chkT, ck_and0, ck_and1, bI_t, bI_f, nar_0, nar_1]
    rw [atI, if_neg (by have := hl.1; omega)]
theorem syl63 {A : St} {D c : Nat} (hs : ∀ u, u < 47 → A 14 D u < 50) (hc : c < 972) : ∀ x ∈ syl A D c, x < 63 := fun x hx => by
  obtain ⟨i, hi, rfl⟩ := List.getElem_of_mem hx
  have := syl_lt2 hs hc i
  rw [List.getD_eq_getElem?_getD, List.getElem?_eq_getElem hi] at this
  have h9 : (syl A D c)[i] < 50 := this
  omega
/-- the first i signs of s stand at place k -/
def mtc (l s : List Nat) (k i : Nat) : Bool := !anyR (fun m => !decide (l.getD (k + m) 0 = s.getD m 0)) i
theorem mtc_s (l s : List Nat) (k i : Nat) : mtc l s k (i + 1) = (mtc l s k i && decide (l.getD (k + i) 0 = s.getD i 0)) := by
  unfold mtc
  simp only [anyR]
  cases anyR (fun m => !decide (l.getD (k + m) 0 = s.getD m 0)) i <;> simp
theorem mtc_iff {l s : List Nat} {k : Nat} (h : k + s.length ≤ l.length) : mtc l s k s.length = true ↔ (l.drop k).take s.length = s := by
  unfold mtc
  rw [Bool.not_eq_true', Bool.eq_false_iff, Ne, anyR_iff]
  constructor
  · intro g
    apply List.ext_getElem
    · rw [List.length_take, List.length_drop]; omega
    · intro i h1 h2
      have e : l.getD (k + i) 0 = s.getD i 0 := Classical.byContradiction fun e => g ⟨i, h2, by simp only [decide_eq_false e, Bool.not_false]⟩
      rw [List.getElem_take, List.getElem_drop]
      rw [List.getD_eq_getElem?_getD, List.getD_eq_getElem?_getD, List.getElem?_eq_getElem (by omega), List.getElem?_eq_getElem h2] at e
      exact e
  · rintro g ⟨i, hi, hp⟩
    have e : l.getD (k + i) 0 = s.getD i 0 := by
      have h3 : ((l.drop k).take s.length).getD i 0 = s.getD i 0 := by rw [g]
      rw [getD_take hi, getD_drop] at h3
      exact h3
    rw [decide_eq_true e] at hp
    cases hp
def FR (P R : Nat) (d d' : Dt) : Prop := d'.1 = d.1 ∧ ∀ c, c ≠ P → c ≠ R → d'.2 c = d.2 c
theorem FR.rf {P R : Nat} {d : Dt} : FR P R d d := ⟨rfl, fun _ _ _ => rfl⟩
theorem FR.tr {P R : Nat} {a b c : Dt} (h : FR P R a b) (g : FR P R b c) : FR P R a c := ⟨g.1.trans h.1, fun k h1 h2 => (g.2 k h1 h2).trans (h.2 k h1 h2)⟩
theorem FR.w {P R c j : Nat} {a d : Dt} {v : Int64} (hc : c = P ∨ c = R) (h : FR P R a d) : FR P R a (aw_sL d c j v) := ⟨h.1, fun k h1 h2 => by rw [← h.2 k h1 h2]; funext i; exact aw_sL_n (by omega)⟩
theorem rd_L117 {σ : Sg} {d : Dt} {a x w P R c kk : Nat} {x5 : Int64} {x8 x3 : Int32} {l s : List Nat} (hcX : ∀ i, i < 12 → aw_I σ 21 x (nI i)) (hw : w < 6) (h : Lx d x w l) (hl : wrd l) (hs4 : s.length ≤ 4) (hs : ∀ x ∈ s, x < 63) (hk : kk + s.length ≤ l.length) {k : Int32 → Sg → Dt → Option (Int64 × Dt)} : ∀ (m i f : Nat), i + m = s.length → m + 1 < f → mtc l s kk i = true → f_L_readings_L117 f k a x (nI w) x3 P x5 R x8 (nI c) (nL (xk s)) (nI s.length) (nI kk) (nI 1) (nI i) σ d = k (bI (mtc l s kk s.length)) σ d := by
  have h16 := hl.1
  have hb := xk_lt8 hs (by omega)
  intro m
  induction m with
  | zero =>
    intro i f hi hf hm
    cases f with
    | zero => omega
    | succ f =>
      show f_L_readings_B117 (f_L_readings_L117 f k a x (nI w) x3 P x5 R x8 (nI c) (nL (xk s)) (nI s.length) (nI kk)) k a x (nI w) x3 P x5 R x8 (nI c) (nL (xk s)) (nI s.length) (nI kk) (nI 1) (nI i) σ d = _
      simp (disch := first | assumption | omega) only [f_L_readings_B117, il_0, il_1, il_2, il_3, il_4, il_5, il_6, il_7, il_8, il_9, il_10, il_11, il_12, il_13, il_15, il_16, il_17, il_18, il_19, il_20, il_21, il_22, il_23, il_24, il_26, il_27, il_28, il_30, il_32, il_34, il_36, il_38, il_40, il_43, il_44, il_46, il_47, il_48, il_49, il_50, il_51, il_60, il_64, il_100, il_108, il_111, il_127, il_971, il_972, il_999, il_1000, il_1024, il_1087, il_2500, il_5000, il_9999, il_60000, il_2147483647, nI_add, nI_mulI, nI_subI, nI_divI, nI_cl, nI_leJ, nI_ltJ, nI_eqJ, nI_neM, nI_neM', il_31]
      rw [if_pos (by omega), show s.length = i by omega, hm]; rfl
  | succ m ih =>
    intro i f hi hf hm
    cases f with
    | zero => omega
    | succ f =>
      have q := L_signG (k := kk + i) hcX hw h hl (by omega)
      rw [atI_t (by omega)] at q
      have g0 := hl.g (kk + i)
      have eA : 6 * i &&& 63 = 6 * i := (Nat.and_two_pow_sub_one_eq_mod _ 6).trans (Nat.mod_eq_of_lt (by omega))
      have e6 : 6 * i < 64 := by omega
      have dg : (xk s >>> (6 * i)) &&& 63 = s.getD i 0 + 1 := by
        rw [Nat.and_two_pow_sub_one_eq_mod _ 6, Nat.shiftRight_eq_div_pow, Nat.pow_mul]
        have := xk_dig hs i
        rw [if_pos (by omega)] at this
        exact this
      have g1 : s.getD i 0 < 63 := getD_lt (by omega) hs i
      have hsh : nL (xk s) >>> nL (6 * i) = nL (xk s >>> (6 * i)) := nL_shrL (by omega) e6
      show f_L_readings_B117 (f_L_readings_L117 f k a x (nI w) x3 P x5 R x8 (nI c) (nL (xk s)) (nI s.length) (nI kk)) k a x (nI w) x3 P x5 R x8 (nI c) (nL (xk s)) (nI s.length) (nI kk) (nI 1) (nI i) σ d = _
      generalize xk s = V at *
      simp (disch := first | assumption | omega) only [f_L_readings_B117, q, nI_L, jl_63, nL_andL, eA, hsh, dg, lgc0, nL_eqJ, ↓reduceIte, Nat.reduceEqDiff, Nat.one_ne_zero, if_true, if_false, il_0, il_1, il_2, il_3, il_4, il_5, il_6, il_7, il_8, il_9, il_10, il_11, il_12, il_13, il_15, il_16, il_17, il_18, il_19, il_20, il_21, il_22, il_23, il_24, il_26, il_27, il_28, il_30, il_32, il_34, il_36, il_38, il_40, il_43, il_44, il_46, il_47, il_48, il_49, il_50, il_51, il_60, il_64, il_100, il_108, il_111, il_127, il_971, il_972, il_999, il_1000, il_1024, il_1087, il_2500, il_5000, il_9999, il_60000, il_2147483647, nI_add, nI_mulI, nI_subI, nI_divI, nI_cl, nI_leJ, nI_ltJ, nI_eqJ, nI_neM, nI_neM', il_31, aw_sI_e, aw_sI_n, aw_sI_2, aw_sL_e, aw_sL_n, aw_sL_1, Option.bind_some, aw_chkT, ck_and0, ck_and1, bI_t, bI_f, nar_0, nar_1]
      rw [if_neg (by omega)]
      have en := mtc_s l s kk i
      rw [hm, Bool.true_and] at en
      by_cases e : l.getD (kk + i) 0 = s.getD i 0
      · rw [if_pos (by omega)]
        simp only [f_L_readings_J163, il_1, nI_add]
        exact ih (i + 1) f (by omega) (by omega) (by rw [en]; exact decide_eq_true e)
      · rw [if_neg (by omega)]
        simp only [f_L_readings_J163, il_0, il_1, nI_add]
        have hall : mtc l s kk s.length = false := by
          unfold mtc
          rw [Bool.not_eq_false']
          exact anyR_iff.mpr ⟨i, by omega, by simp only [decide_eq_false e, Bool.not_false]⟩
        rw [hall]
        cases f with
        | zero => omega
        | succ f =>
          show f_L_readings_B117 (f_L_readings_L117 f k a x (nI w) x3 P x5 R x8 (nI c) (nL V) (nI s.length) (nI kk)) k a x (nI w) x3 P x5 R x8 (nI c) (nL V) (nI s.length) (nI kk) (nI 0) (nI (i + 1)) σ d = _
          simp (disch := first | assumption | omega) only [f_L_readings_B117, ↓reduceIte, Nat.reduceEqDiff, Nat.one_ne_zero, if_true, if_false, il_0, il_1, il_2, il_3, il_4, il_5, il_6, il_7, il_8, il_9, il_10, il_11, il_12, il_13, il_15, il_16, il_17, il_18, il_19, il_20, il_21, il_22, il_23, il_24, il_26, il_27, il_28, il_30, il_32, il_34, il_36, il_38, il_40, il_43, il_44, il_46, il_47, il_48, il_49, il_50, il_51, il_60, il_64, il_100, il_108, il_111, il_127, il_971, il_972, il_999, il_1000, il_1024, il_1087, il_2500, il_5000, il_9999, il_60000, il_2147483647, nI_add, nI_mulI, nI_subI, nI_divI, nI_cl, nI_leJ, nI_ltJ, nI_eqJ, nI_neM, nI_neM', il_31]
          split <;> rfl
theorem rd_L117z {σ : Sg} {d : Dt} {a x P R : Nat} {x5 x10 : Int64} {x2 x3 x8 x9 x12 x13 : Int32} {k : Int32 → Sg → Dt → Option (Int64 × Dt)} (f : Nat) : f_L_readings_L117 (f + 1) k a x x2 x3 P x5 R x8 x9 x10 x12 x13 (nI 0) (nI 0) σ d = k (nI 0) σ d := by
  show f_L_readings_B117 (f_L_readings_L117 f k a x x2 x3 P x5 R x8 x9 x10 x12 x13) k a x x2 x3 P x5 R x8 x9 x10 x12 x13 (nI 0) (nI 0) σ d = _
  simp (disch := first | assumption | omega) only [f_L_readings_B117, ↓reduceIte, Nat.reduceEqDiff, Nat.one_ne_zero, if_true, if_false, il_0, il_1, il_2, il_3, il_4, il_5, il_6, il_7, il_8, il_9, il_10, il_11, il_12, il_13, il_15, il_16, il_17, il_18, il_19, il_20, il_21, il_22, il_23, il_24, il_26, il_27, il_28, il_30, il_32, il_34, il_36, il_38, il_40, il_43, il_44, il_46, il_47, il_48, il_49, il_50, il_51, il_60, il_64, il_100, il_108, il_111, il_127, il_971, il_972, il_999, il_1000, il_1024, il_1087, il_2500, il_5000, il_9999, il_60000, il_2147483647, nI_add, nI_mulI, nI_subI, nI_divI, nI_cl, nI_leJ, nI_ltJ, nI_eqJ, nI_neM, nI_neM', il_31]
  split <;> rfl
/-- what a row of the law's readings holds -/
def RN (d : Dt) (c n : Nat) (g : Nat → Nat) : Prop := ∀ e, e ≤ n → d.2 c e = nL (g e)
theorem cT_0 {A : St} {D : Nat} {l : List Nat} {F : Nat → Nat} {k c : Nat} (h : l.length < k + (syl A D c).length) : cT A D l F k c = 0 := by
  unfold cT
  rw [if_neg]
  intro g
  have := congrArg List.length g
  rw [List.length_take, List.length_drop] at this
  have := syl_len A D c
  omega
theorem rd_L85 {A : St} {σ : Sg} {d0 : Dt} {D a x w P R c : Nat} {x5 : Int64} {x8 : Int32} {l : List Nat} {F G : Nat → Nat} {Q : Int64 × Dt → Prop} {k : Sg → Dt → Option (Int64 × Dt)} (hcX : ∀ i, i < 12 → aw_I σ 21 x (nI i)) (hcP : ∀ i, i < 64 → aw_I σ 21 P (nI i)) (hcR : ∀ i, i < 64 → aw_I σ 21 R (nI i)) (hPR : P ≠ R) (hxP : x ≠ P) (hxR : x ≠ R) (hw : w < 6) (h0 : Lx d0 x w l) (hl : wrd l) (hs : ∀ u, u < 47 → A 14 D u < 50) (hc : c < 972) (hF : ∀ e, e ≤ l.length → F e < 9223372036854775808) (hP0 : RN d0 P l.length F) (hk : ∀ d, RN d R l.length (fun e => G e + cT A D l F e c) → FR P R d0 d → d.2 P = d0.2 P → ok (k σ d) Q) : ∀ (m i f : Nat) (d : Dt), i + m = l.length + 1 - (syl A D c).length → m < f → RN d R l.length (fun e => G e + if e < i then cT A D l F e c else 0) → FR P R d0 d → d.2 P = d0.2 P → ok (f_L_readings_L85 f k a x (nI w) (nI l.length) P x5 R x8 (nI c) (nL (xk (syl A D c))) (nI (syl A D c).length) (nI i) σ d) Q := by
  have h16 := hl.1
  have hsl := syl_len A D c
  have hs63 := syl63 (D := D) hs hc
  intro m
  induction m with
  | zero =>
    intro i f d hi hf g1 g2 g3
    cases f with
    | zero => omega
    | succ f =>
      show ok (f_L_readings_B85 (f_L_readings_L85 f k a x (nI w) (nI l.length) P x5 R x8 (nI c) (nL (xk (syl A D c))) (nI (syl A D c).length)) k a x (nI w) (nI l.length) P x5 R x8 (nI c) (nL (xk (syl A D c))) (nI (syl A D c).length) (nI i) σ d) Q
      simp (disch := first | assumption | omega) only [f_L_readings_B85, il_0, il_1, il_2, il_3, il_4, il_5, il_6, il_7, il_8, il_9, il_10, il_11, il_12, il_13, il_15, il_16, il_17, il_18, il_19, il_20, il_21, il_22, il_23, il_24, il_26, il_27, il_28, il_30, il_32, il_34, il_36, il_38, il_40, il_43, il_44, il_46, il_47, il_48, il_49, il_50, il_51, il_60, il_64, il_100, il_108, il_111, il_127, il_971, il_972, il_999, il_1000, il_1024, il_1087, il_2500, il_5000, il_9999, il_60000, il_2147483647, nI_add, nI_mulI, nI_subI, nI_divI, nI_cl, nI_leJ, nI_ltJ, nI_eqJ, nI_neM, nI_neM', il_31]
      rw [if_pos (by omega)]
      refine hk d (fun e he => ?_) g2 g3
      rw [g1 e he]
      dsimp only
      by_cases e1 : e < i
      · rw [if_pos e1]
      · rw [if_neg e1, cT_0 (by omega)]
  | succ m ih =>
    intro i f d hi hf g1 g2 g3
    cases f with
    | zero => omega
    | succ f =>
      have hle : i + (syl A D c).length ≤ l.length := by omega
      have qP : d.2 P (i + (syl A D c).length) = nL (F (i + (syl A D c).length)) := by rw [g3]; exact hP0 _ hle
      have qR : d.2 R i = nL (G i) := by have := g1 i (by omega); dsimp only at this; rw [if_neg (by omega), Nat.add_zero] at this; exact this
      have hFb := hF _ hle
      have hL : Lx d x w l := h0.e (g2.2 x hxP hxR)
      have IH : ∀ v, v = G i + cT A D l F i c → ok (f_L_readings_L85 f k a x (nI w) (nI l.length) P x5 R x8 (nI c) (nL (xk (syl A D c))) (nI (syl A D c).length) (nI (i + 1)) σ (aw_sL d R i (nL v))) Q := fun v hv => by
        refine ih (i + 1) f _ (by omega) (by omega) (fun e he => ?_) (g2.w (Or.inr rfl)) (by rw [← g3]; funext j; exact aw_sL_n (by omega))
        by_cases e1 : e = i
        · subst e1; rw [aw_sL_e rfl rfl, hv]; dsimp only; rw [if_pos (by omega)]
        · rw [aw_sL_n (by omega), g1 e he]
          dsimp only
          by_cases e2 : e < i
          · rw [if_pos e2, if_pos (by omega)]
          · rw [if_neg e2, if_neg (by omega)]
      have hJ : ∀ (b : Bool), (b = true → (l.drop i).take (syl A D c).length = syl A D c ∨ F (i + (syl A D c).length) = 0) → (b = false → F (i + (syl A D c).length) = 0 ∨ (l.drop i).take (syl A D c).length ≠ syl A D c) → ok (f_L_readings_J171 (f_L_readings_L85 f k a x (nI w) (nI l.length) P x5 R x8 (nI c) (nL (xk (syl A D c))) (nI (syl A D c).length)) a x (nI w) (nI l.length) P x5 R x8 (nI c) (nL (xk (syl A D c))) (nI (syl A D c).length) (nI i) (bI b) σ d) Q := by
        intro b hb1 hb2
        have hi64 : i < 64 := by omega
        have hi64' : i + (syl A D c).length < 64 := by omega
        unfold f_L_readings_J171
        refine ok_chk (hcR i hi64) ?_
        cases b
        · rw [if_pos (show bI false = 0 from rfl)]
          unfold f_L_readings_J194
          refine ok_chk (hcR i hi64) ?_
          simp (disch := first | assumption | omega) only [qR, jl_0, nL_addL, Nat.add_zero, il_0, il_1, il_2, il_3, il_4, il_5, il_6, il_7, il_8, il_9, il_10, il_11, il_12, il_13, il_15, il_16, il_17, il_18, il_19, il_20, il_21, il_22, il_23, il_24, il_26, il_27, il_28, il_30, il_32, il_34, il_36, il_38, il_40, il_43, il_44, il_46, il_47, il_48, il_49, il_50, il_51, il_60, il_64, il_100, il_108, il_111, il_127, il_971, il_972, il_999, il_1000, il_1024, il_1087, il_2500, il_5000, il_9999, il_60000, il_2147483647, nI_add, nI_mulI, nI_subI, nI_divI, nI_cl, nI_leJ, nI_ltJ, nI_eqJ, nI_neM, nI_neM', il_31]
          refine IH _ ?_
          have : cT A D l F i c = 0 := by
            unfold cT
            split
            · exact (hb2 rfl).resolve_right (fun h => h (by assumption))
            · rfl
          omega
        · rw [if_neg (show ¬ bI true = 0 by decide)]
          unfold f_L_readings_J194
          simp (disch := first | assumption | omega) only [cap_g hcP, cap_g hcR, qP, qR, nL_addL, il_0, il_1, il_2, il_3, il_4, il_5, il_6, il_7, il_8, il_9, il_10, il_11, il_12, il_13, il_15, il_16, il_17, il_18, il_19, il_20, il_21, il_22, il_23, il_24, il_26, il_27, il_28, il_30, il_32, il_34, il_36, il_38, il_40, il_43, il_44, il_46, il_47, il_48, il_49, il_50, il_51, il_60, il_64, il_100, il_108, il_111, il_127, il_971, il_972, il_999, il_1000, il_1024, il_1087, il_2500, il_5000, il_9999, il_60000, il_2147483647, nI_add, nI_mulI, nI_subI, nI_divI, nI_cl, nI_leJ, nI_ltJ, nI_eqJ, nI_neM, nI_neM', il_31]
          refine IH _ ?_
          have : cT A D l F i c = F (i + (syl A D c).length) := by
            unfold cT
            split
            · rfl
            · rcases hb1 rfl with h | h
              · exact absurd h (by assumption)
              · rw [h]
          omega
      show ok (f_L_readings_B85 (f_L_readings_L85 f k a x (nI w) (nI l.length) P x5 R x8 (nI c) (nL (xk (syl A D c))) (nI (syl A D c).length)) k a x (nI w) (nI l.length) P x5 R x8 (nI c) (nL (xk (syl A D c))) (nI (syl A D c).length) (nI i) σ d) Q
      have hi64' : i + (syl A D c).length < 64 := by omega
      simp (disch := first | assumption | omega) only [f_L_readings_B85, cap_g hcP, qP, jl_0, lgcz, il_0, il_1, il_2, il_3, il_4, il_5, il_6, il_7, il_8, il_9, il_10, il_11, il_12, il_13, il_15, il_16, il_17, il_18, il_19, il_20, il_21, il_22, il_23, il_24, il_26, il_27, il_28, il_30, il_32, il_34, il_36, il_38, il_40, il_43, il_44, il_46, il_47, il_48, il_49, il_50, il_51, il_60, il_64, il_100, il_108, il_111, il_127, il_971, il_972, il_999, il_1000, il_1024, il_1087, il_2500, il_5000, il_9999, il_60000, il_2147483647, nI_add, nI_mulI, nI_subI, nI_divI, nI_cl, nI_leJ, nI_ltJ, nI_eqJ, nI_neM, nI_neM', il_31]
      rw [if_neg (by omega)]
      by_cases e0 : F (i + (syl A D c).length) = 0
      · rw [if_pos e0]
        unfold f_L_readings_J112
        rw [il_0, FU1, rd_L117z]
        exact hJ false (fun h => by cases h) (fun _ => Or.inl e0)
      · rw [if_neg e0]
        unfold f_L_readings_J112
        rw [il_0, rd_L117 (s := syl A D c) hcX hw hL hl hsl.2 hs63 hle (syl A D c).length 0 aw_FU (by omega) (by show _ < 5000; omega) rfl]
        refine hJ _ (fun h => Or.inl ((mtc_iff hle).mp h)) (fun h => Or.inr (fun g => ?_))
        rw [(mtc_iff hle).mpr g] at h; cases h
theorem rd_L59 {A : St} {σ : Sg} {d0 : Dt} {D a x w P R : Nat} {x5 : Int64} {x8 : Int32} {l : List Nat} {F : Nat → Nat} {Q : Int64 × Dt → Prop} {k : Sg → Dt → Option (Int64 × Dt)} (hcA : ∀ i, i < 50 → aw_I σ 20 a (nI i)) (hcX : ∀ i, i < 12 → aw_I σ 21 x (nI i)) (hcP : ∀ i, i < 64 → aw_I σ 21 P (nI i)) (hcR : ∀ i, i < 64 → aw_I σ 21 R (nI i)) (hPR : P ≠ R) (hxP : x ≠ P) (hxR : x ≠ R) (hw : w < 6) (h0 : Lx d0 x w l) (hl : wrd l) (hA : RepA A D a d0) (hs : ∀ u, u < 47 → A 14 D u < 50) (hm : ∀ t, t < 3 → A 15 D t ≤ 1) (hk12 : A 12 0 D ≤ 1) (hF : ∀ e, e ≤ l.length → F e < 9223372036854775808) (hP0 : RN d0 P l.length F) (hk : ∀ d, RN d R l.length (fun e => sumR (cT A D l F e) 972) → FR P R d0 d → d.2 P = d0.2 P → ok (k σ d) Q) : ∀ (m i f : Nat) (d : Dt), i + m = 972 → m < f → RN d R l.length (fun e => sumR (cT A D l F e) i) → FR P R d0 d → d.2 P = d0.2 P → ok (f_L_readings_L59 f k a x (nI w) (nI l.length) P x5 R x8 (nI i) σ d) Q := by
  have h16 := hl.1
  intro m
  induction m with
  | zero =>
    intro i f d hi hf g1 g2 g3
    cases f with
    | zero => omega
    | succ f =>
      show ok (f_L_readings_B59 (f_L_readings_L59 f k a x (nI w) (nI l.length) P x5 R x8) k a x (nI w) (nI l.length) P x5 R x8 (nI i) σ d) Q
      simp (disch := first | assumption | omega) only [f_L_readings_B59, il_0, il_1, il_2, il_3, il_4, il_5, il_6, il_7, il_8, il_9, il_10, il_11, il_12, il_13, il_15, il_16, il_17, il_18, il_19, il_20, il_21, il_22, il_23, il_24, il_26, il_27, il_28, il_30, il_32, il_34, il_36, il_38, il_40, il_43, il_44, il_46, il_47, il_48, il_49, il_50, il_51, il_60, il_64, il_100, il_108, il_111, il_127, il_971, il_972, il_999, il_1000, il_1024, il_1087, il_2500, il_5000, il_9999, il_60000, il_2147483647, nI_add, nI_mulI, nI_subI, nI_divI, nI_cl, nI_leJ, nI_ltJ, nI_eqJ, nI_neM, nI_neM', il_31]
      rw [if_pos (by omega)]
      obtain rfl : i = 972 := by omega
      exact hk d g1 g2 g3
  | succ m ih =>
    intro i f d hi hf g1 g2 g3
    cases f with
    | zero => omega
    | succ f =>
      have hc : i < 972 := by omega
      have hsl := syl_len A D i
      have hs63 := syl63 (D := D) hs hc
      have hb := xk_lt8 hs63 (by omega)
      have q1 := L_spellsG (c := i) hcA (hA.e g2.1) hs hm hk12 hc
      have q2 := L_signs (σ := σ) (d := d) (l := syl A D i) (by omega) hs63
      show ok (f_L_readings_B59 (f_L_readings_L59 f k a x (nI w) (nI l.length) P x5 R x8) k a x (nI w) (nI l.length) P x5 R x8 (nI i) σ d) Q
      unfold f_L_readings_B59
      rw [if_neg (by rw [il_972, nI_leJ (by omega) (by omega)]; omega)]
      refine ok_bs q1 (ok_bs q2 ?_)
      have hP1 : RN d P l.length F := fun e he => by rw [g3]; exact hP0 e he
      show ok (f_L_readings_L85 aw_FU (fun σ_47 d_46 => f_L_readings_L59 f k a x (nI w) (nI l.length) P x5 R x8 (nI i + 1) σ_47 d_46) a x (nI w) (nI l.length) P x5 R x8 (nI i) (nL (xk (syl A D i))) (nI (syl A D i).length) (nI 0) σ d) Q
      refine rd_L85 (d0 := d) (G := fun e => sumR (cT A D l F e) i) hcX hcP hcR hPR hxP hxR hw (h0.e (g2.2 x hxP hxR)) hl hs hc hF hP1 (fun d' a1 a2 a3 => ?_) (l.length + 1 - (syl A D i).length) 0 aw_FU d (by omega) (by show _ < 5000; omega) (fun e he => by dsimp only; rw [if_neg (by omega)]; exact g1 e he) FR.rf rfl
      rw [il_1, nI_add]
      exact ih (i + 1) f d' (by omega) (by omega) a1 (g2.tr a2) (a3.trans g3)
theorem rd_L38 {σ : Sg} {d0 : Dt} {a x P R n : Nat} {x5 : Int64} {x2 x8 : Int32} {Q : Int64 × Dt → Prop} {k : Sg → Dt → Option (Int64 × Dt)} (hcR : ∀ i, i < 64 → aw_I σ 21 R (nI i)) (hPR : P ≠ R) (hn : n ≤ 16) (hk : ∀ d, RN d R n (fun _ => 0) → FR P R d0 d → d.2 P = d0.2 P → ok (k σ d) Q) : ∀ (m i f : Nat) (d : Dt), i + m = n + 1 → m < f → (∀ e, e < i → d.2 R e = nL 0) → FR P R d0 d → d.2 P = d0.2 P → ok (f_L_readings_L38 f k a x x2 (nI n) P x5 R x8 (nI i) σ d) Q := by
  intro m
  induction m with
  | zero =>
    intro i f d hi hf g1 g2 g3
    cases f with
    | zero => omega
    | succ f =>
      show ok (f_L_readings_B38 (f_L_readings_L38 f k a x x2 (nI n) P x5 R x8) k a x x2 (nI n) P x5 R x8 (nI i) σ d) Q
      simp (disch := first | assumption | omega) only [f_L_readings_B38, il_0, il_1, il_2, il_3, il_4, il_5, il_6, il_7, il_8, il_9, il_10, il_11, il_12, il_13, il_15, il_16, il_17, il_18, il_19, il_20, il_21, il_22, il_23, il_24, il_26, il_27, il_28, il_30, il_32, il_34, il_36, il_38, il_40, il_43, il_44, il_46, il_47, il_48, il_49, il_50, il_51, il_60, il_64, il_100, il_108, il_111, il_127, il_971, il_972, il_999, il_1000, il_1024, il_1087, il_2500, il_5000, il_9999, il_60000, il_2147483647, nI_add, nI_mulI, nI_subI, nI_divI, nI_cl, nI_leJ, nI_ltJ, nI_eqJ, nI_neM, nI_neM', il_31]
      rw [if_pos (by omega)]
      exact hk d (fun e he => g1 e (by omega)) g2 g3
  | succ m ih =>
    intro i f d hi hf g1 g2 g3
    cases f with
    | zero => omega
    | succ f =>
      have hi64 : i < 64 := by omega
      show ok (f_L_readings_B38 (f_L_readings_L38 f k a x x2 (nI n) P x5 R x8) k a x x2 (nI n) P x5 R x8 (nI i) σ d) Q
      simp (disch := first | assumption | omega) only [f_L_readings_B38, cap_g hcR, jl_0, il_0, il_1, il_2, il_3, il_4, il_5, il_6, il_7, il_8, il_9, il_10, il_11, il_12, il_13, il_15, il_16, il_17, il_18, il_19, il_20, il_21, il_22, il_23, il_24, il_26, il_27, il_28, il_30, il_32, il_34, il_36, il_38, il_40, il_43, il_44, il_46, il_47, il_48, il_49, il_50, il_51, il_60, il_64, il_100, il_108, il_111, il_127, il_971, il_972, il_999, il_1000, il_1024, il_1087, il_2500, il_5000, il_9999, il_60000, il_2147483647, nI_add, nI_mulI, nI_subI, nI_divI, nI_cl, nI_leJ, nI_ltJ, nI_eqJ, nI_neM, nI_neM', il_31]
      rw [if_neg (by omega)]
      refine ih (i + 1) f _ (by omega) (by omega) (fun e he => ?_) (g2.w (Or.inr rfl)) (by rw [← g3]; funext j; exact aw_sL_n (by omega))
      by_cases e1 : e = i
      · exact aw_sL_e rfl e1
      · rw [aw_sL_n (by omega)]; exact g1 e (by omega)
theorem rd_L211 {σ : Sg} {d0 : Dt} {a x P R n : Nat} {x5 : Int64} {x2 x8 : Int32} {G : Nat → Nat} {Q : Int64 × Dt → Prop} {k : Sg → Dt → Option (Int64 × Dt)} (hcP : ∀ i, i < 64 → aw_I σ 21 P (nI i)) (hcR : ∀ i, i < 64 → aw_I σ 21 R (nI i)) (hPR : P ≠ R) (hn : n ≤ 16) (hG : RN d0 R n G) (hk : ∀ d, RN d P n G → FR P R d0 d → ok (k σ d) Q) : ∀ (m i f : Nat) (d : Dt), i + m = n + 1 → m < f → (∀ e, e < i → d.2 P e = nL (G e)) → FR P R d0 d → d.2 R = d0.2 R → ok (f_L_readings_L211 f k a x x2 (nI n) P x5 R x8 (nI i) σ d) Q := by
  intro m
  induction m with
  | zero =>
    intro i f d hi hf g1 g2 g3
    cases f with
    | zero => omega
    | succ f =>
      show ok (f_L_readings_B211 (f_L_readings_L211 f k a x x2 (nI n) P x5 R x8) k a x x2 (nI n) P x5 R x8 (nI i) σ d) Q
      simp (disch := first | assumption | omega) only [f_L_readings_B211, il_0, il_1, il_2, il_3, il_4, il_5, il_6, il_7, il_8, il_9, il_10, il_11, il_12, il_13, il_15, il_16, il_17, il_18, il_19, il_20, il_21, il_22, il_23, il_24, il_26, il_27, il_28, il_30, il_32, il_34, il_36, il_38, il_40, il_43, il_44, il_46, il_47, il_48, il_49, il_50, il_51, il_60, il_64, il_100, il_108, il_111, il_127, il_971, il_972, il_999, il_1000, il_1024, il_1087, il_2500, il_5000, il_9999, il_60000, il_2147483647, nI_add, nI_mulI, nI_subI, nI_divI, nI_cl, nI_leJ, nI_ltJ, nI_eqJ, nI_neM, nI_neM', il_31]
      rw [if_pos (by omega)]
      exact hk d (fun e he => g1 e (by omega)) g2
  | succ m ih =>
    intro i f d hi hf g1 g2 g3
    cases f with
    | zero => omega
    | succ f =>
      have hi64 : i < 64 := by omega
      have q : d.2 R i = nL (G i) := by rw [g3]; exact hG i (by omega)
      show ok (f_L_readings_B211 (f_L_readings_L211 f k a x x2 (nI n) P x5 R x8) k a x x2 (nI n) P x5 R x8 (nI i) σ d) Q
      simp (disch := first | assumption | omega) only [f_L_readings_B211, cap_g hcR, cap_g hcP, q, il_0, il_1, il_2, il_3, il_4, il_5, il_6, il_7, il_8, il_9, il_10, il_11, il_12, il_13, il_15, il_16, il_17, il_18, il_19, il_20, il_21, il_22, il_23, il_24, il_26, il_27, il_28, il_30, il_32, il_34, il_36, il_38, il_40, il_43, il_44, il_46, il_47, il_48, il_49, il_50, il_51, il_60, il_64, il_100, il_108, il_111, il_127, il_971, il_972, il_999, il_1000, il_1024, il_1087, il_2500, il_5000, il_9999, il_60000, il_2147483647, nI_add, nI_mulI, nI_subI, nI_divI, nI_cl, nI_leJ, nI_ltJ, nI_eqJ, nI_neM, nI_neM', il_31]
      rw [if_neg (by omega)]
      refine ih (i + 1) f _ (by omega) (by omega) (fun e he => ?_) (g2.w (Or.inl rfl)) (by rw [← g3]; funext j; exact aw_sL_n (by omega))
      by_cases e1 : e = i
      · subst e1; exact aw_sL_e rfl rfl
      · rw [aw_sL_n (by omega)]; exact g1 e (by omega)
theorem rd_L29 {A : St} {σ : Sg} {d0 : Dt} {D a x w P R : Nat} {l : List Nat} {Q : Int64 × Dt → Prop} {k : Int64 → Sg → Dt → Option (Int64 × Dt)} (hcA : ∀ i, i < 50 → aw_I σ 20 a (nI i)) (hcX : ∀ i, i < 12 → aw_I σ 21 x (nI i)) (hcP : ∀ i, i < 64 → aw_I σ 21 P (nI i)) (hcR : ∀ i, i < 64 → aw_I σ 21 R (nI i)) (hPR : P ≠ R) (hxP : x ≠ P) (hxR : x ≠ R) (hw : w < 6) (h0 : Lx d0 x w l) (hl : wrd l) (hA : RepA A D a d0) (hs : ∀ u, u < 47 → A 14 D u < 50) (hm : ∀ t, t < 3 → A 15 D t ≤ 1) (hk12 : A 12 0 D ≤ 1) (hk : ∀ d, FR P R d0 d → ok (k (nL (rdS A D l)) σ d) Q) : ∀ (m i f : Nat) (d : Dt), i + m = 4 → m < f → RN d P l.length (bkF A D l i) → FR P R d0 d → ok (f_L_readings_L29 f k a x (nI w) (nI l.length) P R (nL (sumR (fun n => bkF A D l (n + 1) 0) i)) (nI i) σ d) Q := by
  have h16 := hl.1
  intro m
  induction m with
  | zero =>
    intro i f d hi hf g1 g2
    cases f with
    | zero => omega
    | succ f =>
      show ok (f_L_readings_B29 (f_L_readings_L29 f k a x (nI w) (nI l.length) P R) k a x (nI w) (nI l.length) P R (nL (sumR (fun n => bkF A D l (n + 1) 0) i)) (nI i) σ d) Q
      simp (disch := first | assumption | omega) only [f_L_readings_B29, il_0, il_1, il_2, il_3, il_4, il_5, il_6, il_7, il_8, il_9, il_10, il_11, il_12, il_13, il_15, il_16, il_17, il_18, il_19, il_20, il_21, il_22, il_23, il_24, il_26, il_27, il_28, il_30, il_32, il_34, il_36, il_38, il_40, il_43, il_44, il_46, il_47, il_48, il_49, il_50, il_51, il_60, il_64, il_100, il_108, il_111, il_127, il_971, il_972, il_999, il_1000, il_1024, il_1087, il_2500, il_5000, il_9999, il_60000, il_2147483647, nI_add, nI_mulI, nI_subI, nI_divI, nI_cl, nI_leJ, nI_ltJ, nI_eqJ, nI_neM, nI_neM', il_31]
      rw [if_pos (by omega)]
      obtain rfl : i = 4 := by omega
      rw [rdS_bk]
      exact hk d g2
  | succ m ih =>
    intro i f d hi hf g1 g2
    cases f with
    | zero => omega
    | succ f =>
      have hF : ∀ e, e ≤ l.length → bkF A D l i e < 9223372036854775808 := fun e he => by
        have h1 := bk_le A D l i e he
        have h2 : (972 : Nat) ^ i ≤ 972 ^ 3 := Nat.pow_le_pow_right (by omega) (by omega)
        exact Nat.lt_of_le_of_lt (Nat.le_trans h1 h2) (by decide)
      show ok (f_L_readings_B29 (f_L_readings_L29 f k a x (nI w) (nI l.length) P R) k a x (nI w) (nI l.length) P R (nL (sumR (fun n => bkF A D l (n + 1) 0) i)) (nI i) σ d) Q
      unfold f_L_readings_B29
      rw [if_neg (by rw [il_4, nI_leJ (by omega) (by omega)]; omega)]
      show ok (f_L_readings_L38 aw_FU _ a x (nI w) (nI l.length) P (nL (sumR (fun n => bkF A D l (n + 1) 0) i)) R (nI i) (nI 0) σ d) Q
      refine rd_L38 (d0 := d) hcR hPR h16 (fun d1 a1 a2 a3 => ?_) (l.length + 1) 0 aw_FU d (by omega) (by show _ < 5000; omega) (fun e he => by omega) FR.rf rfl
      show ok (f_L_readings_L59 aw_FU _ a x (nI w) (nI l.length) P (nL (sumR (fun n => bkF A D l (n + 1) 0) i)) R (nI i) (nI 0) σ d1) Q
      have F1 := g2.tr a2
      refine rd_L59 (d0 := d1) (F := bkF A D l i) hcA hcX hcP hcR hPR hxP hxR hw (h0.e (F1.2 x hxP hxR)) hl (hA.e F1.1) hs hm hk12 hF (fun e he => by rw [a3]; exact g1 e he) (fun d2 b1 b2 b3 => ?_) 972 0 aw_FU d1 (by omega) (by show _ < 5000; omega) a1 FR.rf rfl
      have F2 := F1.tr b2
      show ok (f_L_readings_L211 aw_FU _ a x (nI w) (nI l.length) P (nL (sumR (fun n => bkF A D l (n + 1) 0) i)) R (nI i) (nI 0) σ d2) Q
      have b1' : RN d2 R l.length (bkF A D l (i + 1)) := fun e he => by rw [b1 e he]; dsimp only; rw [bk_cT A D l i he]
      refine rd_L211 (d0 := d2) (G := bkF A D l (i + 1)) hcP hcR hPR h16 b1' (fun d3 c1 c2 => ?_) (l.length + 1) 0 aw_FU d2 (by omega) (by show _ < 5000; omega) (fun e he => by omega) FR.rf rfl
      have q := c1 0 (Nat.zero_le _)
      have h064 : 0 < 64 := by omega
      simp (disch := first | assumption | omega) only [cap_g hcP, q, nL_addL, il_0, il_1, il_2, il_3, il_4, il_5, il_6, il_7, il_8, il_9, il_10, il_11, il_12, il_13, il_15, il_16, il_17, il_18, il_19, il_20, il_21, il_22, il_23, il_24, il_26, il_27, il_28, il_30, il_32, il_34, il_36, il_38, il_40, il_43, il_44, il_46, il_47, il_48, il_49, il_50, il_51, il_60, il_64, il_100, il_108, il_111, il_127, il_971, il_972, il_999, il_1000, il_1024, il_1087, il_2500, il_5000, il_9999, il_60000, il_2147483647, nI_add, nI_mulI, nI_subI, nI_divI, nI_cl, nI_leJ, nI_ltJ, nI_eqJ, nI_neM, nI_neM', il_31, aw_sI_e, aw_sI_n, aw_sI_2, aw_sL_e, aw_sL_n, aw_sL_1, Option.bind_some, aw_chkT, ck_and0, ck_and1, bI_t, bI_f, nar_0, nar_1]
      exact ih (i + 1) f d3 (by omega) (by omega) c1 (F2.tr c2)
theorem L_readings {A : St} {σ : Sg} {d : Dt} {D a x w : Nat} (hS : Lay σ) (hW : WF A) (h6 : A 2 0 0 ≤ 6) (hD : D < A 11 0 0) (ha : a = 268 ∨ a = 269) (hA : RepA A D a d) (hx : x = 275 ∨ x = 276) (hsp : Spx A D (A 13 0 D) x d) (hw : w < A 2 0 0) : ok (f_L_readings σ a x (nI w) d) (fun z => z.1 = nL (rdS A D (own A D w)) ∧ (∀ c, z.2.1 c = (if c < σ.1 then d.1 c else fun _ => 0)) ∧ ∀ c, c < σ.1 → z.2.2 c = d.2 c) := by
  have hwr := own_wrd hW hD hw
  have h16 := hwr.1
  have hG := hW.G hD
  have hsz := hS.sz
  have hL := hsp w hw
  unfold f_L_readings
  refine ok_bs (L_many hS hx (show w < 6 by omega) hL hwr) ?_
  have el : (sp A D (A 13 0 D) w).length = (own A D w).length := rfl
  show ok (aw_chk (a < σ.1) _) _
  rw [el]
  refine ok_chk (by omega) (ok_chk (by omega) ?_)
  unfold aw_new
  have kA : ∀ i, i < 50 → aw_I σ 20 a (nI i) := fun i hi => by rcases ha with rfl | rfl <;> exact ly_I hS (by decide) (by decide) hi (by decide)
  have kX : ∀ i, i < 12 → aw_I σ 21 x (nI i) := fun i hi => by rcases hx with rfl | rfl <;> exact ly_I hS (by decide) (by decide) hi (by decide)
  have up : ∀ (τ : Sg) (t c N : Nat) (t9 N9 : Nat), c < τ.1 → (∀ i, i < N → aw_I τ t c (nI i)) → ∀ i, i < N → aw_I (aw_nw τ t9 N9) t c (nI i) := fun τ t c N t9 N9 hc h i hi => by
    obtain ⟨h1, h2, h3⟩ := h i hi
    have e : (aw_nw τ t9 N9).2.1 c = τ.2.1 c := by simp [aw_nw, Nat.ne_of_lt hc]
    exact ⟨Nat.lt_succ_of_lt h1, by rw [e]; exact h2, by rw [e]; exact h3⟩
  have nw : ∀ (τ : Sg) (N : Nat), N < 5000 → ∀ i, i < N → aw_I (aw_nw τ 21 N) 21 τ.1 (nI i) := fun τ N hN i hi => by
    have e : (aw_nw τ 21 N).2.1 τ.1 = (21, N) := by simp [aw_nw]
    refine ⟨Nat.lt_succ_self _, by rw [e], ?_⟩
    rw [e]
    exact nI_in hi (by show N < 2 ^ 31; omega)
  have e1 : (aw_nw σ 21 64).1 = σ.1 + 1 := rfl
  have kA1 := up σ 20 a 50 21 64 (by omega) kA
  have kX1 := up σ 21 x 12 21 64 (by omega) kX
  have kP1 := nw σ 64 (by omega)
  have kA2 := up (aw_nw σ 21 64) 20 a 50 21 64 (by rw [e1]; omega) kA1
  have kX2 := up (aw_nw σ 21 64) 21 x 12 21 64 (by rw [e1]; omega) kX1
  have kP2 := up (aw_nw σ 21 64) 21 σ.1 64 21 64 (by rw [e1]; omega) kP1
  have kR2 := nw (aw_nw σ 21 64) 64 (by omega)
  rw [e1] at kR2
  refine ok_chk (kP1 _ (by omega)) (ok_chk (by rw [e1]; omega) (ok_chk (by rw [e1]; omega) (ok_chk (by rw [e1]; omega) ?_)))
  dsimp only
  rw [e1, nI_cl (show (own A D w).length < 2147483648 by omega)]
  generalize hdd : aw_zd (aw_nw σ 21 64) (aw_sL (aw_zd σ d) σ.1 (own A D w).length (1 : Int64)) = dd
  have z1 : ∀ c, dd.1 c = (if c < σ.1 then d.1 c else fun _ => 0) := fun c => by
    rw [← hdd]
    funext j
    show (if (aw_nw σ 21 64).1 ≤ c then 0 else if σ.1 ≤ c then 0 else d.1 c j) = _
    rw [e1]
    by_cases h : c < σ.1
    · rw [if_neg (by omega), if_neg (by omega), if_pos h]
    · rw [if_neg h]; split
      · rfl
      · rw [if_pos (by omega)]
  have z2 : ∀ c, c < σ.1 → dd.2 c = d.2 c := fun c hc => by
    rw [← hdd]
    funext j
    show (if (aw_nw σ 21 64).1 ≤ c then 0 else (aw_sL (aw_zd σ d) σ.1 (own A D w).length (1 : Int64)).2 c j) = _
    rw [e1, if_neg (by omega), aw_sL_n (by omega)]
    show (if σ.1 ≤ c then 0 else d.2 c j) = _
    rw [if_neg (by omega)]
  have z3 : ∀ e, dd.2 σ.1 e = nL (if (own A D w).length = e then 1 else 0) := fun e => by
    rw [← hdd]
    show (if (aw_nw σ 21 64).1 ≤ σ.1 then 0 else (aw_sL (aw_zd σ d) σ.1 (own A D w).length (1 : Int64)).2 σ.1 e) = _
    rw [e1, if_neg (by omega)]
    by_cases h : e = (own A D w).length
    · rw [aw_sL_e rfl h, if_pos h.symm]; rfl
    · rw [aw_sL_n (fun g => h g.2), if_neg (fun g => h g.symm)]
      show (if σ.1 ≤ σ.1 then 0 else d.2 σ.1 e) = _
      rw [if_pos (Nat.le_refl _)]; rfl
  have hA2 : RepA A D a dd := hA.lf (by rw [z1 a, if_pos (by omega)])
  have hL2 : Lx dd x w (own A D w) := Lx.e hL (z2 x (by omega))
  show ok (f_L_readings_L29 aw_FU _ a x (nI w) (nI (own A D w).length) σ.1 (σ.1 + 1) (nL (sumR (fun n => bkF A D (own A D w) (n + 1) 0) 0)) (nI 0) _ dd) _
  refine rd_L29 (d0 := dd) kA2 kX2 kP2 kR2 (by omega) (by omega) (by omega) (show w < 6 by omega) hL2 hwr hA2 hG.2.2.1 hG.2.2.2.1 hG.1 (fun d' F => ?_) 4 0 aw_FU dd (by omega) (by show _ < 5000; omega) (fun e _ => z3 e) FR.rf
  exact ok_some ⟨rfl, fun c => by rw [F.1]; exact z1 c, fun c hc => by rw [F.2 c (by omega) (by omega)]; exact z2 c hc⟩
