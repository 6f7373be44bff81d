/-! two designs side by side: all of it -/
theorem Ar_J463 {A : St} {σ : Sg} {d : Dt} (hS : Lay σ) (hn : ly_n σ = A 11 0 0) (hW : WF A) (h2 : A 11 0 0 = 2) (hI : SoI A d) (s0 : Spx A 0 (A 13 0 0) 275 d) : ok (f_L_areSo_J463 σ (nI (dc (A 13 0 1))) 274 269 267 266 265 0 266 274 275 276 (nI 1) d) (fun z => z.1 = nI 1 ∧ SoI A z.2) := by
  have hD1 : 1 < A 11 0 0 := by omega
  have hw6 := hI.2.1.w6
  have hb := (hW.G hD1).2.1
  obtain ⟨z, hz, s1, F1⟩ := L_spellsAll (x := 276) hS hW hI.2.1 (Or.inr rfl) (hI.2.2.1 1 hD1) hD1 (show A 13 0 1 < 4 by omega) (Or.inr rfl)
  have hI1 := hI.l hW (F1.lf (N := 277 + 4 * A 11 0 0) (Or.inr rfl))
  have hT : SoT A z.2 := ⟨hI1, s0.e (F1.2 275 (by omega)), s1⟩
  have eor : ∀ D E, D < 2 → E < 2 → o_reform A (nI D) (nI E) = (0, nI (reformS A D E), A) := fun D E hD hE => by
    unfold o_reform
    rw [if_pos ⟨ix_t (by omega) (by omega), ix_t (by omega) (by omega)⟩, nI_cl (by omega), nI_cl (by omega)]
  have eol : ∀ D E, D < 2 → E < 2 → o_lost A (nI D) (nI E) = (0, nI (lostS A D E), A) := fun D E hD hE => by
    unfold o_lost
    rw [if_pos ⟨ix_t (by omega) (by omega), ix_t (by omega) (by omega)⟩, nI_cl (by omega), nI_cl (by omega)]
  unfold f_L_areSo_J463
  rw [hz, Option.bind_some]
  refine Ar_L480 hS hW h2 (fun d1 T1 => ?_) (A 2 0 0) 0 aw_FU z.2 (by omega) (by show _ < 5000; omega) hT
  rw [if_neg (show ¬ nI 1 = 0 by decide)]
  have c1 := C_reform hS hn hW T1.1.1 (nI 0) (nI 1)
  rw [eor 0 1 (by omega) (by omega)] at c1
  refine ok_chk (ly_O hS (by decide) (by decide)) (nt_of c1 (fun y1 y2 y3 => ?_))
  have I2 := T1.1.c y2 y3
  rw [if_pos rfl]
  have c2 := C_reform hS hn hW I2.1 (nI 1) (nI 0)
  rw [eor 1 0 (by omega) (by omega)] at c2
  refine nt_of c2 (fun x1 x2 x3 => ?_)
  have I3 := I2.c x2 x3
  rw [if_pos (by rw [reform_comm])]
  have c3 := C_lost hS hn hW I3.1 (nI 0) (nI 1)
  rw [eol 0 1 (by omega) (by omega)] at c3
  refine nt_of c3 (fun u1 u2 u3 => ?_)
  have I4 := I3.c u2 u3
  rw [if_pos rfl]
  have c4 := C_lost hS hn hW I4.1 (nI 1) (nI 0)
  rw [eol 1 0 (by omega) (by omega)] at c4
  refine nt_of c4 (fun v1 v2 v3 => ?_)
  have I5 := I4.c v2 v3
  rw [if_pos rfl]
  have c5 := C_reform hS hn hW I5.1 (nI 1) (nI 1)
  rw [eor 1 1 (by omega) (by omega), reform_self] at c5
  refine nt_of c5 (fun t1 t2 t3 => ?_)
  rw [if_pos (show nI 0 = 0 from rfl)]
  exact ok_some ⟨rfl, I5.c t2 t3⟩
theorem Ar_J404 {A : St} {σ : Sg} {d : Dt} (hS : Lay σ) (hn : ly_n σ = A 11 0 0) (hW : WF A) (h2 : A 11 0 0 = 2) (hI : SoI A d) : ok (f_L_areSo_J404 σ (nI 1) 0 265 266 267 268 269 274 275 276 d) (fun z => z.1 = nI 1 ∧ SoI A z.2) := by
  have hD0 : 0 < A 11 0 0 := by omega
  have hD1 : 1 < A 11 0 0 := by omega
  have hb0 := (hW.G hD0).2.1
  have hb1 := (hW.G hD1).2.1
  unfold f_L_areSo_J404
  rw [dcB hS (Or.inl rfl) (hI.2.2.1 0 hD0) (by omega) (fun t => f_L_areSo_J432 σ t 274 268 267 266 265 0 265 266 267 269 274 275 276 (nI 1) d) _ (fun _ => rfl)]
  unfold f_L_areSo_J432
  obtain ⟨z, hz, s1, F1⟩ := L_spellsAll (x := 275) hS hW hI.2.1 (Or.inl rfl) (hI.2.2.1 0 hD0) hD0 (show A 13 0 0 < 4 by omega) (Or.inl rfl)
  have hI1 := hI.l hW (F1.lf (N := 277 + 4 * A 11 0 0) (Or.inl rfl))
  rw [hz, Option.bind_some]
  rw [dcB hS (Or.inr rfl) (hI1.2.2.1 1 hD1) (by omega) (fun t => f_L_areSo_J463 σ t 274 269 267 266 265 0 266 274 275 276 (nI 1) z.2) _ (fun _ => rfl)]
  exact Ar_J463 hS hn hW h2 hI1 s1
theorem Ar_J333 {A : St} {σ : Sg} {d : Dt} (hS : Lay σ) (hn : ly_n σ = A 11 0 0) (hW : WF A) (h2 : A 11 0 0 = 2) (hI : SoI A d) : ok (f_L_areSo_J333 σ 0 265 266 267 268 269 274 275 276 (nI 1) (nI (v0S A 4)) (nI (ppS A)) d) (fun z => z.1 = nI 1 ∧ SoI A z.2) := by
  have hv : v0S A 4 ≤ ppS A := v0_le A 4
  have hp := ppS_le hW
  have eo : ∀ D, D < 2 → o_votes A (nI D) = (0, nI (votS A D 3), A) := fun D hD => by
    unfold o_votes
    rw [if_pos (ix_t (by omega) (by omega)), nI_cl (by omega), h2]
  unfold f_L_areSo_J333
  rw [if_neg (show ¬ nI 1 = 0 by decide)]
  have c1 := C_votes hS hn hW hI.1 (nI 0)
  rw [eo 0 (by omega), vot_0 h2] at c1
  refine ok_chk (ly_O hS (by decide) (by decide)) (nt_of c1 (fun y1 y2 y3 => ?_))
  have I2 := hI.c y2 y3
  rw [if_pos rfl]
  have c2 := C_votes hS hn hW I2.1 (nI 1)
  rw [eo 1 (by omega), vot_1 h2] at c2
  refine nt_of c2 (fun x1 x2 x3 => ?_)
  have I3 := I2.c x2 x3
  rw [nI_subI hv, if_pos rfl]
  refine ok_bind (D_elected hS hn hW I3.1 0 0 0 0 0) (fun z hz => ?_)
  have e1 : o_elected A = (0, (if ppS A = 0 then NO else dI (elS A 32 3)), A) := by
    unfold o_elected
    rw [if_neg (by omega), h2]
  rw [e1] at hz
  have I4 := I3.c hz.2.1 hz.2.2
  have z1 : z.1 = (if ppS A = 0 then NO else dI (elS A 32 3)) := hz.1
  have fin := Ar_J404 hS hn hW h2 I4
  by_cases e0 : ppS A = 0
  · rw [if_pos (by rw [e0]; rfl), z1, if_pos e0]
    unfold f_L_areSo_J396
    rw [if_pos (show NO = -1 from rfl)]
    exact fin
  · rw [if_neg (by rw [il_0, nI_eqJ (by omega) (by omega)]; exact e0), z1, if_neg e0, el_2 h2 e0]
    by_cases c : ppS A - v0S A 4 ≤ v0S A 4
    · rw [if_neg (by rw [nI_ltJ (by omega) (by omega)]; omega), if_pos c]
      unfold f_L_areSo_J396
      rw [if_pos (show dI 1 = 0 by decide)]
      exact fin
    · rw [if_pos (by rw [nI_ltJ (by omega) (by omega)]; omega), if_neg c]
      unfold f_L_areSo_J396
      rw [if_pos (show dI 2 = 1 by decide)]
      exact fin
theorem Ar_J181 {A : St} {σ : Sg} {d : Dt} (hS : Lay σ) (hn : ly_n σ = A 11 0 0) (hW : WF A) (hI : SoI A d) : ok (f_L_areSo_J181 σ 0 265 266 267 268 269 272 273 274 275 276 (nI 1) d) (fun z => z.1 = nI 1 ∧ SoI A z.2) := by
  have hd2 := hI.2.1.d2
  have q1 : d.1 274 (Int32.toNatClampNeg 1) = nI (A 11 0 0) := rq_des hI.2.1
  unfold f_L_areSo_J181
  refine ok_chk (ly_I (N := 2) hS (by decide) (by decide) (by decide) (by decide)) ?_
  rw [q1]
  by_cases c : A 11 0 0 < 2
  · rw [if_pos (by rw [il_2, nI_ltJ (by omega) (by omega)]; exact c)]
    exact ok_some ⟨rfl, hI⟩
  · rw [if_neg (by rw [il_2, nI_ltJ (by omega) (by omega)]; exact c), if_neg (show ¬ nI 1 = 0 by decide)]
    have h2 : A 11 0 0 = 2 := by omega
    exact Ar_L206 hS hn hW h2 (fun d' hI' => Ar_J333 hS hn hW h2 hI') 4 0 6 d (by omega) (by omega) hI
theorem Ar_L109 {A : St} {σ : Sg} {b w : Nat} {Q : Int32 × Dt → Prop} {k : Int32 → Dt → Option (Int32 × Dt)} (hS : Lay σ) (hn : ly_n σ = A 11 0 0) (hW : WF A) (hb : b < 4) (hw : w < A 2 0 0) (hk : ∀ d, SoI A d → ok (k (nI 1) d) Q) : ∀ (m i f : Nat) (d : Dt), i + m = 5 → m < f → SoI A d → ok (f_L_areSo_L109 σ f k 0 265 266 267 268 269 272 273 274 275 276 (nI w) (nI (dc b)) (nI 1) (nI i) d) Q := by
  intro m
  induction m with
  | zero =>
    intro i f d hi hf hI
    cases f with
    | zero => omega
    | succ f =>
      obtain rfl : i = 5 := by omega
      show ok (f_L_areSo_B109 σ (f_L_areSo_L109 σ f k 0 265 266 267 268 269 272 273 274 275 276 (nI w) (nI (dc b))) k 0 265 266 267 268 269 272 273 274 275 276 (nI w) (nI (dc b)) (nI 1) (nI 5) d) Q
      unfold f_L_areSo_B109
      rw [if_pos (by decide)]
      exact hk d hI
  | succ m ih =>
    intro i f d hi hf hI
    cases f with
    | zero => omega
    | succ f =>
      have hw6 := hI.2.1.w6
      have hn4 := (hW.w hw).2.1
      show ok (f_L_areSo_B109 σ (f_L_areSo_L109 σ f k 0 265 266 267 268 269 272 273 274 275 276 (nI w) (nI (dc b))) k 0 265 266 267 268 269 272 273 274 275 276 (nI w) (nI (dc b)) (nI 1) (nI i) d) Q
      unfold f_L_areSo_B109
      rw [if_neg (by rw [il_5, nI_leJ (by omega) (by omega)]; omega), if_neg (show ¬ nI 1 = 0 by decide)]
      have hJ : ok (f_L_areSo_J133 σ (f_L_areSo_L109 σ f k 0 265 266 267 268 269 272 273 274 275 276 (nI w) (nI (dc b))) (dI b) 0 0 265 266 267 268 269 272 273 274 275 276 (nI w) (nI (dc b)) (nI i) d) Q := by
        have eo : o_spoken A (dI b) (nI w) (nI i) = (0, (if i < A 3 0 w then nI (spk A b w i) else NO), A) := by
          unfold o_spoken
          have hx : (decide (dI b = NO) || ix (dI b) 3) = true := by
            by_cases e : b = 0
            · subst e; rfl
            · rw [dI_s _ (by omega), ix_t (by omega) (by omega), Bool.or_true]
          have hb2 : (if dI b = NO then 0 else (dI b).toNatClampNeg + 1) = b := by
            by_cases e : b = 0
            · subst e; rfl
            · rw [dI_s _ (by omega), if_neg (by rw [NO_n (by omega)]; exact fun h => h), nI_cl (by omega)]; omega
          rw [if_pos ⟨hx, ix_t hw (by omega), by rw [nI_ltJ (by omega) (by omega)]; omega⟩, nI_cl (by omega), nI_cl (by omega), hb2]
        have hc := C_spoken hS hn hW hI.1 (dI b) (nI w) (nI i)
        rw [eo] at hc
        unfold f_L_areSo_J133
        refine ok_chk (ly_O hS (by decide) (by decide)) (nt_of hc (fun y y1 y2 => ?_))
        have hI1 := hI.c y1 y2
        have ql : y.2.1 266 (nI w).toNatClampNeg = nI (A 3 0 w) := by rw [nI_cl (by omega)]; exact rq_len hI1.2.1 hw
        refine ok_chk (ly_I (N := 64) hS (by decide) (by decide) (by omega) (by decide)) ?_
        rw [ql]
        have fin := ih (i + 1) f y.2 (by omega) (by omega) hI1
        by_cases c : i < A 3 0 w
        · rw [if_neg (by rw [nI_leJ (by omega) (by omega)]; omega), if_pos c]
          refine ok_bs (L_speaks hS hW hI1.2.1 hb hw c) ?_
          unfold f_L_areSo_J165 f_L_areSo_J173
          rw [if_pos rfl, il_1, nI_add]
          exact fin
        · rw [if_pos (by rw [nI_leJ (by omega) (by omega)]; omega), if_neg c]
          unfold f_L_areSo_J165 f_L_areSo_J173
          rw [if_pos (show NO = -1 from rfl), il_1, nI_add]
          exact fin
      by_cases e : b = 0
      · subst e
        rw [if_pos (show nI (dc 0) = 3 by decide)]
        exact hJ
      · have ed : nI (dc b) = dI b := by rw [dI_s _ (by omega)]; unfold dc; rw [if_neg e]
        rw [if_neg (by unfold dc; rw [if_neg e, il_3, nI_eqJ (by omega) (by omega)]; omega)]
        rw [← ed] at hJ
        exact hJ
theorem L_areSo {A : St} {σ : Sg} {d : Dt} {one two : Nat} (hS : Lay σ) (hn : ly_n σ = A 11 0 0) (hW : WF A) (hI : SoI A d) (h1 : one < 60000) (ht : two < 60000) : ok (f_L_areSo σ 0 265 266 267 268 269 272 273 274 (nI one) (nI two) 275 276 d) (fun z => z.1 = nI 1 ∧ SoI A z.2) := by
  have hd2 := hI.2.1.d2
  have hw6 := hI.2.1.w6
  have q1 : d.1 274 (Int32.toNatClampNeg 1) = nI (A 11 0 0) := rq_des hI.2.1
  have t1 : one - one / 50 * 50 = one % 50 := by omega
  have t2 : two - two / 50 * 50 = two % 50 := by omega
  have t4 : two - two / 4 * 4 = two % 4 := by omega
  have c1 : nI one - nI one / (50 : Int32) * (50 : Int32) = nI (one % 50) := by simp (disch := first | assumption | omega) only [t1, il_0, il_1, il_2, il_3, il_4, il_5, il_6, il_7, il_8, il_9, il_10, il_11, il_12, il_13, il_15, il_16, il_17, il_18, il_19, il_20, il_21, il_22, il_23, il_24, il_26, il_27, il_28, il_30, il_32, il_34, il_36, il_38, il_40, il_43, il_44, il_46, il_47, il_48, il_49, il_50, il_51, il_60, il_64, il_100, il_108, il_111, il_127, il_971, il_972, il_999, il_1000, il_1024, il_1087, il_2500, il_5000, il_9999, il_60000, il_2147483647, nI_add, nI_mulI, nI_subI, nI_divI, nI_cl, nI_leJ, nI_ltJ, nI_eqJ, nI_neM, nI_neM', il_31]
  have c2 : nI two - nI two / (50 : Int32) * (50 : Int32) = nI (two % 50) := by simp (disch := first | assumption | omega) only [t2, il_0, il_1, il_2, il_3, il_4, il_5, il_6, il_7, il_8, il_9, il_10, il_11, il_12, il_13, il_15, il_16, il_17, il_18, il_19, il_20, il_21, il_22, il_23, il_24, il_26, il_27, il_28, il_30, il_32, il_34, il_36, il_38, il_40, il_43, il_44, il_46, il_47, il_48, il_49, il_50, il_51, il_60, il_64, il_100, il_108, il_111, il_127, il_971, il_972, il_999, il_1000, il_1024, il_1087, il_2500, il_5000, il_9999, il_60000, il_2147483647, nI_add, nI_mulI, nI_subI, nI_divI, nI_cl, nI_leJ, nI_ltJ, nI_eqJ, nI_neM, nI_neM', il_31]
  have c4 : nI two - nI two / (4 : Int32) * (4 : Int32) = nI (two % 4) := by simp (disch := first | assumption | omega) only [t4, il_0, il_1, il_2, il_3, il_4, il_5, il_6, il_7, il_8, il_9, il_10, il_11, il_12, il_13, il_15, il_16, il_17, il_18, il_19, il_20, il_21, il_22, il_23, il_24, il_26, il_27, il_28, il_30, il_32, il_34, il_36, il_38, il_40, il_43, il_44, il_46, il_47, il_48, il_49, il_50, il_51, il_60, il_64, il_100, il_108, il_111, il_127, il_971, il_972, il_999, il_1000, il_1024, il_1087, il_2500, il_5000, il_9999, il_60000, il_2147483647, nI_add, nI_mulI, nI_subI, nI_divI, nI_cl, nI_leJ, nI_ltJ, nI_eqJ, nI_neM, nI_neM', il_31]
  unfold f_L_areSo
  refine ok_chk (ly_I (N := 2) hS (by decide) (by decide) (by decide) (by decide)) ?_
  rw [q1]
  refine ok_bind (D_spelled hS hn hW hI.1 (nI (A 11 0 0)) 0 0 0 0) (fun z hz => ?_)
  have e1 : o_spelled A (nI (A 11 0 0)) 0 0 = o_bad A 1 := by
    unfold o_spelled
    rw [if_neg (fun h => by rw [ix_f (Nat.le_refl _) (by omega)] at h; exact absurd h.1 (by decide))]
  rw [e1] at hz
  have z1 : z.1 = -3000000 := hz.1
  have I1 := hI.c hz.2.1 hz.2.2
  rw [if_pos z1]
  refine ok_bind (D_spoken hS hn hW I1.1 3 0 0 0 0) (fun y hy => ?_)
  have e2 : o_spoken A 3 0 0 = o_bad A 1 := by
    unfold o_spoken
    rw [if_neg (fun h => absurd h.1 (by decide))]
  rw [e2] at hy
  have y1 : y.1 = -3000000 := hy.1
  have I2 := I1.c hy.2.1 hy.2.2
  rw [if_pos y1, c1, c2]
  have eo : o_apart A (nI (one % 50)) (nI (two % 50)) = (0, nI (farS A (one % 50) (two % 50)), A) := by
    unfold o_apart
    rw [if_pos ⟨ix_t (by omega) (by omega), ix_t (by omega) (by omega)⟩, nI_cl (by omega), nI_cl (by omega)]
  have hc := C_apart hS hn hW I2.1 (nI (one % 50)) (nI (two % 50))
  rw [eo] at hc
  refine ok_chk (ly_O hS (by decide) (by decide)) (nt_of hc (fun x x1 x2 => ?_))
  have I3 := I2.c x1 x2
  have s1 := shp hW (show one % 50 < 50 by omega)
  have s2 := shp hW (show two % 50 < 50 by omega)
  have qa : x.2.1 272 (nI (one % 50)).toNatClampNeg = nI (A 17 0 (one % 50)) := by rw [nI_cl (by omega)]; exact I3.2.2.2.2.1 _ (by omega)
  have qb : x.2.1 272 (nI (two % 50)).toNatClampNeg = nI (A 17 0 (two % 50)) := by rw [nI_cl (by omega)]; exact I3.2.2.2.2.1 _ (by omega)
  refine ok_chk (ly_I (N := 50) hS (by decide) (by decide) (by omega) (by decide)) (ok_chk (ly_I (N := 50) hS (by decide) (by decide) (by omega) (by decide)) ?_)
  rw [qa, qb]
  refine ok_bind (L_apart hS ⟨s1.1, by omega⟩ ⟨s2.1, by omega⟩) (fun u hu => ?_)
  have I4 := I3.l hW hu.2.lf
  rw [hu.1, if_pos (show nI (farS A (one % 50) (two % 50)) = nI (edN (A 17 0 (one % 50)) (A 17 0 (two % 50))) from rfl)]
  have q0 : u.2.1 274 (Int32.toNatClampNeg 0) = nI (A 2 0 0) := rq_words I4.2.1
  unfold f_L_areSo_J77
  refine ok_chk (ly_I (N := 2) hS (by decide) (by decide) (by decide) (by decide)) ?_
  rw [q0]
  by_cases e0 : A 2 0 0 = 0
  · rw [if_pos (by rw [e0]; decide)]
    exact Ar_J181 hS hn hW I4
  · rw [if_neg (by rw [il_0, nI_leJ (by omega) (by omega)]; omega), if_neg (show ¬ (1 : Int32) = 0 by decide)]
    have hwlt : one % A 2 0 0 < A 2 0 0 := Nat.mod_lt _ (by omega)
    have cw : nI one - nI one / nI (A 2 0 0) * nI (A 2 0 0) = nI (one % A 2 0 0) := by
      have g1 := Nat.div_add_mod one (A 2 0 0)
      have g2 := Nat.mul_comm (A 2 0 0) (one / A 2 0 0)
      rw [nI_divI (by omega) (by omega), nI_mulI, nI_subI (by omega)]
      congr 1; omega
    refine ok_chk (by rw [il_0, nI_eqJ (by omega) (by omega)]; exact e0) ?_
    rw [cw, c4]
    have fin := fun b (hb : b < 4) => Ar_L109 (k := fun x13_96 d_97 => f_L_areSo_J181 σ 0 265 266 267 268 269 272 273 274 275 276 x13_96 d_97) hS hn hW hb hwlt (fun d' hI' => Ar_J181 hS hn hW hI') 5 0 7 u.2 (by omega) (by omega) I4
    by_cases e3 : two % 4 = 3
    · have := fin 0 (by omega)
      rw [e3]
      exact this
    · have := fin (two % 4 + 1) (by omega)
      unfold dc at this
      rw [if_neg (by omega), Nat.add_sub_cancel] at this
      exact this
