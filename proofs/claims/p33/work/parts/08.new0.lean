/-! X9_init X2_init X8_init X6_init X0_init X7_init X5_init X4_init X3_init X1_init -/
def rm_X9_init : Room := { frames := 1, cells := 2, slots := 24, locals := 20 }
def f_X9_init (x0 : Nat) (σ : Sg) (d : Dt) : Option (Sg × Dt) :=
  aw_chk (x0 < σ.1) (aw_new σ d 20 4 (fun q_2 σ_3 d_4 => aw_chk (aw_O σ_3 9 4 x0 ∧ q_2 < σ_3.1) (aw_let (aw_sR σ_3 x0 0 q_2) (fun σ_10 => aw_chk (aw_O σ_10 9 4 x0) (aw_chk (x0 < σ_10.1) (aw_new σ_10 (aw_sI d_4 x0 1 ((0 : Int32))) 20 20 (fun q_14 σ_15 d_16 => aw_chk (aw_O σ_15 9 4 x0 ∧ q_14 < σ_15.1) (aw_let (aw_sR σ_15 x0 2 q_14) (fun σ_22 => aw_chk (aw_O σ_22 9 4 x0) (some (σ_22, aw_sI d_16 x0 3 ((0 : Int32)))))))))))))
section W_X9_init
variable {p : Program} {l : Launch} {e : Env} {s : State} {m : MethodId} {args : Array Value} {below : List Frame} {meth : Method} {c : Code}
variable {D : va_G} {cA : Nat → ClassId} {base : Nat} {ad0 : Nat → Nat} {σ0 : Sg}
end W_X9_init
set_option maxHeartbeats 4000000 in
set_option maxRecDepth 100000 in
theorem c_X9_init (l : Launch) {σ : Sg} {x0 : Nat} {d : Dt} {z : Sg × Dt} (hf : f_X9_init x0 σ d = some z) : aw_Nv l yX9_init (Cond.code yX9_init cX9_init 1 (none)) rm_X9_init (fun ad => [.ref (ad x0)]) σ d z := by
  intro hwf D cA base ad
  refine aw_ofW (own := RX9) (cc := cX9_init) (nL := 1) (ret := none) (by decide) rfl rfl ?_
  intro p e s m below meth c X hnm G
  have hx := X.1; have hb := X.2.1; have hml := X.2.2.1; have hown := X.2.2.2.1
  have E : aw_ext σ ad σ ad := aw_ext.rf hwf
  refine aw_ls (lv := [(0, .ref (ad x0))]) (Nat.le_of_ble_eq_true rfl) rfl (fun ls hl => ?_)
  generalize ([.ref (ad x0)] : List Value).toArray = args0
  unfold f_X9_init at hf
  refine lv_aload_n hx hb dX9_init_0 rfl (lv_at hl 0 rfl) ?_
  refine aw_objI X G hl.1 m_34 m_27 m_28 ⟨Nat.le_of_ble_eq_true rfl, Nat.le_of_ble_eq_true rfl⟩ dX9_init_1 ?_
  refine lv_aload_n hx hb dX9_init_4 rfl (lv_at hl 0 rfl) ?_
  refine lv_iconst (v := (4 : Int32)) hx hb dX9_init_5 (by decide) ?_
  obtain ⟨hc_1, hf⟩ := aw_chk_some hf
  refine aw_newA (atype := .int) (t := 20) (ty := .int) (N := 4) X G E rfl m_52 (by decide) rfl (fun _ _ h => h) (by decide) (by decide) (fun _ => rfl) (aw_a0i 4) (Nat.le_of_ble_eq_true rfl) (Nat.le_of_ble_eq_true rfl) (Nat.le_of_ble_eq_true rfl) hf dX9_init_6 (fun q_2 σ_3 d_4 ad_5 H hf hext_7 E_6 G => ?_)
  have ha_8 := (hext_7 _ hc_1).symm
  rw [ha_8]
  rw [ha_8] at hl
  obtain ⟨hc_9, hf⟩ := aw_chk_some hf
  refine pr_X9_9 hx hb G hown hnm E_6 hc_9 hf dX9_init_8 (fun σ_10 H locs hf E_11 G => ?_)
  refine lv_aload_n hx hb dX9_init_11 rfl (lv_at hl 0 rfl) ?_
  refine lv_iconst (v := (0 : Int32)) hx hb dX9_init_12 (by decide) ?_
  obtain ⟨hc_12, hf⟩ := aw_chk_some hf
  refine pf_X9_15 hx hb G hown hc_12 dX9_init_13 (fun H locs G => ?_)
  refine lv_aload_n hx hb dX9_init_16 rfl (lv_at hl 0 rfl) ?_
  refine lv_bipush (v := (20 : Int32)) hx hb dX9_init_17 (by decide) ?_
  obtain ⟨hc_13, hf⟩ := aw_chk_some hf
  refine aw_newA (atype := .int) (t := 20) (ty := .int) (N := 20) X G E_11 rfl m_52 (by decide) rfl (fun _ _ h => h) (by decide) (by decide) (fun _ => rfl) (aw_a0i 20) (Nat.le_of_ble_eq_true rfl) (Nat.le_of_ble_eq_true rfl) (Nat.le_of_ble_eq_true rfl) hf dX9_init_19 (fun q_14 σ_15 d_16 ad_17 H hf hext_19 E_18 G => ?_)
  have ha_20 := (hext_19 _ hc_13).symm
  rw [ha_20]
  rw [ha_20] at hl
  obtain ⟨hc_21, hf⟩ := aw_chk_some hf
  refine pr_X9_19 hx hb G hown hnm E_18 hc_21 hf dX9_init_21 (fun σ_22 H locs hf E_23 G => ?_)
  refine lv_aload_n hx hb dX9_init_24 rfl (lv_at hl 0 rfl) ?_
  refine lv_iconst (v := (0 : Int32)) hx hb dX9_init_25 (by decide) ?_
  obtain ⟨hc_24, hf⟩ := aw_chk_some hf
  refine pf_X9_22 hx hb G hown hc_24 dX9_init_26 (fun H locs G => ?_)
  exact aw_retn X G E_23 hf dX9_init_29 (Nat.le_of_ble_eq_true rfl) (Nat.le_of_ble_eq_true rfl)
def rm_X2_init : Room := { frames := 1, cells := 26, slots := 144, locals := 20 }
def f_X2_init (x0 : Nat) (σ : Sg) (d : Dt) : Option (Sg × Dt) :=
  aw_chk (x0 < σ.1) (aw_new σ d 20 6 (fun q_2 σ_3 d_4 => aw_chk (aw_O σ_3 2 8 x0 ∧ q_2 < σ_3.1) (aw_let (aw_sR σ_3 x0 0 q_2) (fun σ_10 => aw_chk (x0 < σ_10.1) (aw_new σ_10 d_4 20 6 (fun q_13 σ_14 d_15 => aw_chk (aw_O σ_14 2 8 x0 ∧ q_13 < σ_14.1) (aw_let (aw_sR σ_14 x0 1 q_13) (fun σ_21 => aw_chk (x0 < σ_21.1) (aw_new σ_21 d_15 20 6 (fun q_24 σ_25 d_26 => aw_chk (aw_O σ_25 2 8 x0 ∧ q_24 < σ_25.1) (aw_let (aw_sR σ_25 x0 2 q_24) (fun σ_32 => aw_chk (x0 < σ_32.1) (aw_new σ_32 d_26 22 6 (fun q_35 σ_36 d_37 => aw_chk (aw_O σ_36 2 8 x0 ∧ q_35 < σ_36.1) (aw_let (aw_sR σ_36 x0 3 q_35) (fun σ_43 => aw_chk (aw_O σ_43 2 8 x0) (aw_chk (x0 < σ_43.1) (aw_new2 σ_43 (aw_sI d_37 x0 4 ((0 : Int32))) 23 20 20 4 (fun q_47 σ_48 d_49 => aw_chk (aw_O σ_48 2 8 x0 ∧ q_47 < σ_48.1) (aw_let (aw_sR σ_48 x0 5 q_47) (fun σ_55 => aw_chk (x0 < σ_55.1) (aw_new σ_55 d_49 20 20 (fun q_58 σ_59 d_60 => aw_chk (aw_O σ_59 2 8 x0 ∧ q_58 < σ_59.1) (aw_let (aw_sR σ_59 x0 6 q_58) (fun σ_66 => aw_chk (aw_O σ_66 2 8 x0) (some (σ_66, aw_sI d_60 x0 7 ((0 : Int32)))))))))))))))))))))))))))))
section W_X2_init
variable {p : Program} {l : Launch} {e : Env} {s : State} {m : MethodId} {args : Array Value} {below : List Frame} {meth : Method} {c : Code}
variable {D : va_G} {cA : Nat → ClassId} {base : Nat} {ad0 : Nat → Nat} {σ0 : Sg}
end W_X2_init
set_option maxHeartbeats 4000000 in
set_option maxRecDepth 100000 in
theorem c_X2_init (l : Launch) {σ : Sg} {x0 : Nat} {d : Dt} {z : Sg × Dt} (hf : f_X2_init x0 σ d = some z) : aw_Nv l yX2_init (Cond.code yX2_init cX2_init 1 (none)) rm_X2_init (fun ad => [.ref (ad x0)]) σ d z := by
  intro hwf D cA base ad
  refine aw_ofW (own := RX2) (cc := cX2_init) (nL := 1) (ret := none) (by decide) rfl rfl ?_
  intro p e s m below meth c X hnm G
  have hx := X.1; have hb := X.2.1; have hml := X.2.2.1; have hown := X.2.2.2.1
  have E : aw_ext σ ad σ ad := aw_ext.rf hwf
  refine aw_ls (lv := [(0, .ref (ad x0))]) (Nat.le_of_ble_eq_true rfl) rfl (fun ls hl => ?_)
  generalize ([.ref (ad x0)] : List Value).toArray = args0
  unfold f_X2_init at hf
  refine lv_aload_n hx hb dX2_init_0 rfl (lv_at hl 0 rfl) ?_
  refine aw_objI X G hl.1 m_58 m_27 m_28 ⟨Nat.le_of_ble_eq_true rfl, Nat.le_of_ble_eq_true rfl⟩ dX2_init_1 ?_
  refine lv_aload_n hx hb dX2_init_4 rfl (lv_at hl 0 rfl) ?_
  refine lv_bipush (v := (6 : Int32)) hx hb dX2_init_5 (by decide) ?_
  obtain ⟨hc_1, hf⟩ := aw_chk_some hf
  refine aw_newA (atype := .int) (t := 20) (ty := .int) (N := 6) X G E rfl m_52 (by decide) rfl (fun _ _ h => h) (by decide) (by decide) (fun _ => rfl) (aw_a0i 6) (Nat.le_of_ble_eq_true rfl) (Nat.le_of_ble_eq_true rfl) (Nat.le_of_ble_eq_true rfl) hf dX2_init_7 (fun q_2 σ_3 d_4 ad_5 H hf hext_7 E_6 G => ?_)
  have ha_8 := (hext_7 _ hc_1).symm
  rw [ha_8]
  rw [ha_8] at hl
  obtain ⟨hc_9, hf⟩ := aw_chk_some hf
  refine pr_X2_9 hx hb G hown hnm E_6 hc_9 hf dX2_init_9 (fun σ_10 H locs hf E_11 G => ?_)
  refine lv_aload_n hx hb dX2_init_12 rfl (lv_at hl 0 rfl) ?_
  refine lv_bipush (v := (6 : Int32)) hx hb dX2_init_13 (by decide) ?_
  obtain ⟨hc_12, hf⟩ := aw_chk_some hf
  refine aw_newA (atype := .int) (t := 20) (ty := .int) (N := 6) X G E_11 rfl m_52 (by decide) rfl (fun _ _ h => h) (by decide) (by decide) (fun _ => rfl) (aw_a0i 6) (Nat.le_of_ble_eq_true rfl) (Nat.le_of_ble_eq_true rfl) (Nat.le_of_ble_eq_true rfl) hf dX2_init_15 (fun q_13 σ_14 d_15 ad_16 H hf hext_18 E_17 G => ?_)
  have ha_19 := (hext_18 _ hc_12).symm
  rw [ha_19]
  rw [ha_19] at hl
  obtain ⟨hc_20, hf⟩ := aw_chk_some hf
  refine pr_X2_15 hx hb G hown hnm E_17 hc_20 hf dX2_init_17 (fun σ_21 H locs hf E_22 G => ?_)
  refine lv_aload_n hx hb dX2_init_20 rfl (lv_at hl 0 rfl) ?_
  refine lv_bipush (v := (6 : Int32)) hx hb dX2_init_21 (by decide) ?_
  obtain ⟨hc_23, hf⟩ := aw_chk_some hf
  refine aw_newA (atype := .int) (t := 20) (ty := .int) (N := 6) X G E_22 rfl m_52 (by decide) rfl (fun _ _ h => h) (by decide) (by decide) (fun _ => rfl) (aw_a0i 6) (Nat.le_of_ble_eq_true rfl) (Nat.le_of_ble_eq_true rfl) (Nat.le_of_ble_eq_true rfl) hf dX2_init_23 (fun q_24 σ_25 d_26 ad_27 H hf hext_29 E_28 G => ?_)
  have ha_30 := (hext_29 _ hc_23).symm
  rw [ha_30]
  rw [ha_30] at hl
  obtain ⟨hc_31, hf⟩ := aw_chk_some hf
  refine pr_X2_18 hx hb G hown hnm E_28 hc_31 hf dX2_init_25 (fun σ_32 H locs hf E_33 G => ?_)
  refine lv_aload_n hx hb dX2_init_28 rfl (lv_at hl 0 rfl) ?_
  refine lv_bipush (v := (6 : Int32)) hx hb dX2_init_29 (by decide) ?_
  obtain ⟨hc_34, hf⟩ := aw_chk_some hf
  refine aw_newA (atype := .boolean) (t := 22) (ty := .boolean) (N := 6) X G E_33 rfl m_92 (by decide) rfl (fun _ _ h => h) (by decide) (by decide) (fun _ => rfl) (aw_a0z 6) (Nat.le_of_ble_eq_true rfl) (Nat.le_of_ble_eq_true rfl) (Nat.le_of_ble_eq_true rfl) hf dX2_init_31 (fun q_35 σ_36 d_37 ad_38 H hf hext_40 E_39 G => ?_)
  have ha_41 := (hext_40 _ hc_34).symm
  rw [ha_41]
  rw [ha_41] at hl
  obtain ⟨hc_42, hf⟩ := aw_chk_some hf
  refine pr_X2_21 hx hb G hown hnm E_39 hc_42 hf dX2_init_33 (fun σ_43 H locs hf E_44 G => ?_)
  refine lv_aload_n hx hb dX2_init_36 rfl (lv_at hl 0 rfl) ?_
  refine lv_iconst (v := (0 : Int32)) hx hb dX2_init_37 (by decide) ?_
  obtain ⟨hc_45, hf⟩ := aw_chk_some hf
  refine pf_X2_25 hx hb G hown hc_45 dX2_init_38 (fun H locs G => ?_)
  refine lv_aload_n hx hb dX2_init_41 rfl (lv_at hl 0 rfl) ?_
  refine lv_bipush (v := (20 : Int32)) hx hb dX2_init_42 (by decide) ?_
  refine lv_iconst (v := (4 : Int32)) hx hb dX2_init_44 (by decide) ?_
  obtain ⟨hc_46, hf⟩ := aw_chk_some hf
  refine aw_newM (ty := .int) (t := 23) (t2 := 20) (N := 20) (K := 4) X G E_44 m_59 G.1.2.2.2.2.1.2.2.1 m_52 (by decide +kernel) (fun _ _ h => h) (by decide) rfl (by decide) rfl (by decide) (by decide) (by decide) (by decide) (Nat.le_of_ble_eq_true rfl) (Nat.le_of_ble_eq_true rfl) (Nat.le_of_ble_eq_true rfl) rfl rfl (aw_inni 4) (aw_a0i 4) (Nat.le_of_ble_eq_true rfl) (Nat.le_of_ble_eq_true rfl) hf dX2_init_45 (fun q_47 σ_48 d_49 ad_50 H hf hext_52 E_51 G => ?_)
  have ha_53 := (hext_52 _ hc_46).symm
  rw [ha_53]
  rw [ha_53] at hl
  obtain ⟨hc_54, hf⟩ := aw_chk_some hf
  refine pr_X2_31 hx hb G hown hnm E_51 hc_54 hf dX2_init_49 (fun σ_55 H locs hf E_56 G => ?_)
  refine lv_aload_n hx hb dX2_init_52 rfl (lv_at hl 0 rfl) ?_
  refine lv_bipush (v := (20 : Int32)) hx hb dX2_init_53 (by decide) ?_
  obtain ⟨hc_57, hf⟩ := aw_chk_some hf
  refine aw_newA (atype := .int) (t := 20) (ty := .int) (N := 20) X G E_56 rfl m_52 (by decide) rfl (fun _ _ h => h) (by decide) (by decide) (fun _ => rfl) (aw_a0i 20) (Nat.le_of_ble_eq_true rfl) (Nat.le_of_ble_eq_true rfl) (Nat.le_of_ble_eq_true rfl) hf dX2_init_55 (fun q_58 σ_59 d_60 ad_61 H hf hext_63 E_62 G => ?_)
  have ha_64 := (hext_63 _ hc_57).symm
  rw [ha_64]
  rw [ha_64] at hl
  obtain ⟨hc_65, hf⟩ := aw_chk_some hf
  refine pr_X2_34 hx hb G hown hnm E_62 hc_65 hf dX2_init_57 (fun σ_66 H locs hf E_67 G => ?_)
  refine lv_aload_n hx hb dX2_init_60 rfl (lv_at hl 0 rfl) ?_
  refine lv_iconst (v := (0 : Int32)) hx hb dX2_init_61 (by decide) ?_
  obtain ⟨hc_68, hf⟩ := aw_chk_some hf
  refine pf_X2_37 hx hb G hown hc_68 dX2_init_62 (fun H locs G => ?_)
  exact aw_retn X G E_67 hf dX2_init_65 (Nat.le_of_ble_eq_true rfl) (Nat.le_of_ble_eq_true rfl)
def rm_X8_init : Room := { frames := 1, cells := 1, slots := 17, locals := 20 }
def f_X8_init (x0 : Nat) (σ : Sg) (d : Dt) : Option (Sg × Dt) :=
  aw_chk (x0 < σ.1) (aw_new σ d 20 17 (fun q_2 σ_3 d_4 => aw_chk (aw_O σ_3 8 1 x0 ∧ q_2 < σ_3.1) (aw_let (aw_sR σ_3 x0 0 q_2) (fun σ_10 => some (σ_10, d_4)))))
section W_X8_init
variable {p : Program} {l : Launch} {e : Env} {s : State} {m : MethodId} {args : Array Value} {below : List Frame} {meth : Method} {c : Code}
variable {D : va_G} {cA : Nat → ClassId} {base : Nat} {ad0 : Nat → Nat} {σ0 : Sg}
end W_X8_init
set_option maxHeartbeats 4000000 in
set_option maxRecDepth 100000 in
theorem c_X8_init (l : Launch) {σ : Sg} {x0 : Nat} {d : Dt} {z : Sg × Dt} (hf : f_X8_init x0 σ d = some z) : aw_Nv l yX8_init (Cond.code yX8_init cX8_init 1 (none)) rm_X8_init (fun ad => [.ref (ad x0)]) σ d z := by
  intro hwf D cA base ad
  refine aw_ofW (own := RX8) (cc := cX8_init) (nL := 1) (ret := none) (by decide) rfl rfl ?_
  intro p e s m below meth c X hnm G
  have hx := X.1; have hb := X.2.1; have hml := X.2.2.1; have hown := X.2.2.2.1
  have E : aw_ext σ ad σ ad := aw_ext.rf hwf
  refine aw_ls (lv := [(0, .ref (ad x0))]) (Nat.le_of_ble_eq_true rfl) rfl (fun ls hl => ?_)
  generalize ([.ref (ad x0)] : List Value).toArray = args0
  unfold f_X8_init at hf
  refine lv_aload_n hx hb dX8_init_0 rfl (lv_at hl 0 rfl) ?_
  refine aw_objI X G hl.1 m_107 m_27 m_28 ⟨Nat.le_of_ble_eq_true rfl, Nat.le_of_ble_eq_true rfl⟩ dX8_init_1 ?_
  refine lv_aload_n hx hb dX8_init_4 rfl (lv_at hl 0 rfl) ?_
  refine lv_bipush (v := (17 : Int32)) hx hb dX8_init_5 (by decide) ?_
  obtain ⟨hc_1, hf⟩ := aw_chk_some hf
  refine aw_newA (atype := .int) (t := 20) (ty := .int) (N := 17) X G E rfl m_52 (by decide) rfl (fun _ _ h => h) (by decide) (by decide) (fun _ => rfl) (aw_a0i 17) (Nat.le_of_ble_eq_true rfl) (Nat.le_of_ble_eq_true rfl) (Nat.le_of_ble_eq_true rfl) hf dX8_init_7 (fun q_2 σ_3 d_4 ad_5 H hf hext_7 E_6 G => ?_)
  have ha_8 := (hext_7 _ hc_1).symm
  rw [ha_8]
  rw [ha_8] at hl
  obtain ⟨hc_9, hf⟩ := aw_chk_some hf
  refine pr_X8_9 hx hb G hown hnm E_6 hc_9 hf dX8_init_9 (fun σ_10 H locs hf E_11 G => ?_)
  exact aw_retn X G E_11 hf dX8_init_12 (Nat.le_of_ble_eq_true rfl) (Nat.le_of_ble_eq_true rfl)
def rm_X6_init : Room := { frames := 2, cells := 55, slots := 368, locals := 44 }
def f_X6_init_B44 (kb44 : Int32 → Sg → Dt → Option (Sg × Dt)) (k44 : Sg → Dt → Option (Sg × Dt)) (x0 : Nat) (x1 : Int32) (σ : Sg) (d : Dt) : Option (Sg × Dt) :=
  if ((50 : Int32)) ≤ x1 then k44 σ d else aw_chk (aw_O σ 6 4 x0) ((f_X6_put σ x0 x1 (((((111 : Int32)) + (((100 : Int32)) * (x1 / (16 : Int32)))) + (((10 : Int32)) * ((x1 / (4 : Int32)) - (x1 / (4 : Int32)) / (4 : Int32) * (4 : Int32)))) + (x1 - x1 / (4 : Int32) * (4 : Int32))) d).bind (fun z_54 => kb44 (x1 + 1) σ z_54.2))
def f_X6_init_L44 (n : Nat) (k44 : Sg → Dt → Option (Sg × Dt)) (x0 : Nat) : Int32 → Sg → Dt → Option (Sg × Dt) := match n with
  | 0 => fun _ _ _ => none
  | n + 1 => fun x1 σ d => f_X6_init_B44 (f_X6_init_L44 n k44 x0) k44 x0 x1 σ d
def f_X6_init (x0 : Nat) (σ : Sg) (d : Dt) : Option (Sg × Dt) :=
  aw_chk (x0 < σ.1) (aw_new σ d 8 1 (fun q_2 σ_3 d_4 => aw_chk (q_2 < σ_3.1) (aw_chk (x0 < σ_3.1) ((f_X8_init q_2 σ_3 d_4).bind (fun z_11 => aw_chk (aw_O z_11.1 6 4 x0 ∧ q_2 < z_11.1.1) (aw_let (aw_sR z_11.1 x0 0 q_2) (fun σ_19 => aw_chk (x0 < σ_19.1) (aw_new σ_19 z_11.2 20 50 (fun q_22 σ_23 d_24 => aw_chk (aw_O σ_23 6 4 x0 ∧ q_22 < σ_23.1) (aw_let (aw_sR σ_23 x0 1 q_22) (fun σ_30 => aw_chk (x0 < σ_30.1) (aw_new2 σ_30 d_24 23 50 20 4 (fun q_33 σ_34 d_35 => aw_chk (aw_O σ_34 6 4 x0 ∧ q_33 < σ_34.1) (aw_let (aw_sR σ_34 x0 2 q_33) (fun σ_41 => aw_chk (x0 < σ_41.1) (aw_new σ_41 d_35 20 50 (fun q_44 σ_45 d_46 => aw_chk (aw_O σ_45 6 4 x0 ∧ q_44 < σ_45.1) (aw_let (aw_sR σ_45 x0 3 q_44) (fun σ_52 => f_X6_init_L44 aw_FU (fun σ_57 d_58 => some (σ_57, d_58)) x0 ((0 : Int32)) σ_52 d_46)))))))))))))))))))
section W_X6_init
variable {p : Program} {l : Launch} {e : Env} {s : State} {m : MethodId} {args : Array Value} {below : List Frame} {meth : Method} {c : Code}
variable {D : va_G} {cA : Nat → ClassId} {base : Nat} {ad0 : Nat → Nat} {σ0 : Sg}
set_option maxHeartbeats 4000000 in
set_option maxRecDepth 100000 in
theorem w_X6_init_B44 {z : Sg × Dt} (X : aw_X p c cX6_init 2 s RX6 m meth (none)) {kb44 : Int32 → Sg → Dt → Option (Sg × Dt)} {k44 : Sg → Dt → Option (Sg × Dt)} {x0 : Nat} {x1 : Int32} {σ : Sg} {d : Dt} {ad : Nat → Nat} (hf : f_X6_init_B44 kb44 k44 x0 x1 σ d = some z) (hkb44 : ∀ (y1 : Int32) (σ : Sg) (d : Dt), kb44 y1 σ d = some z → ∀ (ad : Nat → Nat), aw_ext σ0 ad0 σ ad → ∀ (H : Heap) (locs : List Loc) (ls : Array Slot), lv_has ls 2 [(0, .ref (ad x0)), (1, .int y1)] → aw_G D cA base ad σ d s H locs → W p l e rm_X6_init s m args below meth c H locs 55 368 (aw_En D cA base ad0 σ0 below args s 55 368 z) (F0 m 44 ls [])) (hk44 : ∀ (σ : Sg) (d : Dt), k44 σ d = some z → ∀ (ad : Nat → Nat), aw_ext σ0 ad0 σ ad → ∀ (H : Heap) (locs : List Loc) (ls : Array Slot), lv_has ls 2 [] → aw_G D cA base ad σ d s H locs → W p l e rm_X6_init s m args below meth c H locs 55 368 (aw_En D cA base ad0 σ0 below args s 55 368 z) (F0 m 84 ls [])) (E : aw_ext σ0 ad0 σ ad) {H : Heap} {locs : List Loc} {ls : Array Slot} (hl : lv_has ls 2 [(0, .ref (ad x0)), (1, .int x1)]) (G : aw_G D cA base ad σ d s H locs) : W p l e rm_X6_init s m args below meth c H locs 55 368 (aw_En D cA base ad0 σ0 below args s 55 368 z) (F0 m 44 ls []) := by
  have hx := X.1; have hb := X.2.1; have hml := X.2.2.1; have hown := X.2.2.2.1
  unfold f_X6_init_B44 at hf
  refine lv_iload_n hx hb dX6_init_44 rfl (lv_at hl 1 rfl) ?_
  refine lv_bipush (v := (50 : Int32)) hx hb dX6_init_45 (by decide) ?_
  refine lv_icmp_ge (tgt := 84) hx hb dX6_init_47 (by decide) (fun hc => ?_) (fun hc => ?_)
  · have hf := aw_ite_t hc hf
    refine W.widen (k := 55) (n := 368) (Nat.le_of_ble_eq_true rfl) (Nat.le_of_ble_eq_true rfl) ?_
    exact hk44 _ _ hf _ E _ _ _ (lv_sub hl [] rfl) G
  · have hf := aw_ite_f hc hf
    refine lv_aload_n hx hb dX6_init_50 rfl (lv_at hl 0 rfl) ?_
    refine lv_iload_n hx hb dX6_init_51 rfl (lv_at hl 1 rfl) ?_
    refine lv_bipush (v := (111 : Int32)) hx hb dX6_init_52 (by decide) ?_
    refine lv_bipush (v := (100 : Int32)) hx hb dX6_init_54 (by decide) ?_
    refine lv_iload_n hx hb dX6_init_56 rfl (lv_at hl 1 rfl) ?_
    refine lv_bipush (v := (16 : Int32)) hx hb dX6_init_57 (by decide) ?_
    refine lv_idiv hx hb dX6_init_59 (by decide) ?_
    refine lv_imul hx hb dX6_init_60 ?_
    refine lv_iadd hx hb dX6_init_61 ?_
    refine lv_bipush (v := (10 : Int32)) hx hb dX6_init_62 (by decide) ?_
    refine lv_iload_n hx hb dX6_init_64 rfl (lv_at hl 1 rfl) ?_
    refine lv_iconst (v := (4 : Int32)) hx hb dX6_init_65 (by decide) ?_
    refine lv_idiv hx hb dX6_init_66 (by decide) ?_
    refine lv_iconst (v := (4 : Int32)) hx hb dX6_init_67 (by decide) ?_
    refine lv_irem hx hb dX6_init_68 (by decide) ?_
    refine lv_imul hx hb dX6_init_69 ?_
    refine lv_iadd hx hb dX6_init_70 ?_
    refine lv_iload_n hx hb dX6_init_71 rfl (lv_at hl 1 rfl) ?_
    refine lv_iconst (v := (4 : Int32)) hx hb dX6_init_72 (by decide) ?_
    refine lv_irem hx hb dX6_init_73 (by decide) ?_
    refine lv_iadd hx hb dX6_init_74 ?_
    obtain ⟨hc_56, hf⟩ := aw_chk_some hf
    obtain ⟨z_54, hz_55, hf⟩ := aw_bind_some hf
    refine aw_VV (As := [.int x1, .int (((((111 : Int32)) + (((100 : Int32)) * (x1 / (16 : Int32)))) + (((10 : Int32)) * ((x1 / (4 : Int32)) - (x1 / (4 : Int32)) / (4 : Int32) * (4 : Int32)))) + (x1 - x1 / (4 : Int32) * (4 : Int32)))]) (rest := []) X G hl.1 cr_X6_30 (c_X6_put l hz_55) ⟨rfl, rfl⟩ rfl rfl rfl (by decide) hc_56 rfl ⟨Nat.le_of_ble_eq_true rfl, Nat.le_of_ble_eq_true rfl⟩ (Nat.le_of_ble_eq_true rfl) dX6_init_75 ⟨Nat.le_of_ble_eq_true rfl, Nat.le_of_ble_eq_true rfl⟩ (fun H locs G => ?_)
    refine lv_iinc (v := x1 + 1) (lv' := [(1, .int (x1 + 1)), (0, .ref (ad x0))]) hx hb dX6_init_78 hl (k := 1) rfl rfl (by decide) rfl (fun ls hl => ?_)
    refine lv_goto (tgt := 44) hx hb dX6_init_81 (by decide) ?_
    refine W.widen (k := 55) (n := 368) (Nat.le_of_ble_eq_true rfl) (Nat.le_of_ble_eq_true rfl) ?_
    exact hkb44 _ _ _ hf _ E _ _ _ (lv_sub hl [1, 0] rfl) G
theorem w_X6_init_L44 {z : Sg × Dt} (X : aw_X p c cX6_init 2 s RX6 m meth (none)) {k44 : Sg → Dt → Option (Sg × Dt)} {x0 : Nat} (n : Nat) {x1 : Int32} {σ : Sg} {d : Dt} {ad : Nat → Nat} (hf : f_X6_init_L44 n k44 x0 x1 σ d = some z) (hk44 : ∀ (σ : Sg) (d : Dt), k44 σ d = some z → ∀ (ad : Nat → Nat), aw_ext σ0 ad0 σ ad → ∀ (H : Heap) (locs : List Loc) (ls : Array Slot), lv_has ls 2 [] → aw_G D cA base ad σ d s H locs → W p l e rm_X6_init s m args below meth c H locs 55 368 (aw_En D cA base ad0 σ0 below args s 55 368 z) (F0 m 84 ls [])) (E : aw_ext σ0 ad0 σ ad) {H : Heap} {locs : List Loc} {ls : Array Slot} (hl : lv_has ls 2 [(0, .ref (ad x0)), (1, .int x1)]) (G : aw_G D cA base ad σ d s H locs) : W p l e rm_X6_init s m args below meth c H locs 55 368 (aw_En D cA base ad0 σ0 below args s 55 368 z) (F0 m 44 ls []) := by
  induction n generalizing x1 σ d ad H locs ls with
  | zero => exact absurd (show (none : Option (Sg × Dt)) = some z from hf) (by simp)
  | succ n ih => exact w_X6_init_B44 X (kb44 := f_X6_init_L44 n k44 x0) hf  (fun x1 σ d hf ad E H locs ls hl G => ih hf E hl G) hk44 E hl G
end W_X6_init
set_option maxHeartbeats 4000000 in
set_option maxRecDepth 100000 in
theorem c_X6_init (l : Launch) {σ : Sg} {x0 : Nat} {d : Dt} {z : Sg × Dt} (hf : f_X6_init x0 σ d = some z) : aw_Nv l yX6_init (Cond.code yX6_init cX6_init 2 (none)) rm_X6_init (fun ad => [.ref (ad x0)]) σ d z := by
  intro hwf D cA base ad
  refine aw_ofW (own := RX6) (cc := cX6_init) (nL := 2) (ret := none) (by decide) rfl rfl ?_
  intro p e s m below meth c X hnm G
  have hx := X.1; have hb := X.2.1; have hml := X.2.2.1; have hown := X.2.2.2.1
  have E : aw_ext σ ad σ ad := aw_ext.rf hwf
  refine aw_ls (lv := [(0, .ref (ad x0))]) (Nat.le_of_ble_eq_true rfl) rfl (fun ls hl => ?_)
  generalize ([.ref (ad x0)] : List Value).toArray = args0
  unfold f_X6_init at hf
  refine lv_aload_n hx hb dX6_init_0 rfl (lv_at hl 0 rfl) ?_
  refine aw_objI X G hl.1 m_101 m_27 m_28 ⟨Nat.le_of_ble_eq_true rfl, Nat.le_of_ble_eq_true rfl⟩ dX6_init_1 ?_
  refine lv_aload_n hx hb dX6_init_4 rfl (lv_at hl 0 rfl) ?_
  obtain ⟨hc_1, hf⟩ := aw_chk_some hf
  refine aw_newO (ci := 8) (C := RX8) (T := TX8) (N := 1) X G E (by decide) tyX8 tyX8_ok rfl inaX8 m_102 m_103 m_5 dzX8 (Nat.le_of_ble_eq_true rfl) (Nat.le_of_ble_eq_true rfl) hf dX6_init_5 (fun q_2 σ_3 d_4 ad_5 H hf hext_7 E_6 G => ?_)
  have ha_8 := (hext_7 _ hc_1).symm
  rw [ha_8]
  rw [ha_8] at hl
  refine lv_dup hx hb dX6_init_8 rfl ?_
  obtain ⟨hc_9, hf⟩ := aw_chk_some hf
  obtain ⟨hc_10, hf⟩ := aw_chk_some hf
  obtain ⟨z_11, hz_12, hf⟩ := aw_bind_some hf
  refine aw_INN (As := []) (rest := [.ref (ad_5 q_2), .ref (ad_5 x0)]) X G E_6 hl.1 cr_X6_11 (c_X8_init l hz_12) rfl rfl rfl ⟨Nat.le_of_ble_eq_true rfl, Nat.le_of_ble_eq_true rfl⟩ (Nat.le_of_ble_eq_true rfl) dX6_init_9 ⟨Nat.le_of_ble_eq_true rfl, Nat.le_of_ble_eq_true rfl⟩ (fun ad_13 H locs hext_15 E_14 G => ?_)
  have ha_16 := (hext_15 _ hc_9).symm
  rw [ha_16]
  have ha_17 := (hext_15 _ hc_10).symm
  rw [ha_17]
  rw [ha_17] at hl
  obtain ⟨hc_18, hf⟩ := aw_chk_some hf
  refine pr_X6_12 hx hb G hown hnm E_14 hc_18 hf dX6_init_12 (fun σ_19 H locs hf E_20 G => ?_)
  refine lv_aload_n hx hb dX6_init_15 rfl (lv_at hl 0 rfl) ?_
  refine lv_bipush (v := (50 : Int32)) hx hb dX6_init_16 (by decide) ?_
  obtain ⟨hc_21, hf⟩ := aw_chk_some hf
  refine aw_newA (atype := .int) (t := 20) (ty := .int) (N := 50) X G E_20 rfl m_52 (by decide) rfl (fun _ _ h => h) (by decide) (by decide) (fun _ => rfl) (aw_a0i 50) (Nat.le_of_ble_eq_true rfl) (Nat.le_of_ble_eq_true rfl) (Nat.le_of_ble_eq_true rfl) hf dX6_init_18 (fun q_22 σ_23 d_24 ad_25 H hf hext_27 E_26 G => ?_)
  have ha_28 := (hext_27 _ hc_21).symm
  rw [ha_28]
  rw [ha_28] at hl
  obtain ⟨hc_29, hf⟩ := aw_chk_some hf
  refine pr_X6_18 hx hb G hown hnm E_26 hc_29 hf dX6_init_20 (fun σ_30 H locs hf E_31 G => ?_)
  refine lv_aload_n hx hb dX6_init_23 rfl (lv_at hl 0 rfl) ?_
  refine lv_bipush (v := (50 : Int32)) hx hb dX6_init_24 (by decide) ?_
  refine lv_iconst (v := (4 : Int32)) hx hb dX6_init_26 (by decide) ?_
  obtain ⟨hc_32, hf⟩ := aw_chk_some hf
  refine aw_newM (ty := .int) (t := 23) (t2 := 20) (N := 50) (K := 4) X G E_31 m_112 G.1.2.2.2.2.1.2.2.1 m_52 (by decide +kernel) (fun _ _ h => h) (by decide) rfl (by decide) rfl (by decide) (by decide) (by decide) (by decide) (Nat.le_of_ble_eq_true rfl) (Nat.le_of_ble_eq_true rfl) (Nat.le_of_ble_eq_true rfl) rfl rfl (aw_inni 4) (aw_a0i 4) (Nat.le_of_ble_eq_true rfl) (Nat.le_of_ble_eq_true rfl) hf dX6_init_27 (fun q_33 σ_34 d_35 ad_36 H hf hext_38 E_37 G => ?_)
  have ha_39 := (hext_38 _ hc_32).symm
  rw [ha_39]
  rw [ha_39] at hl
  obtain ⟨hc_40, hf⟩ := aw_chk_some hf
  refine pr_X6_24 hx hb G hown hnm E_37 hc_40 hf dX6_init_31 (fun σ_41 H locs hf E_42 G => ?_)
  refine lv_aload_n hx hb dX6_init_34 rfl (lv_at hl 0 rfl) ?_
  refine lv_bipush (v := (50 : Int32)) hx hb dX6_init_35 (by decide) ?_
  obtain ⟨hc_43, hf⟩ := aw_chk_some hf
  refine aw_newA (atype := .int) (t := 20) (ty := .int) (N := 50) X G E_42 rfl m_52 (by decide) rfl (fun _ _ h => h) (by decide) (by decide) (fun _ => rfl) (aw_a0i 50) (Nat.le_of_ble_eq_true rfl) (Nat.le_of_ble_eq_true rfl) (Nat.le_of_ble_eq_true rfl) hf dX6_init_37 (fun q_44 σ_45 d_46 ad_47 H hf hext_49 E_48 G => ?_)
  have ha_50 := (hext_49 _ hc_43).symm
  rw [ha_50]
  rw [ha_50] at hl
  obtain ⟨hc_51, hf⟩ := aw_chk_some hf
  refine pr_X6_27 hx hb G hown hnm E_48 hc_51 hf dX6_init_39 (fun σ_52 H locs hf E_53 G => ?_)
  refine lv_iconst (v := (0 : Int32)) hx hb dX6_init_42 (by decide) ?_
  refine lv_istore_n (lv' := [(1, .int ((0 : Int32))), (0, .ref (ad_47 x0))]) hx hb dX6_init_43 rfl hl (by decide) rfl (fun ls hl => ?_)
  refine W.widen (k := 55) (n := 368) (Nat.le_of_ble_eq_true rfl) (Nat.le_of_ble_eq_true rfl) ?_
  refine w_X6_init_L44 X aw_FU hf  (fun σ_57 d_58 hf ad_59 E_60 H locs ls hl G => ?_) E_53 (lv_sub hl [1, 0] rfl) G
  exact aw_retn X G E_60 hf dX6_init_84 (Nat.le_of_ble_eq_true rfl) (Nat.le_of_ble_eq_true rfl)
def rm_X0_init : Room := { frames := 1, cells := 10, slots := 46, locals := 20 }
def f_X0_init (x0 : Nat) (σ : Sg) (d : Dt) : Option (Sg × Dt) :=
  aw_chk (x0 < σ.1) (aw_new σ d 20 4 (fun q_2 σ_3 d_4 => aw_chk (aw_O σ_3 0 7 x0 ∧ q_2 < σ_3.1) (aw_let (aw_sR σ_3 x0 0 q_2) (fun σ_10 => aw_chk (x0 < σ_10.1) (aw_new σ_10 d_4 20 4 (fun q_13 σ_14 d_15 => aw_chk (aw_O σ_14 0 7 x0 ∧ q_13 < σ_14.1) (aw_let (aw_sR σ_14 x0 1 q_13) (fun σ_21 => aw_chk (x0 < σ_21.1) (aw_new σ_21 d_15 20 4 (fun q_24 σ_25 d_26 => aw_chk (aw_O σ_25 0 7 x0 ∧ q_24 < σ_25.1) (aw_let (aw_sR σ_25 x0 2 q_24) (fun σ_32 => aw_chk (x0 < σ_32.1) (aw_new2 σ_32 d_26 23 4 20 5 (fun q_35 σ_36 d_37 => aw_chk (aw_O σ_36 0 7 x0 ∧ q_35 < σ_36.1) (aw_let (aw_sR σ_36 x0 3 q_35) (fun σ_43 => aw_chk (x0 < σ_43.1) (aw_new σ_43 d_37 20 5 (fun q_46 σ_47 d_48 => aw_chk (aw_O σ_47 0 7 x0 ∧ q_46 < σ_47.1) (aw_let (aw_sR σ_47 x0 4 q_46) (fun σ_54 => aw_chk (x0 < σ_54.1) (aw_new σ_54 d_48 22 5 (fun q_57 σ_58 d_59 => aw_chk (aw_O σ_58 0 7 x0 ∧ q_57 < σ_58.1) (aw_let (aw_sR σ_58 x0 5 q_57) (fun σ_65 => aw_chk (aw_O σ_65 0 7 x0) (some (σ_65, aw_sI d_59 x0 6 ((0 : Int32))))))))))))))))))))))))))))
section W_X0_init
variable {p : Program} {l : Launch} {e : Env} {s : State} {m : MethodId} {args : Array Value} {below : List Frame} {meth : Method} {c : Code}
variable {D : va_G} {cA : Nat → ClassId} {base : Nat} {ad0 : Nat → Nat} {σ0 : Sg}
end W_X0_init
set_option maxHeartbeats 4000000 in
set_option maxRecDepth 100000 in
theorem c_X0_init (l : Launch) {σ : Sg} {x0 : Nat} {d : Dt} {z : Sg × Dt} (hf : f_X0_init x0 σ d = some z) : aw_Nv l yX0_init (Cond.code yX0_init cX0_init 1 (none)) rm_X0_init (fun ad => [.ref (ad x0)]) σ d z := by
  intro hwf D cA base ad
  refine aw_ofW (own := RX0) (cc := cX0_init) (nL := 1) (ret := none) (by decide) rfl rfl ?_
  intro p e s m below meth c X hnm G
  have hx := X.1; have hb := X.2.1; have hml := X.2.2.1; have hown := X.2.2.2.1
  have E : aw_ext σ ad σ ad := aw_ext.rf hwf
  refine aw_ls (lv := [(0, .ref (ad x0))]) (Nat.le_of_ble_eq_true rfl) rfl (fun ls hl => ?_)
  generalize ([.ref (ad x0)] : List Value).toArray = args0
  unfold f_X0_init at hf
  refine lv_aload_n hx hb dX0_init_0 rfl (lv_at hl 0 rfl) ?_
  refine aw_objI X G hl.1 m_139 m_27 m_28 ⟨Nat.le_of_ble_eq_true rfl, Nat.le_of_ble_eq_true rfl⟩ dX0_init_1 ?_
  refine lv_aload_n hx hb dX0_init_4 rfl (lv_at hl 0 rfl) ?_
  refine lv_iconst (v := (4 : Int32)) hx hb dX0_init_5 (by decide) ?_
  obtain ⟨hc_1, hf⟩ := aw_chk_some hf
  refine aw_newA (atype := .int) (t := 20) (ty := .int) (N := 4) X G E rfl m_52 (by decide) rfl (fun _ _ h => h) (by decide) (by decide) (fun _ => rfl) (aw_a0i 4) (Nat.le_of_ble_eq_true rfl) (Nat.le_of_ble_eq_true rfl) (Nat.le_of_ble_eq_true rfl) hf dX0_init_6 (fun q_2 σ_3 d_4 ad_5 H hf hext_7 E_6 G => ?_)
  have ha_8 := (hext_7 _ hc_1).symm
  rw [ha_8]
  rw [ha_8] at hl
  obtain ⟨hc_9, hf⟩ := aw_chk_some hf
  refine pr_X0_9 hx hb G hown hnm E_6 hc_9 hf dX0_init_8 (fun σ_10 H locs hf E_11 G => ?_)
  refine lv_aload_n hx hb dX0_init_11 rfl (lv_at hl 0 rfl) ?_
  refine lv_iconst (v := (4 : Int32)) hx hb dX0_init_12 (by decide) ?_
  obtain ⟨hc_12, hf⟩ := aw_chk_some hf
  refine aw_newA (atype := .int) (t := 20) (ty := .int) (N := 4) X G E_11 rfl m_52 (by decide) rfl (fun _ _ h => h) (by decide) (by decide) (fun _ => rfl) (aw_a0i 4) (Nat.le_of_ble_eq_true rfl) (Nat.le_of_ble_eq_true rfl) (Nat.le_of_ble_eq_true rfl) hf dX0_init_13 (fun q_13 σ_14 d_15 ad_16 H hf hext_18 E_17 G => ?_)
  have ha_19 := (hext_18 _ hc_12).symm
  rw [ha_19]
  rw [ha_19] at hl
  obtain ⟨hc_20, hf⟩ := aw_chk_some hf
  refine pr_X0_15 hx hb G hown hnm E_17 hc_20 hf dX0_init_15 (fun σ_21 H locs hf E_22 G => ?_)
  refine lv_aload_n hx hb dX0_init_18 rfl (lv_at hl 0 rfl) ?_
  refine lv_iconst (v := (4 : Int32)) hx hb dX0_init_19 (by decide) ?_
  obtain ⟨hc_23, hf⟩ := aw_chk_some hf
  refine aw_newA (atype := .int) (t := 20) (ty := .int) (N := 4) X G E_22 rfl m_52 (by decide) rfl (fun _ _ h => h) (by decide) (by decide) (fun _ => rfl) (aw_a0i 4) (Nat.le_of_ble_eq_true rfl) (Nat.le_of_ble_eq_true rfl) (Nat.le_of_ble_eq_true rfl) hf dX0_init_20 (fun q_24 σ_25 d_26 ad_27 H hf hext_29 E_28 G => ?_)
  have ha_30 := (hext_29 _ hc_23).symm
  rw [ha_30]
  rw [ha_30] at hl
  obtain ⟨hc_31, hf⟩ := aw_chk_some hf
  refine pr_X0_18 hx hb G hown hnm E_28 hc_31 hf dX0_init_22 (fun σ_32 H locs hf E_33 G => ?_)
  refine lv_aload_n hx hb dX0_init_25 rfl (lv_at hl 0 rfl) ?_
  refine lv_iconst (v := (4 : Int32)) hx hb dX0_init_26 (by decide) ?_
  refine lv_iconst (v := (5 : Int32)) hx hb dX0_init_27 (by decide) ?_
  obtain ⟨hc_34, hf⟩ := aw_chk_some hf
  refine aw_newM (ty := .int) (t := 23) (t2 := 20) (N := 4) (K := 5) X G E_33 m_140 G.1.2.2.2.2.1.2.2.1 m_52 (by decide +kernel) (fun _ _ h => h) (by decide) rfl (by decide) rfl (by decide) (by decide) (by decide) (by decide) (Nat.le_of_ble_eq_true rfl) (Nat.le_of_ble_eq_true rfl) (Nat.le_of_ble_eq_true rfl) rfl rfl (aw_inni 5) (aw_a0i 5) (Nat.le_of_ble_eq_true rfl) (Nat.le_of_ble_eq_true rfl) hf dX0_init_28 (fun q_35 σ_36 d_37 ad_38 H hf hext_40 E_39 G => ?_)
  have ha_41 := (hext_40 _ hc_34).symm
  rw [ha_41]
  rw [ha_41] at hl
  obtain ⟨hc_42, hf⟩ := aw_chk_some hf
  refine pr_X0_23 hx hb G hown hnm E_39 hc_42 hf dX0_init_32 (fun σ_43 H locs hf E_44 G => ?_)
  refine lv_aload_n hx hb dX0_init_35 rfl (lv_at hl 0 rfl) ?_
  refine lv_iconst (v := (5 : Int32)) hx hb dX0_init_36 (by decide) ?_
  obtain ⟨hc_45, hf⟩ := aw_chk_some hf
  refine aw_newA (atype := .int) (t := 20) (ty := .int) (N := 5) X G E_44 rfl m_52 (by decide) rfl (fun _ _ h => h) (by decide) (by decide) (fun _ => rfl) (aw_a0i 5) (Nat.le_of_ble_eq_true rfl) (Nat.le_of_ble_eq_true rfl) (Nat.le_of_ble_eq_true rfl) hf dX0_init_37 (fun q_46 σ_47 d_48 ad_49 H hf hext_51 E_50 G => ?_)
  have ha_52 := (hext_51 _ hc_45).symm
  rw [ha_52]
  rw [ha_52] at hl
  obtain ⟨hc_53, hf⟩ := aw_chk_some hf
  refine pr_X0_26 hx hb G hown hnm E_50 hc_53 hf dX0_init_39 (fun σ_54 H locs hf E_55 G => ?_)
  refine lv_aload_n hx hb dX0_init_42 rfl (lv_at hl 0 rfl) ?_
  refine lv_iconst (v := (5 : Int32)) hx hb dX0_init_43 (by decide) ?_
  obtain ⟨hc_56, hf⟩ := aw_chk_some hf
  refine aw_newA (atype := .boolean) (t := 22) (ty := .boolean) (N := 5) X G E_55 rfl m_92 (by decide) rfl (fun _ _ h => h) (by decide) (by decide) (fun _ => rfl) (aw_a0z 5) (Nat.le_of_ble_eq_true rfl) (Nat.le_of_ble_eq_true rfl) (Nat.le_of_ble_eq_true rfl) hf dX0_init_44 (fun q_57 σ_58 d_59 ad_60 H hf hext_62 E_61 G => ?_)
  have ha_63 := (hext_62 _ hc_56).symm
  rw [ha_63]
  rw [ha_63] at hl
  obtain ⟨hc_64, hf⟩ := aw_chk_some hf
  refine pr_X0_29 hx hb G hown hnm E_61 hc_64 hf dX0_init_46 (fun σ_65 H locs hf E_66 G => ?_)
  refine lv_aload_n hx hb dX0_init_49 rfl (lv_at hl 0 rfl) ?_
  refine lv_iconst (v := (0 : Int32)) hx hb dX0_init_50 (by decide) ?_
  obtain ⟨hc_67, hf⟩ := aw_chk_some hf
  refine pf_X0_33 hx hb G hown hc_67 dX0_init_51 (fun H locs G => ?_)
  exact aw_retn X G E_66 hf dX0_init_54 (Nat.le_of_ble_eq_true rfl) (Nat.le_of_ble_eq_true rfl)
def rm_X7_init : Room := { frames := 1, cells := 22, slots := 360, locals := 20 }
def f_X7_init (x0 : Nat) (σ : Sg) (d : Dt) : Option (Sg × Dt) :=
  aw_chk (x0 < σ.1) (aw_new2 σ d 23 20 20 16 (fun q_2 σ_3 d_4 => aw_chk (aw_O σ_3 7 3 x0 ∧ q_2 < σ_3.1) (aw_let (aw_sR σ_3 x0 0 q_2) (fun σ_10 => aw_chk (x0 < σ_10.1) (aw_new σ_10 d_4 20 20 (fun q_13 σ_14 d_15 => aw_chk (aw_O σ_14 7 3 x0 ∧ q_13 < σ_14.1) (aw_let (aw_sR σ_14 x0 1 q_13) (fun σ_21 => aw_chk (aw_O σ_21 7 3 x0) (some (σ_21, aw_sI d_15 x0 2 ((0 : Int32))))))))))))
section W_X7_init
variable {p : Program} {l : Launch} {e : Env} {s : State} {m : MethodId} {args : Array Value} {below : List Frame} {meth : Method} {c : Code}
variable {D : va_G} {cA : Nat → ClassId} {base : Nat} {ad0 : Nat → Nat} {σ0 : Sg}
end W_X7_init
set_option maxHeartbeats 4000000 in
set_option maxRecDepth 100000 in
theorem c_X7_init (l : Launch) {σ : Sg} {x0 : Nat} {d : Dt} {z : Sg × Dt} (hf : f_X7_init x0 σ d = some z) : aw_Nv l yX7_init (Cond.code yX7_init cX7_init 1 (none)) rm_X7_init (fun ad => [.ref (ad x0)]) σ d z := by
  intro hwf D cA base ad
  refine aw_ofW (own := RX7) (cc := cX7_init) (nL := 1) (ret := none) (by decide) rfl rfl ?_
  intro p e s m below meth c X hnm G
  have hx := X.1; have hb := X.2.1; have hml := X.2.2.1; have hown := X.2.2.2.1
  have E : aw_ext σ ad σ ad := aw_ext.rf hwf
  refine aw_ls (lv := [(0, .ref (ad x0))]) (Nat.le_of_ble_eq_true rfl) rfl (fun ls hl => ?_)
  generalize ([.ref (ad x0)] : List Value).toArray = args0
  unfold f_X7_init at hf
  refine lv_aload_n hx hb dX7_init_0 rfl (lv_at hl 0 rfl) ?_
  refine aw_objI X G hl.1 m_173 m_27 m_28 ⟨Nat.le_of_ble_eq_true rfl, Nat.le_of_ble_eq_true rfl⟩ dX7_init_1 ?_
  refine lv_aload_n hx hb dX7_init_4 rfl (lv_at hl 0 rfl) ?_
  refine lv_bipush (v := (20 : Int32)) hx hb dX7_init_5 (by decide) ?_
  refine lv_bipush (v := (16 : Int32)) hx hb dX7_init_7 (by decide) ?_
  obtain ⟨hc_1, hf⟩ := aw_chk_some hf
  refine aw_newM (ty := .int) (t := 23) (t2 := 20) (N := 20) (K := 16) X G E m_174 G.1.2.2.2.2.1.2.2.1 m_52 (by decide +kernel) (fun _ _ h => h) (by decide) rfl (by decide) rfl (by decide) (by decide) (by decide) (by decide) (Nat.le_of_ble_eq_true rfl) (Nat.le_of_ble_eq_true rfl) (Nat.le_of_ble_eq_true rfl) rfl rfl (aw_inni 16) (aw_a0i 16) (Nat.le_of_ble_eq_true rfl) (Nat.le_of_ble_eq_true rfl) hf dX7_init_9 (fun q_2 σ_3 d_4 ad_5 H hf hext_7 E_6 G => ?_)
  have ha_8 := (hext_7 _ hc_1).symm
  rw [ha_8]
  rw [ha_8] at hl
  obtain ⟨hc_9, hf⟩ := aw_chk_some hf
  refine pr_X7_11 hx hb G hown hnm E_6 hc_9 hf dX7_init_13 (fun σ_10 H locs hf E_11 G => ?_)
  refine lv_aload_n hx hb dX7_init_16 rfl (lv_at hl 0 rfl) ?_
  refine lv_bipush (v := (20 : Int32)) hx hb dX7_init_17 (by decide) ?_
  obtain ⟨hc_12, hf⟩ := aw_chk_some hf
  refine aw_newA (atype := .int) (t := 20) (ty := .int) (N := 20) X G E_11 rfl m_52 (by decide) rfl (fun _ _ h => h) (by decide) (by decide) (fun _ => rfl) (aw_a0i 20) (Nat.le_of_ble_eq_true rfl) (Nat.le_of_ble_eq_true rfl) (Nat.le_of_ble_eq_true rfl) hf dX7_init_19 (fun q_13 σ_14 d_15 ad_16 H hf hext_18 E_17 G => ?_)
  have ha_19 := (hext_18 _ hc_12).symm
  rw [ha_19]
  rw [ha_19] at hl
  obtain ⟨hc_20, hf⟩ := aw_chk_some hf
  refine pr_X7_16 hx hb G hown hnm E_17 hc_20 hf dX7_init_21 (fun σ_21 H locs hf E_22 G => ?_)
  refine lv_aload_n hx hb dX7_init_24 rfl (lv_at hl 0 rfl) ?_
  refine lv_iconst (v := (0 : Int32)) hx hb dX7_init_25 (by decide) ?_
  obtain ⟨hc_23, hf⟩ := aw_chk_some hf
  refine pf_X7_20 hx hb G hown hc_23 dX7_init_26 (fun H locs G => ?_)
  exact aw_retn X G E_22 hf dX7_init_29 (Nat.le_of_ble_eq_true rfl) (Nat.le_of_ble_eq_true rfl)
def rm_X5_init : Room := { frames := 1, cells := 27, slots := 241, locals := 20 }
def f_X5_init (x0 : Nat) (σ : Sg) (d : Dt) : Option (Sg × Dt) :=
  aw_chk (x0 < σ.1) (aw_new σ d 21 17 (fun q_2 σ_3 d_4 => aw_chk (aw_O σ_3 5 6 x0 ∧ q_2 < σ_3.1) (aw_let (aw_sR σ_3 x0 0 q_2) (fun σ_10 => aw_chk (x0 < σ_10.1) (aw_new σ_10 d_4 21 17 (fun q_13 σ_14 d_15 => aw_chk (aw_O σ_14 5 6 x0 ∧ q_13 < σ_14.1) (aw_let (aw_sR σ_14 x0 1 q_13) (fun σ_21 => aw_chk (x0 < σ_21.1) (aw_new σ_21 d_15 21 17 (fun q_24 σ_25 d_26 => aw_chk (aw_O σ_25 5 6 x0 ∧ q_24 < σ_25.1) (aw_let (aw_sR σ_25 x0 2 q_24) (fun σ_32 => aw_chk (x0 < σ_32.1) (aw_new2 σ_32 d_26 23 16 20 5 (fun q_35 σ_36 d_37 => aw_chk (aw_O σ_36 5 6 x0 ∧ q_35 < σ_36.1) (aw_let (aw_sR σ_36 x0 3 q_35) (fun σ_43 => aw_chk (x0 < σ_43.1) (aw_new2 σ_43 d_37 24 5 21 17 (fun q_46 σ_47 d_48 => aw_chk (aw_O σ_47 5 6 x0 ∧ q_46 < σ_47.1) (aw_let (aw_sR σ_47 x0 4 q_46) (fun σ_54 => aw_chk (x0 < σ_54.1) (aw_new σ_54 d_48 20 4 (fun q_57 σ_58 d_59 => aw_chk (aw_O σ_58 5 6 x0 ∧ q_57 < σ_58.1) (aw_let (aw_sR σ_58 x0 5 q_57) (fun σ_65 => some (σ_65, d_59)))))))))))))))))))))))))
section W_X5_init
variable {p : Program} {l : Launch} {e : Env} {s : State} {m : MethodId} {args : Array Value} {below : List Frame} {meth : Method} {c : Code}
variable {D : va_G} {cA : Nat → ClassId} {base : Nat} {ad0 : Nat → Nat} {σ0 : Sg}
end W_X5_init
set_option maxHeartbeats 4000000 in
set_option maxRecDepth 100000 in
theorem c_X5_init (l : Launch) {σ : Sg} {x0 : Nat} {d : Dt} {z : Sg × Dt} (hf : f_X5_init x0 σ d = some z) : aw_Nv l yX5_init (Cond.code yX5_init cX5_init 1 (none)) rm_X5_init (fun ad => [.ref (ad x0)]) σ d z := by
  intro hwf D cA base ad
  refine aw_ofW (own := RX5) (cc := cX5_init) (nL := 1) (ret := none) (by decide) rfl rfl ?_
  intro p e s m below meth c X hnm G
  have hx := X.1; have hb := X.2.1; have hml := X.2.2.1; have hown := X.2.2.2.1
  have E : aw_ext σ ad σ ad := aw_ext.rf hwf
  refine aw_ls (lv := [(0, .ref (ad x0))]) (Nat.le_of_ble_eq_true rfl) rfl (fun ls hl => ?_)
  generalize ([.ref (ad x0)] : List Value).toArray = args0
  unfold f_X5_init at hf
  refine lv_aload_n hx hb dX5_init_0 rfl (lv_at hl 0 rfl) ?_
  refine aw_objI X G hl.1 m_195 m_27 m_28 ⟨Nat.le_of_ble_eq_true rfl, Nat.le_of_ble_eq_true rfl⟩ dX5_init_1 ?_
  refine lv_aload_n hx hb dX5_init_4 rfl (lv_at hl 0 rfl) ?_
  refine lv_bipush (v := (17 : Int32)) hx hb dX5_init_5 (by decide) ?_
  obtain ⟨hc_1, hf⟩ := aw_chk_some hf
  refine aw_newA (atype := .long) (t := 21) (ty := .long) (N := 17) X G E rfl m_218 (by decide) rfl (fun _ _ h => h) (by decide) (by decide) (fun _ => rfl) (aw_a0l 17) (Nat.le_of_ble_eq_true rfl) (Nat.le_of_ble_eq_true rfl) (Nat.le_of_ble_eq_true rfl) hf dX5_init_7 (fun q_2 σ_3 d_4 ad_5 H hf hext_7 E_6 G => ?_)
  have ha_8 := (hext_7 _ hc_1).symm
  rw [ha_8]
  rw [ha_8] at hl
  obtain ⟨hc_9, hf⟩ := aw_chk_some hf
  refine pr_X5_9 hx hb G hown hnm E_6 hc_9 hf dX5_init_9 (fun σ_10 H locs hf E_11 G => ?_)
  refine lv_aload_n hx hb dX5_init_12 rfl (lv_at hl 0 rfl) ?_
  refine lv_bipush (v := (17 : Int32)) hx hb dX5_init_13 (by decide) ?_
  obtain ⟨hc_12, hf⟩ := aw_chk_some hf
  refine aw_newA (atype := .long) (t := 21) (ty := .long) (N := 17) X G E_11 rfl m_218 (by decide) rfl (fun _ _ h => h) (by decide) (by decide) (fun _ => rfl) (aw_a0l 17) (Nat.le_of_ble_eq_true rfl) (Nat.le_of_ble_eq_true rfl) (Nat.le_of_ble_eq_true rfl) hf dX5_init_15 (fun q_13 σ_14 d_15 ad_16 H hf hext_18 E_17 G => ?_)
  have ha_19 := (hext_18 _ hc_12).symm
  rw [ha_19]
  rw [ha_19] at hl
  obtain ⟨hc_20, hf⟩ := aw_chk_some hf
  refine pr_X5_15 hx hb G hown hnm E_17 hc_20 hf dX5_init_17 (fun σ_21 H locs hf E_22 G => ?_)
  refine lv_aload_n hx hb dX5_init_20 rfl (lv_at hl 0 rfl) ?_
  refine lv_bipush (v := (17 : Int32)) hx hb dX5_init_21 (by decide) ?_
  obtain ⟨hc_23, hf⟩ := aw_chk_some hf
  refine aw_newA (atype := .long) (t := 21) (ty := .long) (N := 17) X G E_22 rfl m_218 (by decide) rfl (fun _ _ h => h) (by decide) (by decide) (fun _ => rfl) (aw_a0l 17) (Nat.le_of_ble_eq_true rfl) (Nat.le_of_ble_eq_true rfl) (Nat.le_of_ble_eq_true rfl) hf dX5_init_23 (fun q_24 σ_25 d_26 ad_27 H hf hext_29 E_28 G => ?_)
  have ha_30 := (hext_29 _ hc_23).symm
  rw [ha_30]
  rw [ha_30] at hl
  obtain ⟨hc_31, hf⟩ := aw_chk_some hf
  refine pr_X5_18 hx hb G hown hnm E_28 hc_31 hf dX5_init_25 (fun σ_32 H locs hf E_33 G => ?_)
  refine lv_aload_n hx hb dX5_init_28 rfl (lv_at hl 0 rfl) ?_
  refine lv_bipush (v := (16 : Int32)) hx hb dX5_init_29 (by decide) ?_
  refine lv_iconst (v := (5 : Int32)) hx hb dX5_init_31 (by decide) ?_
  obtain ⟨hc_34, hf⟩ := aw_chk_some hf
  refine aw_newM (ty := .int) (t := 23) (t2 := 20) (N := 16) (K := 5) X G E_33 m_196 G.1.2.2.2.2.1.2.2.1 m_52 (by decide +kernel) (fun _ _ h => h) (by decide) rfl (by decide) rfl (by decide) (by decide) (by decide) (by decide) (Nat.le_of_ble_eq_true rfl) (Nat.le_of_ble_eq_true rfl) (Nat.le_of_ble_eq_true rfl) rfl rfl (aw_inni 5) (aw_a0i 5) (Nat.le_of_ble_eq_true rfl) (Nat.le_of_ble_eq_true rfl) hf dX5_init_32 (fun q_35 σ_36 d_37 ad_38 H hf hext_40 E_39 G => ?_)
  have ha_41 := (hext_40 _ hc_34).symm
  rw [ha_41]
  rw [ha_41] at hl
  obtain ⟨hc_42, hf⟩ := aw_chk_some hf
  refine pr_X5_23 hx hb G hown hnm E_39 hc_42 hf dX5_init_36 (fun σ_43 H locs hf E_44 G => ?_)
  refine lv_aload_n hx hb dX5_init_39 rfl (lv_at hl 0 rfl) ?_
  refine lv_iconst (v := (5 : Int32)) hx hb dX5_init_40 (by decide) ?_
  refine lv_bipush (v := (17 : Int32)) hx hb dX5_init_41 (by decide) ?_
  obtain ⟨hc_45, hf⟩ := aw_chk_some hf
  refine aw_newM (ty := .long) (t := 24) (t2 := 21) (N := 5) (K := 17) X G E_44 m_197 G.1.2.2.2.2.1.2.2.2 m_218 (by decide +kernel) (fun _ _ h => h) (by decide) rfl (by decide) rfl (by decide) (by decide) (by decide) (by decide) (Nat.le_of_ble_eq_true rfl) (Nat.le_of_ble_eq_true rfl) (Nat.le_of_ble_eq_true rfl) rfl rfl (aw_innl 17) (aw_a0l 17) (Nat.le_of_ble_eq_true rfl) (Nat.le_of_ble_eq_true rfl) hf dX5_init_43 (fun q_46 σ_47 d_48 ad_49 H hf hext_51 E_50 G => ?_)
  have ha_52 := (hext_51 _ hc_45).symm
  rw [ha_52]
  rw [ha_52] at hl
  obtain ⟨hc_53, hf⟩ := aw_chk_some hf
  refine pr_X5_28 hx hb G hown hnm E_50 hc_53 hf dX5_init_47 (fun σ_54 H locs hf E_55 G => ?_)
  refine lv_aload_n hx hb dX5_init_50 rfl (lv_at hl 0 rfl) ?_
  refine lv_iconst (v := (4 : Int32)) hx hb dX5_init_51 (by decide) ?_
  obtain ⟨hc_56, hf⟩ := aw_chk_some hf
  refine aw_newA (atype := .int) (t := 20) (ty := .int) (N := 4) X G E_55 rfl m_52 (by decide) rfl (fun _ _ h => h) (by decide) (by decide) (fun _ => rfl) (aw_a0i 4) (Nat.le_of_ble_eq_true rfl) (Nat.le_of_ble_eq_true rfl) (Nat.le_of_ble_eq_true rfl) hf dX5_init_52 (fun q_57 σ_58 d_59 ad_60 H hf hext_62 E_61 G => ?_)
  have ha_63 := (hext_62 _ hc_56).symm
  rw [ha_63]
  rw [ha_63] at hl
  obtain ⟨hc_64, hf⟩ := aw_chk_some hf
  refine pr_X5_31 hx hb G hown hnm E_61 hc_64 hf dX5_init_54 (fun σ_65 H locs hf E_66 G => ?_)
  exact aw_retn X G E_66 hf dX5_init_57 (Nat.le_of_ble_eq_true rfl) (Nat.le_of_ble_eq_true rfl)
def rm_X4_init : Room := { frames := 1, cells := 5, slots := 1124, locals := 20 }
def f_X4_init (x0 : Nat) (σ : Sg) (d : Dt) : Option (Sg × Dt) :=
  aw_chk (x0 < σ.1) (aw_new σ d 21 20 (fun q_2 σ_3 d_4 => aw_chk (aw_O σ_3 4 8 x0 ∧ q_2 < σ_3.1) (aw_let (aw_sR σ_3 x0 0 q_2) (fun σ_10 => aw_chk (x0 < σ_10.1) (aw_new σ_10 d_4 20 20 (fun q_13 σ_14 d_15 => aw_chk (aw_O σ_14 4 8 x0 ∧ q_13 < σ_14.1) (aw_let (aw_sR σ_14 x0 1 q_13) (fun σ_21 => aw_chk (aw_O σ_21 4 8 x0) (aw_chk (x0 < σ_21.1) (aw_new σ_21 (aw_sL (aw_sI d_15 x0 2 ((0 : Int32))) x0 3 ((0 : Int64))) 20 50 (fun q_25 σ_26 d_27 => aw_chk (aw_O σ_26 4 8 x0 ∧ q_25 < σ_26.1) (aw_let (aw_sR σ_26 x0 4 q_25) (fun σ_33 => aw_chk (aw_O σ_33 4 8 x0) (aw_chk (x0 < σ_33.1) (aw_new σ_33 (aw_sI d_27 x0 5 ((0 : Int32))) 20 1024 (fun q_37 σ_38 d_39 => aw_chk (aw_O σ_38 4 8 x0 ∧ q_37 < σ_38.1) (aw_let (aw_sR σ_38 x0 6 q_37) (fun σ_45 => aw_chk (x0 < σ_45.1) (aw_new σ_45 d_39 20 10 (fun q_48 σ_49 d_50 => aw_chk (aw_O σ_49 4 8 x0 ∧ q_48 < σ_49.1) (aw_let (aw_sR σ_49 x0 7 q_48) (fun σ_56 => some (σ_56, d_50)))))))))))))))))))))))
section W_X4_init
variable {p : Program} {l : Launch} {e : Env} {s : State} {m : MethodId} {args : Array Value} {below : List Frame} {meth : Method} {c : Code}
variable {D : va_G} {cA : Nat → ClassId} {base : Nat} {ad0 : Nat → Nat} {σ0 : Sg}
end W_X4_init
set_option maxHeartbeats 4000000 in
set_option maxRecDepth 100000 in
theorem c_X4_init (l : Launch) {σ : Sg} {x0 : Nat} {d : Dt} {z : Sg × Dt} (hf : f_X4_init x0 σ d = some z) : aw_Nv l yX4_init (Cond.code yX4_init cX4_init 1 (none)) rm_X4_init (fun ad => [.ref (ad x0)]) σ d z := by
  intro hwf D cA base ad
  refine aw_ofW (own := RX4) (cc := cX4_init) (nL := 1) (ret := none) (by decide) rfl rfl ?_
  intro p e s m below meth c X hnm G
  have hx := X.1; have hb := X.2.1; have hml := X.2.2.1; have hown := X.2.2.2.1
  have E : aw_ext σ ad σ ad := aw_ext.rf hwf
  refine aw_ls (lv := [(0, .ref (ad x0))]) (Nat.le_of_ble_eq_true rfl) rfl (fun ls hl => ?_)
  generalize ([.ref (ad x0)] : List Value).toArray = args0
  unfold f_X4_init at hf
  refine lv_aload_n hx hb dX4_init_0 rfl (lv_at hl 0 rfl) ?_
  refine aw_objI X G hl.1 m_224 m_27 m_28 ⟨Nat.le_of_ble_eq_true rfl, Nat.le_of_ble_eq_true rfl⟩ dX4_init_1 ?_
  refine lv_aload_n hx hb dX4_init_4 rfl (lv_at hl 0 rfl) ?_
  refine lv_bipush (v := (20 : Int32)) hx hb dX4_init_5 (by decide) ?_
  obtain ⟨hc_1, hf⟩ := aw_chk_some hf
  refine aw_newA (atype := .long) (t := 21) (ty := .long) (N := 20) X G E rfl m_218 (by decide) rfl (fun _ _ h => h) (by decide) (by decide) (fun _ => rfl) (aw_a0l 20) (Nat.le_of_ble_eq_true rfl) (Nat.le_of_ble_eq_true rfl) (Nat.le_of_ble_eq_true rfl) hf dX4_init_7 (fun q_2 σ_3 d_4 ad_5 H hf hext_7 E_6 G => ?_)
  have ha_8 := (hext_7 _ hc_1).symm
  rw [ha_8]
  rw [ha_8] at hl
  obtain ⟨hc_9, hf⟩ := aw_chk_some hf
  refine pr_X4_9 hx hb G hown hnm E_6 hc_9 hf dX4_init_9 (fun σ_10 H locs hf E_11 G => ?_)
  refine lv_aload_n hx hb dX4_init_12 rfl (lv_at hl 0 rfl) ?_
  refine lv_bipush (v := (20 : Int32)) hx hb dX4_init_13 (by decide) ?_
  obtain ⟨hc_12, hf⟩ := aw_chk_some hf
  refine aw_newA (atype := .int) (t := 20) (ty := .int) (N := 20) X G E_11 rfl m_52 (by decide) rfl (fun _ _ h => h) (by decide) (by decide) (fun _ => rfl) (aw_a0i 20) (Nat.le_of_ble_eq_true rfl) (Nat.le_of_ble_eq_true rfl) (Nat.le_of_ble_eq_true rfl) hf dX4_init_15 (fun q_13 σ_14 d_15 ad_16 H hf hext_18 E_17 G => ?_)
  have ha_19 := (hext_18 _ hc_12).symm
  rw [ha_19]
  rw [ha_19] at hl
  obtain ⟨hc_20, hf⟩ := aw_chk_some hf
  refine pr_X4_15 hx hb G hown hnm E_17 hc_20 hf dX4_init_17 (fun σ_21 H locs hf E_22 G => ?_)
  refine lv_aload_n hx hb dX4_init_20 rfl (lv_at hl 0 rfl) ?_
  refine lv_iconst (v := (0 : Int32)) hx hb dX4_init_21 (by decide) ?_
  obtain ⟨hc_23, hf⟩ := aw_chk_some hf
  refine pf_X4_19 hx hb G hown hc_23 dX4_init_22 (fun H locs G => ?_)
  refine lv_aload_n hx hb dX4_init_25 rfl (lv_at hl 0 rfl) ?_
  refine lv_lconst (v := (0 : Int64)) hx hb dX4_init_26 (by decide) ?_
  refine pf_X4_23 hx hb G hown hc_23 dX4_init_27 (fun H locs G => ?_)
  refine lv_aload_n hx hb dX4_init_30 rfl (lv_at hl 0 rfl) ?_
  refine lv_bipush (v := (50 : Int32)) hx hb dX4_init_31 (by decide) ?_
  obtain ⟨hc_24, hf⟩ := aw_chk_some hf
  refine aw_newA (atype := .int) (t := 20) (ty := .int) (N := 50) X G E_22 rfl m_52 (by decide) rfl (fun _ _ h => h) (by decide) (by decide) (fun _ => rfl) (aw_a0i 50) (Nat.le_of_ble_eq_true rfl) (Nat.le_of_ble_eq_true rfl) (Nat.le_of_ble_eq_true rfl) hf dX4_init_33 (fun q_25 σ_26 d_27 ad_28 H hf hext_30 E_29 G => ?_)
  have ha_31 := (hext_30 _ hc_24).symm
  rw [ha_31]
  rw [ha_31] at hl
  obtain ⟨hc_32, hf⟩ := aw_chk_some hf
  refine pr_X4_27 hx hb G hown hnm E_29 hc_32 hf dX4_init_35 (fun σ_33 H locs hf E_34 G => ?_)
  refine lv_aload_n hx hb dX4_init_38 rfl (lv_at hl 0 rfl) ?_
  refine lv_iconst (v := (0 : Int32)) hx hb dX4_init_39 (by decide) ?_
  obtain ⟨hc_35, hf⟩ := aw_chk_some hf
  refine pf_X4_30 hx hb G hown hc_35 dX4_init_40 (fun H locs G => ?_)
  refine lv_aload_n hx hb dX4_init_43 rfl (lv_at hl 0 rfl) ?_
  refine lv_sipush (v := (1024 : Int32)) hx hb dX4_init_44 (by decide) ?_
  obtain ⟨hc_36, hf⟩ := aw_chk_some hf
  refine aw_newA (atype := .int) (t := 20) (ty := .int) (N := 1024) X G E_34 rfl m_52 (by decide) rfl (fun _ _ h => h) (by decide) (by decide) (fun _ => rfl) (aw_a0i 1024) (Nat.le_of_ble_eq_true rfl) (Nat.le_of_ble_eq_true rfl) (Nat.le_of_ble_eq_true rfl) hf dX4_init_47 (fun q_37 σ_38 d_39 ad_40 H hf hext_42 E_41 G => ?_)
  have ha_43 := (hext_42 _ hc_36).symm
  rw [ha_43]
  rw [ha_43] at hl
  obtain ⟨hc_44, hf⟩ := aw_chk_some hf
  refine pr_X4_33 hx hb G hown hnm E_41 hc_44 hf dX4_init_49 (fun σ_45 H locs hf E_46 G => ?_)
  refine lv_aload_n hx hb dX4_init_52 rfl (lv_at hl 0 rfl) ?_
  refine lv_bipush (v := (10 : Int32)) hx hb dX4_init_53 (by decide) ?_
  obtain ⟨hc_47, hf⟩ := aw_chk_some hf
  refine aw_newA (atype := .int) (t := 20) (ty := .int) (N := 10) X G E_46 rfl m_52 (by decide) rfl (fun _ _ h => h) (by decide) (by decide) (fun _ => rfl) (aw_a0i 10) (Nat.le_of_ble_eq_true rfl) (Nat.le_of_ble_eq_true rfl) (Nat.le_of_ble_eq_true rfl) hf dX4_init_55 (fun q_48 σ_49 d_50 ad_51 H hf hext_53 E_52 G => ?_)
  have ha_54 := (hext_53 _ hc_47).symm
  rw [ha_54]
  rw [ha_54] at hl
  obtain ⟨hc_55, hf⟩ := aw_chk_some hf
  refine pr_X4_36 hx hb G hown hnm E_52 hc_55 hf dX4_init_57 (fun σ_56 H locs hf E_57 G => ?_)
  exact aw_retn X G E_57 hf dX4_init_60 (Nat.le_of_ble_eq_true rfl) (Nat.le_of_ble_eq_true rfl)
def rm_X3_init : Room := { frames := 1, cells := 1, slots := 2500, locals := 20 }
def f_X3_init (x0 : Nat) (σ : Sg) (d : Dt) : Option (Sg × Dt) :=
  aw_chk (x0 < σ.1) (aw_new σ d 20 2500 (fun q_2 σ_3 d_4 => aw_chk (aw_O σ_3 3 1 x0 ∧ q_2 < σ_3.1) (aw_let (aw_sR σ_3 x0 0 q_2) (fun σ_10 => some (σ_10, d_4)))))
section W_X3_init
variable {p : Program} {l : Launch} {e : Env} {s : State} {m : MethodId} {args : Array Value} {below : List Frame} {meth : Method} {c : Code}
variable {D : va_G} {cA : Nat → ClassId} {base : Nat} {ad0 : Nat → Nat} {σ0 : Sg}
end W_X3_init
set_option maxHeartbeats 4000000 in
set_option maxRecDepth 100000 in
theorem c_X3_init (l : Launch) {σ : Sg} {x0 : Nat} {d : Dt} {z : Sg × Dt} (hf : f_X3_init x0 σ d = some z) : aw_Nv l yX3_init (Cond.code yX3_init cX3_init 1 (none)) rm_X3_init (fun ad => [.ref (ad x0)]) σ d z := by
  intro hwf D cA base ad
  refine aw_ofW (own := RX3) (cc := cX3_init) (nL := 1) (ret := none) (by decide) rfl rfl ?_
  intro p e s m below meth c X hnm G
  have hx := X.1; have hb := X.2.1; have hml := X.2.2.1; have hown := X.2.2.2.1
  have E : aw_ext σ ad σ ad := aw_ext.rf hwf
  refine aw_ls (lv := [(0, .ref (ad x0))]) (Nat.le_of_ble_eq_true rfl) rfl (fun ls hl => ?_)
  generalize ([.ref (ad x0)] : List Value).toArray = args0
  unfold f_X3_init at hf
  refine lv_aload_n hx hb dX3_init_0 rfl (lv_at hl 0 rfl) ?_
  refine aw_objI X G hl.1 m_258 m_27 m_28 ⟨Nat.le_of_ble_eq_true rfl, Nat.le_of_ble_eq_true rfl⟩ dX3_init_1 ?_
  refine lv_aload_n hx hb dX3_init_4 rfl (lv_at hl 0 rfl) ?_
  refine lv_sipush (v := (2500 : Int32)) hx hb dX3_init_5 (by decide) ?_
  obtain ⟨hc_1, hf⟩ := aw_chk_some hf
  refine aw_newA (atype := .int) (t := 20) (ty := .int) (N := 2500) X G E rfl m_52 (by decide) rfl (fun _ _ h => h) (by decide) (by decide) (fun _ => rfl) (aw_a0i 2500) (Nat.le_of_ble_eq_true rfl) (Nat.le_of_ble_eq_true rfl) (Nat.le_of_ble_eq_true rfl) hf dX3_init_8 (fun q_2 σ_3 d_4 ad_5 H hf hext_7 E_6 G => ?_)
  have ha_8 := (hext_7 _ hc_1).symm
  rw [ha_8]
  rw [ha_8] at hl
  obtain ⟨hc_9, hf⟩ := aw_chk_some hf
  refine pr_X3_9 hx hb G hown hnm E_6 hc_9 hf dX3_init_10 (fun σ_10 H locs hf E_11 G => ?_)
  exact aw_retn X G E_11 hf dX3_init_13 (Nat.le_of_ble_eq_true rfl) (Nat.le_of_ble_eq_true rfl)
def rm_X1_init : Room := { frames := 1, cells := 3, slots := 100, locals := 20 }
def f_X1_init_B39 (kb39 : Int32 → Sg → Dt → Option (Sg × Dt)) (k39 : Sg → Dt → Option (Sg × Dt)) (x0 : Nat) (x3 : Int32) (σ : Sg) (d : Dt) : Option (Sg × Dt) :=
  if ((3 : Int32)) ≤ x3 then k39 σ d else aw_chk (aw_O σ 1 5 x0) ((σ.2.2 x0 3).bind (fun q_37 => aw_chk (aw_I σ 22 q_37 x3) (kb39 (x3 + 1) σ (aw_sI d q_37 x3.toNatClampNeg (vp_nar .boolean ((1 : Int32)))))))
def f_X1_init_L39 (n : Nat) (k39 : Sg → Dt → Option (Sg × Dt)) (x0 : Nat) : Int32 → Sg → Dt → Option (Sg × Dt) := match n with
  | 0 => fun _ _ _ => none
  | n + 1 => fun x3 σ d => f_X1_init_B39 (f_X1_init_L39 n k39 x0) k39 x0 x3 σ d
def f_X1_init_B59 (kb59 : Int32 → Sg → Dt → Option (Sg × Dt)) (k59 : Sg → Dt → Option (Sg × Dt)) (x0 : Nat) (x3 : Int32) (σ : Sg) (d : Dt) : Option (Sg × Dt) :=
  if ((47 : Int32)) ≤ x3 then k59 σ d else aw_chk (aw_O σ 1 5 x0) ((σ.2.2 x0 2).bind (fun q_45 => aw_chk (aw_I σ 20 q_45 x3) (kb59 (x3 + 1) σ (aw_sI d q_45 x3.toNatClampNeg x3))))
def f_X1_init_L59 (n : Nat) (k59 : Sg → Dt → Option (Sg × Dt)) (x0 : Nat) : Int32 → Sg → Dt → Option (Sg × Dt) := match n with
  | 0 => fun _ _ _ => none
  | n + 1 => fun x3 σ d => f_X1_init_B59 (f_X1_init_L59 n k59 x0) k59 x0 x3 σ d
def f_X1_init_B80 (kb80 : Int32 → Sg → Dt → Option (Sg × Dt)) (k80 : Sg → Dt → Option (Sg × Dt)) (x0 : Nat) (x3 : Int32) (σ : Sg) (d : Dt) : Option (Sg × Dt) :=
  if ((50 : Int32)) ≤ x3 then k80 σ d else aw_chk (aw_O σ 1 5 x0) ((σ.2.2 x0 4).bind (fun q_53 => aw_chk (aw_I σ 20 q_53 x3) (kb80 (x3 + 1) σ (aw_sI d q_53 x3.toNatClampNeg x3))))
def f_X1_init_L80 (n : Nat) (k80 : Sg → Dt → Option (Sg × Dt)) (x0 : Nat) : Int32 → Sg → Dt → Option (Sg × Dt) := match n with
  | 0 => fun _ _ _ => none
  | n + 1 => fun x3 σ d => f_X1_init_B80 (f_X1_init_L80 n k80 x0) k80 x0 x3 σ d
def f_X1_init (x0 : Nat) (x1 : Int32) (x2 : Int32) (σ : Sg) (d : Dt) : Option (Sg × Dt) :=
  aw_chk (x0 < σ.1) (aw_new σ d 20 47 (fun q_2 σ_3 d_4 => aw_chk (aw_O σ_3 1 5 x0 ∧ q_2 < σ_3.1) (aw_let (aw_sR σ_3 x0 2 q_2) (fun σ_10 => aw_chk (x0 < σ_10.1) (aw_new σ_10 d_4 22 3 (fun q_13 σ_14 d_15 => aw_chk (aw_O σ_14 1 5 x0 ∧ q_13 < σ_14.1) (aw_let (aw_sR σ_14 x0 3 q_13) (fun σ_21 => aw_chk (x0 < σ_21.1) (aw_new σ_21 d_15 20 50 (fun q_24 σ_25 d_26 => aw_chk (aw_O σ_25 1 5 x0 ∧ q_24 < σ_25.1) (aw_let (aw_sR σ_25 x0 4 q_24) (fun σ_32 => aw_chk (aw_O σ_32 1 5 x0) (aw_chk (aw_O σ_32 1 5 x0) (f_X1_init_L39 aw_FU (fun σ_40 d_41 => f_X1_init_L59 aw_FU (fun σ_48 d_49 => f_X1_init_L80 aw_FU (fun σ_56 d_57 => some (σ_56, d_57)) x0 ((0 : Int32)) σ_48 d_49) x0 ((0 : Int32)) σ_40 d_41) x0 ((0 : Int32)) σ_32 (aw_sI (aw_sI d_26 x0 0 x1) x0 1 x2)))))))))))))))
section W_X1_init
variable {p : Program} {l : Launch} {e : Env} {s : State} {m : MethodId} {args : Array Value} {below : List Frame} {meth : Method} {c : Code}
variable {D : va_G} {cA : Nat → ClassId} {base : Nat} {ad0 : Nat → Nat} {σ0 : Sg}
set_option maxHeartbeats 4000000 in
set_option maxRecDepth 100000 in
theorem w_X1_init_B39 {z : Sg × Dt} (X : aw_X p c cX1_init 4 s RX1 m meth (none)) {kb39 : Int32 → Sg → Dt → Option (Sg × Dt)} {k39 : Sg → Dt → Option (Sg × Dt)} {x0 : Nat} {x3 : Int32} {σ : Sg} {d : Dt} {ad : Nat → Nat} (hf : f_X1_init_B39 kb39 k39 x0 x3 σ d = some z) (hkb39 : ∀ (y3 : Int32) (σ : Sg) (d : Dt), kb39 y3 σ d = some z → ∀ (ad : Nat → Nat), aw_ext σ0 ad0 σ ad → ∀ (H : Heap) (locs : List Loc) (ls : Array Slot), lv_has ls 4 [(0, .ref (ad x0)), (3, .int y3)] → aw_G D cA base ad σ d s H locs → W p l e rm_X1_init s m args below meth c H locs 3 100 (aw_En D cA base ad0 σ0 below args s 3 100 z) (F0 m 39 ls [])) (hk39 : ∀ (σ : Sg) (d : Dt), k39 σ d = some z → ∀ (ad : Nat → Nat), aw_ext σ0 ad0 σ ad → ∀ (H : Heap) (locs : List Loc) (ls : Array Slot), lv_has ls 4 [(0, .ref (ad x0))] → aw_G D cA base ad σ d s H locs → W p l e rm_X1_init s m args below meth c H locs 3 100 (aw_En D cA base ad0 σ0 below args s 3 100 z) (F0 m 57 ls [])) (E : aw_ext σ0 ad0 σ ad) {H : Heap} {locs : List Loc} {ls : Array Slot} (hl : lv_has ls 4 [(0, .ref (ad x0)), (3, .int x3)]) (G : aw_G D cA base ad σ d s H locs) : W p l e rm_X1_init s m args below meth c H locs 3 100 (aw_En D cA base ad0 σ0 below args s 3 100 z) (F0 m 39 ls []) := by
  have hx := X.1; have hb := X.2.1; have hml := X.2.2.1; have hown := X.2.2.2.1
  unfold f_X1_init_B39 at hf
  refine lv_iload_n hx hb dX1_init_39 rfl (lv_at hl 1 rfl) ?_
  refine lv_iconst (v := (3 : Int32)) hx hb dX1_init_40 (by decide) ?_
  refine lv_icmp_ge (tgt := 57) hx hb dX1_init_41 (by decide) (fun hc => ?_) (fun hc => ?_)
  · have hf := aw_ite_t hc hf
    refine W.widen (k := 3) (n := 100) (Nat.le_of_ble_eq_true rfl) (Nat.le_of_ble_eq_true rfl) ?_
    exact hk39 _ _ hf _ E _ _ _ (lv_sub hl [0] rfl) G
  · have hf := aw_ite_f hc hf
    refine lv_aload_n hx hb dX1_init_44 rfl (lv_at hl 0 rfl) ?_
    obtain ⟨hc_36, hf⟩ := aw_chk_some hf
    obtain ⟨q_37, hq_38, hf⟩ := aw_bind_some hf
    refine gf_X1_15 hx hb G hown hc_36 hq_38 dX1_init_45 ?_
    refine lv_iload_n hx hb dX1_init_48 rfl (lv_at hl 1 rfl) ?_
    refine lv_iconst (v := (1 : Int32)) hx hb dX1_init_49 (by decide) ?_
    obtain ⟨hc_39, hf⟩ := aw_chk_some hf
    refine aw_zas hx hb G hc_39 dX1_init_50 (fun H locs G => ?_)
    refine lv_iinc (v := x3 + 1) (lv' := [(3, .int (x3 + 1)), (0, .ref (ad x0))]) hx hb dX1_init_51 hl (k := 1) rfl rfl (by decide) rfl (fun ls hl => ?_)
    refine lv_goto (tgt := 39) hx hb dX1_init_54 (by decide) ?_
    refine W.widen (k := 3) (n := 100) (Nat.le_of_ble_eq_true rfl) (Nat.le_of_ble_eq_true rfl) ?_
    exact hkb39 _ _ _ hf _ E _ _ _ (lv_sub hl [1, 0] rfl) G
theorem w_X1_init_L39 {z : Sg × Dt} (X : aw_X p c cX1_init 4 s RX1 m meth (none)) {k39 : Sg → Dt → Option (Sg × Dt)} {x0 : Nat} (n : Nat) {x3 : Int32} {σ : Sg} {d : Dt} {ad : Nat → Nat} (hf : f_X1_init_L39 n k39 x0 x3 σ d = some z) (hk39 : ∀ (σ : Sg) (d : Dt), k39 σ d = some z → ∀ (ad : Nat → Nat), aw_ext σ0 ad0 σ ad → ∀ (H : Heap) (locs : List Loc) (ls : Array Slot), lv_has ls 4 [(0, .ref (ad x0))] → aw_G D cA base ad σ d s H locs → W p l e rm_X1_init s m args below meth c H locs 3 100 (aw_En D cA base ad0 σ0 below args s 3 100 z) (F0 m 57 ls [])) (E : aw_ext σ0 ad0 σ ad) {H : Heap} {locs : List Loc} {ls : Array Slot} (hl : lv_has ls 4 [(0, .ref (ad x0)), (3, .int x3)]) (G : aw_G D cA base ad σ d s H locs) : W p l e rm_X1_init s m args below meth c H locs 3 100 (aw_En D cA base ad0 σ0 below args s 3 100 z) (F0 m 39 ls []) := by
  induction n generalizing x3 σ d ad H locs ls with
  | zero => exact absurd (show (none : Option (Sg × Dt)) = some z from hf) (by simp)
  | succ n ih => exact w_X1_init_B39 X (kb39 := f_X1_init_L39 n k39 x0) hf  (fun x3 σ d hf ad E H locs ls hl G => ih hf E hl G) hk39 E hl G
set_option maxHeartbeats 4000000 in
set_option maxRecDepth 100000 in
theorem w_X1_init_B59 {z : Sg × Dt} (X : aw_X p c cX1_init 4 s RX1 m meth (none)) {kb59 : Int32 → Sg → Dt → Option (Sg × Dt)} {k59 : Sg → Dt → Option (Sg × Dt)} {x0 : Nat} {x3 : Int32} {σ : Sg} {d : Dt} {ad : Nat → Nat} (hf : f_X1_init_B59 kb59 k59 x0 x3 σ d = some z) (hkb59 : ∀ (y3 : Int32) (σ : Sg) (d : Dt), kb59 y3 σ d = some z → ∀ (ad : Nat → Nat), aw_ext σ0 ad0 σ ad → ∀ (H : Heap) (locs : List Loc) (ls : Array Slot), lv_has ls 4 [(0, .ref (ad x0)), (3, .int y3)] → aw_G D cA base ad σ d s H locs → W p l e rm_X1_init s m args below meth c H locs 3 100 (aw_En D cA base ad0 σ0 below args s 3 100 z) (F0 m 59 ls [])) (hk59 : ∀ (σ : Sg) (d : Dt), k59 σ d = some z → ∀ (ad : Nat → Nat), aw_ext σ0 ad0 σ ad → ∀ (H : Heap) (locs : List Loc) (ls : Array Slot), lv_has ls 4 [(0, .ref (ad x0))] → aw_G D cA base ad σ d s H locs → W p l e rm_X1_init s m args below meth c H locs 3 100 (aw_En D cA base ad0 σ0 below args s 3 100 z) (F0 m 78 ls [])) (E : aw_ext σ0 ad0 σ ad) {H : Heap} {locs : List Loc} {ls : Array Slot} (hl : lv_has ls 4 [(0, .ref (ad x0)), (3, .int x3)]) (G : aw_G D cA base ad σ d s H locs) : W p l e rm_X1_init s m args below meth c H locs 3 100 (aw_En D cA base ad0 σ0 below args s 3 100 z) (F0 m 59 ls []) := by
  have hx := X.1; have hb := X.2.1; have hml := X.2.2.1; have hown := X.2.2.2.1
  unfold f_X1_init_B59 at hf
  refine lv_iload_n hx hb dX1_init_59 rfl (lv_at hl 1 rfl) ?_
  refine lv_bipush (v := (47 : Int32)) hx hb dX1_init_60 (by decide) ?_
  refine lv_icmp_ge (tgt := 78) hx hb dX1_init_62 (by decide) (fun hc => ?_) (fun hc => ?_)
  · have hf := aw_ite_t hc hf
    refine W.widen (k := 3) (n := 100) (Nat.le_of_ble_eq_true rfl) (Nat.le_of_ble_eq_true rfl) ?_
    exact hk59 _ _ hf _ E _ _ _ (lv_sub hl [0] rfl) G
  · have hf := aw_ite_f hc hf
    refine lv_aload_n hx hb dX1_init_65 rfl (lv_at hl 0 rfl) ?_
    obtain ⟨hc_44, hf⟩ := aw_chk_some hf
    obtain ⟨q_45, hq_46, hf⟩ := aw_bind_some hf
    refine gf_X1_9 hx hb G hown hc_44 hq_46 dX1_init_66 ?_
    refine lv_iload_n hx hb dX1_init_69 rfl (lv_at hl 1 rfl) ?_
    refine lv_iload_n hx hb dX1_init_70 rfl (lv_at hl 1 rfl) ?_
    obtain ⟨hc_47, hf⟩ := aw_chk_some hf
    refine aw_ias hx hb G hc_47 dX1_init_71 (fun H locs G => ?_)
    refine lv_iinc (v := x3 + 1) (lv' := [(3, .int (x3 + 1)), (0, .ref (ad x0))]) hx hb dX1_init_72 hl (k := 1) rfl rfl (by decide) rfl (fun ls hl => ?_)
    refine lv_goto (tgt := 59) hx hb dX1_init_75 (by decide) ?_
    refine W.widen (k := 3) (n := 100) (Nat.le_of_ble_eq_true rfl) (Nat.le_of_ble_eq_true rfl) ?_
    exact hkb59 _ _ _ hf _ E _ _ _ (lv_sub hl [1, 0] rfl) G
theorem w_X1_init_L59 {z : Sg × Dt} (X : aw_X p c cX1_init 4 s RX1 m meth (none)) {k59 : Sg → Dt → Option (Sg × Dt)} {x0 : Nat} (n : Nat) {x3 : Int32} {σ : Sg} {d : Dt} {ad : Nat → Nat} (hf : f_X1_init_L59 n k59 x0 x3 σ d = some z) (hk59 : ∀ (σ : Sg) (d : Dt), k59 σ d = some z → ∀ (ad : Nat → Nat), aw_ext σ0 ad0 σ ad → ∀ (H : Heap) (locs : List Loc) (ls : Array Slot), lv_has ls 4 [(0, .ref (ad x0))] → aw_G D cA base ad σ d s H locs → W p l e rm_X1_init s m args below meth c H locs 3 100 (aw_En D cA base ad0 σ0 below args s 3 100 z) (F0 m 78 ls [])) (E : aw_ext σ0 ad0 σ ad) {H : Heap} {locs : List Loc} {ls : Array Slot} (hl : lv_has ls 4 [(0, .ref (ad x0)), (3, .int x3)]) (G : aw_G D cA base ad σ d s H locs) : W p l e rm_X1_init s m args below meth c H locs 3 100 (aw_En D cA base ad0 σ0 below args s 3 100 z) (F0 m 59 ls []) := by
  induction n generalizing x3 σ d ad H locs ls with
  | zero => exact absurd (show (none : Option (Sg × Dt)) = some z from hf) (by simp)
  | succ n ih => exact w_X1_init_B59 X (kb59 := f_X1_init_L59 n k59 x0) hf  (fun x3 σ d hf ad E H locs ls hl G => ih hf E hl G) hk59 E hl G
set_option maxHeartbeats 4000000 in
set_option maxRecDepth 100000 in
theorem w_X1_init_B80 {z : Sg × Dt} (X : aw_X p c cX1_init 4 s RX1 m meth (none)) {kb80 : Int32 → Sg → Dt → Option (Sg × Dt)} {k80 : Sg → Dt → Option (Sg × Dt)} {x0 : Nat} {x3 : Int32} {σ : Sg} {d : Dt} {ad : Nat → Nat} (hf : f_X1_init_B80 kb80 k80 x0 x3 σ d = some z) (hkb80 : ∀ (y3 : Int32) (σ : Sg) (d : Dt), kb80 y3 σ d = some z → ∀ (ad : Nat → Nat), aw_ext σ0 ad0 σ ad → ∀ (H : Heap) (locs : List Loc) (ls : Array Slot), lv_has ls 4 [(0, .ref (ad x0)), (3, .int y3)] → aw_G D cA base ad σ d s H locs → W p l e rm_X1_init s m args below meth c H locs 3 100 (aw_En D cA base ad0 σ0 below args s 3 100 z) (F0 m 80 ls [])) (hk80 : ∀ (σ : Sg) (d : Dt), k80 σ d = some z → ∀ (ad : Nat → Nat), aw_ext σ0 ad0 σ ad → ∀ (H : Heap) (locs : List Loc) (ls : Array Slot), lv_has ls 4 [] → aw_G D cA base ad σ d s H locs → W p l e rm_X1_init s m args below meth c H locs 3 100 (aw_En D cA base ad0 σ0 below args s 3 100 z) (F0 m 99 ls [])) (E : aw_ext σ0 ad0 σ ad) {H : Heap} {locs : List Loc} {ls : Array Slot} (hl : lv_has ls 4 [(0, .ref (ad x0)), (3, .int x3)]) (G : aw_G D cA base ad σ d s H locs) : W p l e rm_X1_init s m args below meth c H locs 3 100 (aw_En D cA base ad0 σ0 below args s 3 100 z) (F0 m 80 ls []) := by
  have hx := X.1; have hb := X.2.1; have hml := X.2.2.1; have hown := X.2.2.2.1
  unfold f_X1_init_B80 at hf
  refine lv_iload_n hx hb dX1_init_80 rfl (lv_at hl 1 rfl) ?_
  refine lv_bipush (v := (50 : Int32)) hx hb dX1_init_81 (by decide) ?_
  refine lv_icmp_ge (tgt := 99) hx hb dX1_init_83 (by decide) (fun hc => ?_) (fun hc => ?_)
  · have hf := aw_ite_t hc hf
    refine W.widen (k := 3) (n := 100) (Nat.le_of_ble_eq_true rfl) (Nat.le_of_ble_eq_true rfl) ?_
    exact hk80 _ _ hf _ E _ _ _ (lv_sub hl [] rfl) G
  · have hf := aw_ite_f hc hf
    refine lv_aload_n hx hb dX1_init_86 rfl (lv_at hl 0 rfl) ?_
    obtain ⟨hc_52, hf⟩ := aw_chk_some hf
    obtain ⟨q_53, hq_54, hf⟩ := aw_bind_some hf
    refine gf_X1_19 hx hb G hown hc_52 hq_54 dX1_init_87 ?_
    refine lv_iload_n hx hb dX1_init_90 rfl (lv_at hl 1 rfl) ?_
    refine lv_iload_n hx hb dX1_init_91 rfl (lv_at hl 1 rfl) ?_
    obtain ⟨hc_55, hf⟩ := aw_chk_some hf
    refine aw_ias hx hb G hc_55 dX1_init_92 (fun H locs G => ?_)
    refine lv_iinc (v := x3 + 1) (lv' := [(3, .int (x3 + 1)), (0, .ref (ad x0))]) hx hb dX1_init_93 hl (k := 1) rfl rfl (by decide) rfl (fun ls hl => ?_)
    refine lv_goto (tgt := 80) hx hb dX1_init_96 (by decide) ?_
    refine W.widen (k := 3) (n := 100) (Nat.le_of_ble_eq_true rfl) (Nat.le_of_ble_eq_true rfl) ?_
    exact hkb80 _ _ _ hf _ E _ _ _ (lv_sub hl [1, 0] rfl) G
theorem w_X1_init_L80 {z : Sg × Dt} (X : aw_X p c cX1_init 4 s RX1 m meth (none)) {k80 : Sg → Dt → Option (Sg × Dt)} {x0 : Nat} (n : Nat) {x3 : Int32} {σ : Sg} {d : Dt} {ad : Nat → Nat} (hf : f_X1_init_L80 n k80 x0 x3 σ d = some z) (hk80 : ∀ (σ : Sg) (d : Dt), k80 σ d = some z → ∀ (ad : Nat → Nat), aw_ext σ0 ad0 σ ad → ∀ (H : Heap) (locs : List Loc) (ls : Array Slot), lv_has ls 4 [] → aw_G D cA base ad σ d s H locs → W p l e rm_X1_init s m args below meth c H locs 3 100 (aw_En D cA base ad0 σ0 below args s 3 100 z) (F0 m 99 ls [])) (E : aw_ext σ0 ad0 σ ad) {H : Heap} {locs : List Loc} {ls : Array Slot} (hl : lv_has ls 4 [(0, .ref (ad x0)), (3, .int x3)]) (G : aw_G D cA base ad σ d s H locs) : W p l e rm_X1_init s m args below meth c H locs 3 100 (aw_En D cA base ad0 σ0 below args s 3 100 z) (F0 m 80 ls []) := by
  induction n generalizing x3 σ d ad H locs ls with
  | zero => exact absurd (show (none : Option (Sg × Dt)) = some z from hf) (by simp)
  | succ n ih => exact w_X1_init_B80 X (kb80 := f_X1_init_L80 n k80 x0) hf  (fun x3 σ d hf ad E H locs ls hl G => ih hf E hl G) hk80 E hl G
end W_X1_init
set_option maxHeartbeats 4000000 in
set_option maxRecDepth 100000 in
theorem c_X1_init (l : Launch) {σ : Sg} {x0 : Nat} {x1 : Int32} {x2 : Int32} {d : Dt} {z : Sg × Dt} (hf : f_X1_init x0 x1 x2 σ d = some z) : aw_Nv l yX1_init (Cond.code yX1_init cX1_init 4 (none)) rm_X1_init (fun ad => [.ref (ad x0), .int x1, .int x2]) σ d z := by
  intro hwf D cA base ad
  refine aw_ofW (own := RX1) (cc := cX1_init) (nL := 4) (ret := none) (by decide) rfl rfl ?_
  intro p e s m below meth c X hnm G
  have hx := X.1; have hb := X.2.1; have hml := X.2.2.1; have hown := X.2.2.2.1
  have E : aw_ext σ ad σ ad := aw_ext.rf hwf
  refine aw_ls (lv := [(0, .ref (ad x0)), (1, .int x1), (2, .int x2)]) (Nat.le_of_ble_eq_true rfl) rfl (fun ls hl => ?_)
  generalize ([.ref (ad x0), .int x1, .int x2] : List Value).toArray = args0
  unfold f_X1_init at hf
  refine lv_aload_n hx hb dX1_init_0 rfl (lv_at hl 0 rfl) ?_
  refine aw_objI X G hl.1 m_475 m_27 m_28 ⟨Nat.le_of_ble_eq_true rfl, Nat.le_of_ble_eq_true rfl⟩ dX1_init_1 ?_
  refine lv_aload_n hx hb dX1_init_4 rfl (lv_at hl 0 rfl) ?_
  refine lv_bipush (v := (47 : Int32)) hx hb dX1_init_5 (by decide) ?_
  obtain ⟨hc_1, hf⟩ := aw_chk_some hf
  refine aw_newA (atype := .int) (t := 20) (ty := .int) (N := 47) X G E rfl m_52 (by decide) rfl (fun _ _ h => h) (by decide) (by decide) (fun _ => rfl) (aw_a0i 47) (Nat.le_of_ble_eq_true rfl) (Nat.le_of_ble_eq_true rfl) (Nat.le_of_ble_eq_true rfl) hf dX1_init_7 (fun q_2 σ_3 d_4 ad_5 H hf hext_7 E_6 G => ?_)
  have ha_8 := (hext_7 _ hc_1).symm
  rw [ha_8]
  rw [ha_8] at hl
  obtain ⟨hc_9, hf⟩ := aw_chk_some hf
  refine pr_X1_9 hx hb G hown hnm E_6 hc_9 hf dX1_init_9 (fun σ_10 H locs hf E_11 G => ?_)
  refine lv_aload_n hx hb dX1_init_12 rfl (lv_at hl 0 rfl) ?_
  refine lv_iconst (v := (3 : Int32)) hx hb dX1_init_13 (by decide) ?_
  obtain ⟨hc_12, hf⟩ := aw_chk_some hf
  refine aw_newA (atype := .boolean) (t := 22) (ty := .boolean) (N := 3) X G E_11 rfl m_92 (by decide) rfl (fun _ _ h => h) (by decide) (by decide) (fun _ => rfl) (aw_a0z 3) (Nat.le_of_ble_eq_true rfl) (Nat.le_of_ble_eq_true rfl) (Nat.le_of_ble_eq_true rfl) hf dX1_init_14 (fun q_13 σ_14 d_15 ad_16 H hf hext_18 E_17 G => ?_)
  have ha_19 := (hext_18 _ hc_12).symm
  rw [ha_19]
  rw [ha_19] at hl
  obtain ⟨hc_20, hf⟩ := aw_chk_some hf
  refine pr_X1_15 hx hb G hown hnm E_17 hc_20 hf dX1_init_16 (fun σ_21 H locs hf E_22 G => ?_)
  refine lv_aload_n hx hb dX1_init_19 rfl (lv_at hl 0 rfl) ?_
  refine lv_bipush (v := (50 : Int32)) hx hb dX1_init_20 (by decide) ?_
  obtain ⟨hc_23, hf⟩ := aw_chk_some hf
  refine aw_newA (atype := .int) (t := 20) (ty := .int) (N := 50) X G E_22 rfl m_52 (by decide) rfl (fun _ _ h => h) (by decide) (by decide) (fun _ => rfl) (aw_a0i 50) (Nat.le_of_ble_eq_true rfl) (Nat.le_of_ble_eq_true rfl) (Nat.le_of_ble_eq_true rfl) hf dX1_init_22 (fun q_24 σ_25 d_26 ad_27 H hf hext_29 E_28 G => ?_)
  have ha_30 := (hext_29 _ hc_23).symm
  rw [ha_30]
  rw [ha_30] at hl
  obtain ⟨hc_31, hf⟩ := aw_chk_some hf
  refine pr_X1_19 hx hb G hown hnm E_28 hc_31 hf dX1_init_24 (fun σ_32 H locs hf E_33 G => ?_)
  refine lv_aload_n hx hb dX1_init_27 rfl (lv_at hl 0 rfl) ?_
  refine lv_iload_n hx hb dX1_init_28 rfl (lv_at hl 1 rfl) ?_
  obtain ⟨hc_34, hf⟩ := aw_chk_some hf
  refine pf_X1_22 hx hb G hown hnm hc_34 dX1_init_29 (fun H locs G => ?_)
  refine lv_aload_n hx hb dX1_init_32 rfl (lv_at hl 0 rfl) ?_
  refine lv_iload_n hx hb dX1_init_33 rfl (lv_at hl 2 rfl) ?_
  obtain ⟨hc_35, hf⟩ := aw_chk_some hf
  refine pf_X1_26 hx hb G hown hnm hc_35 dX1_init_34 (fun H locs G => ?_)
  refine lv_iconst (v := (0 : Int32)) hx hb dX1_init_37 (by decide) ?_
  refine lv_istore_n (lv' := [(3, .int ((0 : Int32))), (0, .ref (ad_27 x0)), (1, .int x1), (2, .int x2)]) hx hb dX1_init_38 rfl hl (by decide) rfl (fun ls hl => ?_)
  refine W.widen (k := 3) (n := 100) (Nat.le_of_ble_eq_true rfl) (Nat.le_of_ble_eq_true rfl) ?_
  refine w_X1_init_L39 X aw_FU hf  (fun σ_40 d_41 hf ad_42 E_43 H locs ls hl G => ?_) E_33 (lv_sub hl [1, 0] rfl) G
  refine lv_iconst (v := (0 : Int32)) hx hb dX1_init_57 (by decide) ?_
  refine lv_istore_n (lv' := [(3, .int ((0 : Int32))), (0, .ref (ad_42 x0))]) hx hb dX1_init_58 rfl hl (by decide) rfl (fun ls hl => ?_)
  refine W.widen (k := 3) (n := 100) (Nat.le_of_ble_eq_true rfl) (Nat.le_of_ble_eq_true rfl) ?_
  refine w_X1_init_L59 X aw_FU hf  (fun σ_48 d_49 hf ad_50 E_51 H locs ls hl G => ?_) E_43 (lv_sub hl [1, 0] rfl) G
  refine lv_iconst (v := (0 : Int32)) hx hb dX1_init_78 (by decide) ?_
  refine lv_istore_n (lv' := [(3, .int ((0 : Int32))), (0, .ref (ad_50 x0))]) hx hb dX1_init_79 rfl hl (by decide) rfl (fun ls hl => ?_)
  refine W.widen (k := 3) (n := 100) (Nat.le_of_ble_eq_true rfl) (Nat.le_of_ble_eq_true rfl) ?_
  refine w_X1_init_L80 X aw_FU hf  (fun σ_56 d_57 hf ad_58 E_59 H locs ls hl G => ?_) E_51 (lv_sub hl [1, 0] rfl) G
  exact aw_retn X G E_59 hf dX1_init_99 (Nat.le_of_ble_eq_true rfl) (Nat.le_of_ble_eq_true rfl)
