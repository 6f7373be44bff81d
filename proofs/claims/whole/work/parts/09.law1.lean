/-! L_design -/
def rm_L_design : Room := { frames := 7, cells := 4, slots := 105, locals := 112 }
def f_L_design (x0 : Nat) (x1 : Int32) (x2 : Int32) (x3 : Nat) (σ : Sg) (d : Dt) : Option (Int32 × (Sg × Dt)) :=
  aw_chk (aw_O σ 10 13 x0) (aw_chk (x3 < σ.1) (aw_chk (x0 < σ.1) ((f_X10_design x0 x1 x2 σ d).bind (fun z_4 => aw_cd z_4 (fun e0 => if e0 = 2 then some ((1 : Int32), z_4.2.1, z_4.2.2) else if e0 = 3 then some ((2 : Int32), z_4.2.1, z_4.2.2) else none) (fun v_6 => aw_chk (aw_I z_4.2.1 21 x3 ((0 : Int32))) (some ((0 : Int32), z_4.2.1, aw_sL z_4.2.2 x3 ((0 : Int32)).toNatClampNeg v_6.toInt64)))))))
set_option maxHeartbeats 4000000 in
set_option maxRecDepth 100000 in
theorem c_L_design (l : Launch) (hst : l.stackTraces = false) {σ : Sg} {x0 : Nat} {x1 : Int32} {x2 : Int32} {x3 : Nat} {d : Dt} {z : Int32 × (Sg × Dt)} (hf : f_L_design x0 x1 x2 x3 σ d = some z) : aw_Md l yL_design (Cond.codeWith yL_design cL_design 5 (some .int) [(0, 10, 13, 13), (0, 10, 17, 15)]) rm_L_design (fun ad => [.ref (ad x0), .int x1, .int x2, .ref (ad x3)]) σ d z := by
  intro hwf D cA base ad
  refine aw_ofCW (own := RL) (cc := cL_design) (nL := 5) (ret := some .int) [(0, 10, 13, 13), (0, 10, 17, 15)] (by decide) rfl rfl ?_
  intro p e s m below meth c X hT G
  have hx := X.1; have hb := X.2.1; have hml := X.2.2.1; have hown := X.2.2.2.1
  have E : aw_ext σ ad σ ad := aw_ext.rf hwf
  refine aw_ls (lv := [(0, .ref (ad x0)), (1, .int x1), (2, .int x2), (3, .ref (ad x3))]) (Nat.le_of_ble_eq_true rfl) rfl (fun ls hl => ?_)
  generalize ([.ref (ad x0), .int x1, .int x2, .ref (ad x3)] : List Value).toArray = args0
  unfold f_L_design at hf
  refine lv_aload_n hx hb dL_design_0 rfl (lv_at hl 3 rfl) ?_
  refine lv_iconst (v := (0 : Int32)) hx hb dL_design_1 (by decide) ?_
  refine lv_aload_n hx hb dL_design_2 rfl (lv_at hl 0 rfl) ?_
  refine lv_iload_n hx hb dL_design_3 rfl (lv_at hl 1 rfl) ?_
  refine lv_iload_n hx hb dL_design_4 rfl (lv_at hl 2 rfl) ?_
  obtain ⟨hc_1, hf⟩ := aw_chk_some hf
  obtain ⟨hc_2, hf⟩ := aw_chk_some hf
  obtain ⟨hc_3, hf⟩ := aw_chk_some hf
  obtain ⟨z_4, hz_5, hf⟩ := aw_bind_some hf
  refine aw_CVD (As := [.int x1, .int x2]) (rest := [.int ((0 : Int32)), .ref (ad x3)]) X G E hl.1 cr_L_30 (c_X10_design l hst hz_5) rfl rfl rfl (by decide) hc_1 rfl ⟨(Nat.le_of_ble_eq_true rfl), (Nat.le_of_ble_eq_true rfl)⟩ (Nat.le_of_ble_eq_true rfl) dL_design_5 ⟨(Nat.le_of_ble_eq_true rfl), (Nat.le_of_ble_eq_true rfl)⟩ (fun e0 ce q9 ad_7 H locs hz1 hext_9 E_8 G hce hcv hcl => ?_) (fun v_6 ad_7 H locs hz1 hext_9 E_8 G => ?_)
  · have hf := aw_cd_l hz1 hf
    have ha_10 := (hext_9 _ hc_3).symm
    rw [ha_10] at hl
    have ha_11 := (hext_9 _ hc_2).symm
    rw [ha_11] at hl
    by_cases he : e0 = 2
    · have hf := aw_ite_t he hf
      subst he
      refine vx_catch (name := "java/lang/IllegalArgumentException") hown [] (⟨0, 10, 13, 13⟩ : ExceptionTableEntry) [(⟨0, 10, 17, 15⟩ : ExceptionTableEntry)] (hT.trans rfl) (aw_hpass G.1 (fun _ h => nomatch h)) (by decide) (by decide) (G.1.hts _ m_310) (aw_cast G.1 (by decide)) hce hcv hcl ?_
      refine W.eq (g2 := F0 m 13 ls [.ref q9]) rfl ?_
      refine lv_astore (lv' := [(4, .ref q9), (0, .ref (ad_7 x0)), (1, .int x1), (2, .int x2), (3, .ref (ad_7 x3))]) hx hb dL_design_13 hl (by decide) rfl (fun ls hl => ?_)
      refine lv_iconst (v := (1 : Int32)) hx hb dL_design_15 (by decide) ?_
      exact aw_retk X G E_8 hf dL_design_16 (Nat.le_of_ble_eq_true rfl) (Nat.le_of_ble_eq_true rfl)
    have hf := aw_ite_f he hf
    by_cases he : e0 = 3
    · have hf := aw_ite_t he hf
      subst he
      refine vx_catch (name := "java/lang/IllegalStateException") hown [(⟨0, 10, 13, 13⟩ : ExceptionTableEntry)] (⟨0, 10, 17, 15⟩ : ExceptionTableEntry) [] (hT.trans rfl) (aw_hpass G.1 (List.forall_mem_cons.mpr ⟨⟨by decide, "java/lang/IllegalArgumentException", by decide, m_310, by decide, by decide⟩, (fun _ h => nomatch h)⟩)) (by decide) (by decide) (G.1.hts _ m_311) (aw_cast G.1 (by decide)) hce hcv hcl ?_
      refine W.eq (g2 := F0 m 17 ls [.ref q9]) rfl ?_
      refine lv_astore (lv' := [(4, .ref q9), (0, .ref (ad_7 x0)), (1, .int x1), (2, .int x2), (3, .ref (ad_7 x3))]) hx hb dL_design_17 hl (by decide) rfl (fun ls hl => ?_)
      refine lv_iconst (v := (2 : Int32)) hx hb dL_design_19 (by decide) ?_
      exact aw_retk X G E_8 hf dL_design_20 (Nat.le_of_ble_eq_true rfl) (Nat.le_of_ble_eq_true rfl)
    have hf := aw_ite_f he hf
    cases hf
  have hf := aw_cd_r hz1 hf
  have ha_12 := (hext_9 _ hc_2).symm
  rw [ha_12]
  rw [ha_12] at hl
  have ha_13 := (hext_9 _ hc_3).symm
  rw [ha_13] at hl
  refine lv_i2l hx hb dL_design_8 rfl ?_
  obtain ⟨hc_14, hf⟩ := aw_chk_some hf
  refine aw_las hx hb G hc_14 dL_design_9 (fun H locs G => ?_)
  refine lv_goto (tgt := 21) hx hb dL_design_10 (by decide) ?_
  refine lv_iconst (v := (0 : Int32)) hx hb dL_design_21 (by decide) ?_
  exact aw_retk X G E_8 hf dL_design_22 (Nat.le_of_ble_eq_true rfl) (Nat.le_of_ble_eq_true rfl)
