/-! X10_design -/
def rm_X10_design : Room := { frames := 6, cells := 4, slots := 105, locals := 90 }
def f_X10_design (x0 : Nat) (x1 : Int32) (x2 : Int32) (σ : Sg) (d : Dt) : Option ((Nat ⊕ Int32) × (Sg × Dt)) :=
  if x1 = 0 then if x2 = ((-1 : Int32)) then aw_chk (aw_O σ 10 13 x0) (if (d.1 x0 4) < ((5 : Int32)) then (σ.2.2 x0 3).bind (fun q_2 => aw_chk (q_2 < σ.1) (aw_chk (x0 < σ.1) (aw_new σ d 1 5 (fun q_6 σ_7 d_8 => aw_chk (q_6 < σ_7.1) (aw_chk (q_2 < σ_7.1) (aw_chk (x0 < σ_7.1) ((f_X1_init q_6 x1 x2 σ_7 d_8).bind (fun z_17 => aw_chk (aw_I z_17.1 26 q_2 (d.1 x0 4) ∧ aw_O z_17.1 1 5 q_6) (aw_let (aw_sR z_17.1 q_2 (d.1 x0 4).toNatClampNeg q_6) (fun σ_26 => aw_chk (aw_O σ_26 10 13 x0) (some (Sum.inr (((aw_sI z_17.2 x0 4 ((z_17.2.1 x0 4) + ((1 : Int32)))).1 x0 4) - ((1 : Int32))), σ_26, aw_sI z_17.2 x0 4 ((z_17.2.1 x0 4) + ((1 : Int32))))))))))))))) else some (Sum.inl 3, σ, d)) else if x2 < 0 then some (Sum.inl 2, σ, d) else if x2 < ((3 : Int32)) then aw_chk (aw_O σ 10 13 x0) (if (d.1 x0 4) < ((5 : Int32)) then (σ.2.2 x0 3).bind (fun q_30 => aw_chk (q_30 < σ.1) (aw_chk (x0 < σ.1) (aw_new σ d 1 5 (fun q_34 σ_35 d_36 => aw_chk (q_34 < σ_35.1) (aw_chk (q_30 < σ_35.1) (aw_chk (x0 < σ_35.1) ((f_X1_init q_34 x1 x2 σ_35 d_36).bind (fun z_45 => aw_chk (aw_I z_45.1 26 q_30 (d.1 x0 4) ∧ aw_O z_45.1 1 5 q_34) (aw_let (aw_sR z_45.1 q_30 (d.1 x0 4).toNatClampNeg q_34) (fun σ_54 => aw_chk (aw_O σ_54 10 13 x0) (some (Sum.inr (((aw_sI z_45.2 x0 4 ((z_45.2.1 x0 4) + ((1 : Int32)))).1 x0 4) - ((1 : Int32))), σ_54, aw_sI z_45.2 x0 4 ((z_45.2.1 x0 4) + ((1 : Int32))))))))))))))) else some (Sum.inl 3, σ, d)) else some (Sum.inl 2, σ, d) else if x1 = ((1 : Int32)) then if x2 = ((-1 : Int32)) then aw_chk (aw_O σ 10 13 x0) (if (d.1 x0 4) < ((5 : Int32)) then (σ.2.2 x0 3).bind (fun q_58 => aw_chk (q_58 < σ.1) (aw_chk (x0 < σ.1) (aw_new σ d 1 5 (fun q_62 σ_63 d_64 => aw_chk (q_62 < σ_63.1) (aw_chk (q_58 < σ_63.1) (aw_chk (x0 < σ_63.1) ((f_X1_init q_62 x1 x2 σ_63 d_64).bind (fun z_73 => aw_chk (aw_I z_73.1 26 q_58 (d.1 x0 4) ∧ aw_O z_73.1 1 5 q_62) (aw_let (aw_sR z_73.1 q_58 (d.1 x0 4).toNatClampNeg q_62) (fun σ_82 => aw_chk (aw_O σ_82 10 13 x0) (some (Sum.inr (((aw_sI z_73.2 x0 4 ((z_73.2.1 x0 4) + ((1 : Int32)))).1 x0 4) - ((1 : Int32))), σ_82, aw_sI z_73.2 x0 4 ((z_73.2.1 x0 4) + ((1 : Int32))))))))))))))) else some (Sum.inl 3, σ, d)) else if x2 < 0 then some (Sum.inl 2, σ, d) else if x2 < ((3 : Int32)) then aw_chk (aw_O σ 10 13 x0) (if (d.1 x0 4) < ((5 : Int32)) then (σ.2.2 x0 3).bind (fun q_86 => aw_chk (q_86 < σ.1) (aw_chk (x0 < σ.1) (aw_new σ d 1 5 (fun q_90 σ_91 d_92 => aw_chk (q_90 < σ_91.1) (aw_chk (q_86 < σ_91.1) (aw_chk (x0 < σ_91.1) ((f_X1_init q_90 x1 x2 σ_91 d_92).bind (fun z_101 => aw_chk (aw_I z_101.1 26 q_86 (d.1 x0 4) ∧ aw_O z_101.1 1 5 q_90) (aw_let (aw_sR z_101.1 q_86 (d.1 x0 4).toNatClampNeg q_90) (fun σ_110 => aw_chk (aw_O σ_110 10 13 x0) (some (Sum.inr (((aw_sI z_101.2 x0 4 ((z_101.2.1 x0 4) + ((1 : Int32)))).1 x0 4) - ((1 : Int32))), σ_110, aw_sI z_101.2 x0 4 ((z_101.2.1 x0 4) + ((1 : Int32))))))))))))))) else some (Sum.inl 3, σ, d)) else some (Sum.inl 2, σ, d) else some (Sum.inl 2, σ, d)
set_option maxHeartbeats 4000000 in
set_option maxRecDepth 100000 in
theorem c_X10_design (l : Launch) (hst : l.stackTraces = false) {σ : Sg} {x0 : Nat} {x1 : Int32} {x2 : Int32} {d : Dt} {z : (Nat ⊕ Int32) × (Sg × Dt)} (hf : f_X10_design x0 x1 x2 σ d = some z) : aw_Xd l yX10_design (Cond.code yX10_design cX10_design 3 (some .int)) rm_X10_design (fun ad => [.ref (ad x0), .int x1, .int x2]) σ d z := by
  intro hwf D cA base ad
  refine aw_ofX (own := RX10) (cc := cX10_design) (nL := 3) (ret := some .int) hst (by decide) rfl rfl ?_
  intro p e s m below meth c X XT G
  have hx := X.1; have hb := X.2.1; have hml := X.2.2.1; have hown := X.2.2.2.1
  have E : aw_ext σ ad σ ad := aw_ext.rf hwf
  refine aw_ls (lv := [(0, .ref (ad x0)), (1, .int x1), (2, .int x2)]) (Nat.le_of_ble_eq_true rfl) rfl (fun ls hl => ?_)
  generalize ([.ref (ad x0), .int x1, .int x2] : List Value).toArray = args0
  unfold f_X10_design at hf
  refine lv_iload_n hx hb dX10_design_0 rfl (lv_at hl 1 rfl) ?_
  refine lv_if_eq (tgt := 19) hx hb dX10_design_1 (by decide) (fun hc => ?_) (fun hc => ?_)
  · have hf := aw_ite_t hc hf
    refine lv_iload_n hx hb dX10_design_19 rfl (lv_at hl 2 rfl) ?_
    refine lv_iconst (v := (-1 : Int32)) hx hb dX10_design_20 (by decide) ?_
    refine lv_icmp_eq (tgt := 43) hx hb dX10_design_21 (by decide) (fun hc => ?_) (fun hc => ?_)
    · have hf := aw_ite_t hc hf
      refine lv_aload_n hx hb dX10_design_43 rfl (lv_at hl 0 rfl) ?_
      obtain ⟨hc_1, hf⟩ := aw_chk_some hf
      refine gf_X10_33 hx hb G hown hc_1 dX10_design_44 ?_
      refine lv_iconst (v := (5 : Int32)) hx hb dX10_design_47 (by decide) ?_
      refine lv_icmp_lt (tgt := 61) hx hb dX10_design_48 (by decide) (fun hc => ?_) (fun hc => ?_)
      · have hf := aw_ite_t hc hf
        refine lv_aload_n hx hb dX10_design_61 rfl (lv_at hl 0 rfl) ?_
        obtain ⟨q_2, hq_3, hf⟩ := aw_bind_some hf
        refine gf_X10_29 hx hb G hown hc_1 hq_3 dX10_design_62 ?_
        refine lv_aload_n hx hb dX10_design_65 rfl (lv_at hl 0 rfl) ?_
        refine gf_X10_33 hx hb G hown hc_1 dX10_design_66 ?_
        obtain ⟨hc_4, hf⟩ := aw_chk_some hf
        obtain ⟨hc_5, hf⟩ := aw_chk_some hf
        refine aw_newO (ci := 1) (C := RX1) (T := TX1) (N := 5) X G E (by decide) tyX1 tyX1_ok rfl inaX1 m_94 m_471 m_17 dzX1 (Nat.le_of_ble_eq_true rfl) (Nat.le_of_ble_eq_true rfl) hf dX10_design_69 (fun q_6 σ_7 d_8 ad_9 H hf hext_11 E_10 G => ?_)
        have ha_12 := (hext_11 _ hc_4).symm
        rw [ha_12]
        have ha_13 := (hext_11 _ hc_5).symm
        rw [ha_13] at hl
        refine lv_dup hx hb dX10_design_72 rfl ?_
        refine lv_iload_n hx hb dX10_design_73 rfl (lv_at hl 1 rfl) ?_
        refine lv_iload_n hx hb dX10_design_74 rfl (lv_at hl 2 rfl) ?_
        obtain ⟨hc_14, hf⟩ := aw_chk_some hf
        obtain ⟨hc_15, hf⟩ := aw_chk_some hf
        obtain ⟨hc_16, hf⟩ := aw_chk_some hf
        obtain ⟨z_17, hz_18, hf⟩ := aw_bind_some hf
        refine aw_IN (As := [.int x1, .int x2]) (rest := [.ref (ad_9 q_6), .int (d.1 x0 4), .ref (ad_9 q_2)]) X G E_10 hl.1 cr_X10_173 (c_X1_init l hz_18) rfl rfl rfl ⟨Nat.le_of_ble_eq_true rfl, Nat.le_of_ble_eq_true rfl⟩ (Nat.le_of_ble_eq_true rfl) dX10_design_75 ⟨Nat.le_of_ble_eq_true rfl, Nat.le_of_ble_eq_true rfl⟩ (fun ad_19 H locs hext_21 E_20 G => ?_)
        have ha_22 := (hext_21 _ hc_14).symm
        rw [ha_22]
        have ha_23 := (hext_21 _ hc_15).symm
        rw [ha_23]
        have ha_24 := (hext_21 _ hc_16).symm
        rw [ha_24] at hl
        obtain ⟨hc_25, hf⟩ := aw_chk_some hf
        refine aw_qas X G E_20 26 1 5 (RX1, TX1, 5) (by decide) rfl (by decide) rfl hc_25.1 hc_25.2 hf dX10_design_78 (fun σ_26 H locs hf E_27 G => ?_)
        refine lv_aload_n hx hb dX10_design_79 rfl (lv_at hl 0 rfl) ?_
        refine lv_dup hx hb dX10_design_80 rfl ?_
        obtain ⟨hc_28, hf⟩ := aw_chk_some hf
        refine gf_X10_33 hx hb G hown hc_28 dX10_design_81 ?_
        refine lv_iconst (v := (1 : Int32)) hx hb dX10_design_84 (by decide) ?_
        refine lv_iadd hx hb dX10_design_85 ?_
        refine pf_X10_33 hx hb G hown hc_28 dX10_design_86 (fun H locs G => ?_)
        refine lv_aload_n hx hb dX10_design_89 rfl (lv_at hl 0 rfl) ?_
        refine gf_X10_33 hx hb G hown hc_28 dX10_design_90 ?_
        refine lv_iconst (v := (1 : Int32)) hx hb dX10_design_93 (by decide) ?_
        refine lv_isub hx hb dX10_design_94 ?_
        exact aw_retd X G E_27 hf dX10_design_95 (Nat.le_of_ble_eq_true rfl) (Nat.le_of_ble_eq_true rfl)
      · have hf := aw_ite_f hc hf
        exact aw_throwD X XT G E hl.1 3 hf tw_X10_99_103 "there are 5 designs" (by decide +kernel) dX10_design_51 dX10_design_54 dX10_design_55 dX10_design_57 dX10_design_60 ⟨(Nat.le_of_ble_eq_true rfl), (Nat.le_of_ble_eq_true rfl), (Nat.le_of_ble_eq_true rfl), (Nat.le_of_ble_eq_true rfl)⟩ (Nat.le_of_ble_eq_true rfl) (Nat.le_of_ble_eq_true rfl)
    · have hf := aw_ite_f hc hf
      refine lv_iload_n hx hb dX10_design_24 rfl (lv_at hl 2 rfl) ?_
      refine lv_if_lt (tgt := 33) hx hb dX10_design_25 (by decide) (fun hc => ?_) (fun hc => ?_)
      · have hf := aw_ite_t hc hf
        exact aw_throwD X XT G E hl.1 2 hf tw_X10_89_93 "no such base" (by decide +kernel) dX10_design_33 dX10_design_36 dX10_design_37 dX10_design_39 dX10_design_42 ⟨(Nat.le_of_ble_eq_true rfl), (Nat.le_of_ble_eq_true rfl), (Nat.le_of_ble_eq_true rfl), (Nat.le_of_ble_eq_true rfl)⟩ (Nat.le_of_ble_eq_true rfl) (Nat.le_of_ble_eq_true rfl)
      · have hf := aw_ite_f hc hf
        refine lv_iload_n hx hb dX10_design_28 rfl (lv_at hl 2 rfl) ?_
        refine lv_iconst (v := (3 : Int32)) hx hb dX10_design_29 (by decide) ?_
        refine lv_icmp_lt (tgt := 43) hx hb dX10_design_30 (by decide) (fun hc => ?_) (fun hc => ?_)
        · have hf := aw_ite_t hc hf
          refine lv_aload_n hx hb dX10_design_43 rfl (lv_at hl 0 rfl) ?_
          obtain ⟨hc_29, hf⟩ := aw_chk_some hf
          refine gf_X10_33 hx hb G hown hc_29 dX10_design_44 ?_
          refine lv_iconst (v := (5 : Int32)) hx hb dX10_design_47 (by decide) ?_
          refine lv_icmp_lt (tgt := 61) hx hb dX10_design_48 (by decide) (fun hc => ?_) (fun hc => ?_)
          · have hf := aw_ite_t hc hf
            refine lv_aload_n hx hb dX10_design_61 rfl (lv_at hl 0 rfl) ?_
            obtain ⟨q_30, hq_31, hf⟩ := aw_bind_some hf
            refine gf_X10_29 hx hb G hown hc_29 hq_31 dX10_design_62 ?_
            refine lv_aload_n hx hb dX10_design_65 rfl (lv_at hl 0 rfl) ?_
            refine gf_X10_33 hx hb G hown hc_29 dX10_design_66 ?_
            obtain ⟨hc_32, hf⟩ := aw_chk_some hf
            obtain ⟨hc_33, hf⟩ := aw_chk_some hf
            refine aw_newO (ci := 1) (C := RX1) (T := TX1) (N := 5) X G E (by decide) tyX1 tyX1_ok rfl inaX1 m_94 m_471 m_17 dzX1 (Nat.le_of_ble_eq_true rfl) (Nat.le_of_ble_eq_true rfl) hf dX10_design_69 (fun q_34 σ_35 d_36 ad_37 H hf hext_39 E_38 G => ?_)
            have ha_40 := (hext_39 _ hc_32).symm
            rw [ha_40]
            have ha_41 := (hext_39 _ hc_33).symm
            rw [ha_41] at hl
            refine lv_dup hx hb dX10_design_72 rfl ?_
            refine lv_iload_n hx hb dX10_design_73 rfl (lv_at hl 1 rfl) ?_
            refine lv_iload_n hx hb dX10_design_74 rfl (lv_at hl 2 rfl) ?_
            obtain ⟨hc_42, hf⟩ := aw_chk_some hf
            obtain ⟨hc_43, hf⟩ := aw_chk_some hf
            obtain ⟨hc_44, hf⟩ := aw_chk_some hf
            obtain ⟨z_45, hz_46, hf⟩ := aw_bind_some hf
            refine aw_IN (As := [.int x1, .int x2]) (rest := [.ref (ad_37 q_34), .int (d.1 x0 4), .ref (ad_37 q_30)]) X G E_38 hl.1 cr_X10_173 (c_X1_init l hz_46) rfl rfl rfl ⟨Nat.le_of_ble_eq_true rfl, Nat.le_of_ble_eq_true rfl⟩ (Nat.le_of_ble_eq_true rfl) dX10_design_75 ⟨Nat.le_of_ble_eq_true rfl, Nat.le_of_ble_eq_true rfl⟩ (fun ad_47 H locs hext_49 E_48 G => ?_)
            have ha_50 := (hext_49 _ hc_42).symm
            rw [ha_50]
            have ha_51 := (hext_49 _ hc_43).symm
            rw [ha_51]
            have ha_52 := (hext_49 _ hc_44).symm
            rw [ha_52] at hl
            obtain ⟨hc_53, hf⟩ := aw_chk_some hf
            refine aw_qas X G E_48 26 1 5 (RX1, TX1, 5) (by decide) rfl (by decide) rfl hc_53.1 hc_53.2 hf dX10_design_78 (fun σ_54 H locs hf E_55 G => ?_)
            refine lv_aload_n hx hb dX10_design_79 rfl (lv_at hl 0 rfl) ?_
            refine lv_dup hx hb dX10_design_80 rfl ?_
            obtain ⟨hc_56, hf⟩ := aw_chk_some hf
            refine gf_X10_33 hx hb G hown hc_56 dX10_design_81 ?_
            refine lv_iconst (v := (1 : Int32)) hx hb dX10_design_84 (by decide) ?_
            refine lv_iadd hx hb dX10_design_85 ?_
            refine pf_X10_33 hx hb G hown hc_56 dX10_design_86 (fun H locs G => ?_)
            refine lv_aload_n hx hb dX10_design_89 rfl (lv_at hl 0 rfl) ?_
            refine gf_X10_33 hx hb G hown hc_56 dX10_design_90 ?_
            refine lv_iconst (v := (1 : Int32)) hx hb dX10_design_93 (by decide) ?_
            refine lv_isub hx hb dX10_design_94 ?_
            exact aw_retd X G E_55 hf dX10_design_95 (Nat.le_of_ble_eq_true rfl) (Nat.le_of_ble_eq_true rfl)
          · have hf := aw_ite_f hc hf
            exact aw_throwD X XT G E hl.1 3 hf tw_X10_99_103 "there are 5 designs" (by decide +kernel) dX10_design_51 dX10_design_54 dX10_design_55 dX10_design_57 dX10_design_60 ⟨(Nat.le_of_ble_eq_true rfl), (Nat.le_of_ble_eq_true rfl), (Nat.le_of_ble_eq_true rfl), (Nat.le_of_ble_eq_true rfl)⟩ (Nat.le_of_ble_eq_true rfl) (Nat.le_of_ble_eq_true rfl)
        · have hf := aw_ite_f hc hf
          exact aw_throwD X XT G E hl.1 2 hf tw_X10_89_93 "no such base" (by decide +kernel) dX10_design_33 dX10_design_36 dX10_design_37 dX10_design_39 dX10_design_42 ⟨(Nat.le_of_ble_eq_true rfl), (Nat.le_of_ble_eq_true rfl), (Nat.le_of_ble_eq_true rfl), (Nat.le_of_ble_eq_true rfl)⟩ (Nat.le_of_ble_eq_true rfl) (Nat.le_of_ble_eq_true rfl)
  · have hf := aw_ite_f hc hf
    refine lv_iload_n hx hb dX10_design_4 rfl (lv_at hl 1 rfl) ?_
    refine lv_iconst (v := (1 : Int32)) hx hb dX10_design_5 (by decide) ?_
    refine lv_icmp_eq (tgt := 19) hx hb dX10_design_6 (by decide) (fun hc => ?_) (fun hc => ?_)
    · have hf := aw_ite_t hc hf
      refine lv_iload_n hx hb dX10_design_19 rfl (lv_at hl 2 rfl) ?_
      refine lv_iconst (v := (-1 : Int32)) hx hb dX10_design_20 (by decide) ?_
      refine lv_icmp_eq (tgt := 43) hx hb dX10_design_21 (by decide) (fun hc => ?_) (fun hc => ?_)
      · have hf := aw_ite_t hc hf
        refine lv_aload_n hx hb dX10_design_43 rfl (lv_at hl 0 rfl) ?_
        obtain ⟨hc_57, hf⟩ := aw_chk_some hf
        refine gf_X10_33 hx hb G hown hc_57 dX10_design_44 ?_
        refine lv_iconst (v := (5 : Int32)) hx hb dX10_design_47 (by decide) ?_
        refine lv_icmp_lt (tgt := 61) hx hb dX10_design_48 (by decide) (fun hc => ?_) (fun hc => ?_)
        · have hf := aw_ite_t hc hf
          refine lv_aload_n hx hb dX10_design_61 rfl (lv_at hl 0 rfl) ?_
          obtain ⟨q_58, hq_59, hf⟩ := aw_bind_some hf
          refine gf_X10_29 hx hb G hown hc_57 hq_59 dX10_design_62 ?_
          refine lv_aload_n hx hb dX10_design_65 rfl (lv_at hl 0 rfl) ?_
          refine gf_X10_33 hx hb G hown hc_57 dX10_design_66 ?_
          obtain ⟨hc_60, hf⟩ := aw_chk_some hf
          obtain ⟨hc_61, hf⟩ := aw_chk_some hf
          refine aw_newO (ci := 1) (C := RX1) (T := TX1) (N := 5) X G E (by decide) tyX1 tyX1_ok rfl inaX1 m_94 m_471 m_17 dzX1 (Nat.le_of_ble_eq_true rfl) (Nat.le_of_ble_eq_true rfl) hf dX10_design_69 (fun q_62 σ_63 d_64 ad_65 H hf hext_67 E_66 G => ?_)
          have ha_68 := (hext_67 _ hc_60).symm
          rw [ha_68]
          have ha_69 := (hext_67 _ hc_61).symm
          rw [ha_69] at hl
          refine lv_dup hx hb dX10_design_72 rfl ?_
          refine lv_iload_n hx hb dX10_design_73 rfl (lv_at hl 1 rfl) ?_
          refine lv_iload_n hx hb dX10_design_74 rfl (lv_at hl 2 rfl) ?_
          obtain ⟨hc_70, hf⟩ := aw_chk_some hf
          obtain ⟨hc_71, hf⟩ := aw_chk_some hf
          obtain ⟨hc_72, hf⟩ := aw_chk_some hf
          obtain ⟨z_73, hz_74, hf⟩ := aw_bind_some hf
          refine aw_IN (As := [.int x1, .int x2]) (rest := [.ref (ad_65 q_62), .int (d.1 x0 4), .ref (ad_65 q_58)]) X G E_66 hl.1 cr_X10_173 (c_X1_init l hz_74) rfl rfl rfl ⟨Nat.le_of_ble_eq_true rfl, Nat.le_of_ble_eq_true rfl⟩ (Nat.le_of_ble_eq_true rfl) dX10_design_75 ⟨Nat.le_of_ble_eq_true rfl, Nat.le_of_ble_eq_true rfl⟩ (fun ad_75 H locs hext_77 E_76 G => ?_)
          have ha_78 := (hext_77 _ hc_70).symm
          rw [ha_78]
          have ha_79 := (hext_77 _ hc_71).symm
          rw [ha_79]
          have ha_80 := (hext_77 _ hc_72).symm
          rw [ha_80] at hl
          obtain ⟨hc_81, hf⟩ := aw_chk_some hf
          refine aw_qas X G E_76 26 1 5 (RX1, TX1, 5) (by decide) rfl (by decide) rfl hc_81.1 hc_81.2 hf dX10_design_78 (fun σ_82 H locs hf E_83 G => ?_)
          refine lv_aload_n hx hb dX10_design_79 rfl (lv_at hl 0 rfl) ?_
          refine lv_dup hx hb dX10_design_80 rfl ?_
          obtain ⟨hc_84, hf⟩ := aw_chk_some hf
          refine gf_X10_33 hx hb G hown hc_84 dX10_design_81 ?_
          refine lv_iconst (v := (1 : Int32)) hx hb dX10_design_84 (by decide) ?_
          refine lv_iadd hx hb dX10_design_85 ?_
          refine pf_X10_33 hx hb G hown hc_84 dX10_design_86 (fun H locs G => ?_)
          refine lv_aload_n hx hb dX10_design_89 rfl (lv_at hl 0 rfl) ?_
          refine gf_X10_33 hx hb G hown hc_84 dX10_design_90 ?_
          refine lv_iconst (v := (1 : Int32)) hx hb dX10_design_93 (by decide) ?_
          refine lv_isub hx hb dX10_design_94 ?_
          exact aw_retd X G E_83 hf dX10_design_95 (Nat.le_of_ble_eq_true rfl) (Nat.le_of_ble_eq_true rfl)
        · have hf := aw_ite_f hc hf
          exact aw_throwD X XT G E hl.1 3 hf tw_X10_99_103 "there are 5 designs" (by decide +kernel) dX10_design_51 dX10_design_54 dX10_design_55 dX10_design_57 dX10_design_60 ⟨(Nat.le_of_ble_eq_true rfl), (Nat.le_of_ble_eq_true rfl), (Nat.le_of_ble_eq_true rfl), (Nat.le_of_ble_eq_true rfl)⟩ (Nat.le_of_ble_eq_true rfl) (Nat.le_of_ble_eq_true rfl)
      · have hf := aw_ite_f hc hf
        refine lv_iload_n hx hb dX10_design_24 rfl (lv_at hl 2 rfl) ?_
        refine lv_if_lt (tgt := 33) hx hb dX10_design_25 (by decide) (fun hc => ?_) (fun hc => ?_)
        · have hf := aw_ite_t hc hf
          exact aw_throwD X XT G E hl.1 2 hf tw_X10_89_93 "no such base" (by decide +kernel) dX10_design_33 dX10_design_36 dX10_design_37 dX10_design_39 dX10_design_42 ⟨(Nat.le_of_ble_eq_true rfl), (Nat.le_of_ble_eq_true rfl), (Nat.le_of_ble_eq_true rfl), (Nat.le_of_ble_eq_true rfl)⟩ (Nat.le_of_ble_eq_true rfl) (Nat.le_of_ble_eq_true rfl)
        · have hf := aw_ite_f hc hf
          refine lv_iload_n hx hb dX10_design_28 rfl (lv_at hl 2 rfl) ?_
          refine lv_iconst (v := (3 : Int32)) hx hb dX10_design_29 (by decide) ?_
          refine lv_icmp_lt (tgt := 43) hx hb dX10_design_30 (by decide) (fun hc => ?_) (fun hc => ?_)
          · have hf := aw_ite_t hc hf
            refine lv_aload_n hx hb dX10_design_43 rfl (lv_at hl 0 rfl) ?_
            obtain ⟨hc_85, hf⟩ := aw_chk_some hf
            refine gf_X10_33 hx hb G hown hc_85 dX10_design_44 ?_
            refine lv_iconst (v := (5 : Int32)) hx hb dX10_design_47 (by decide) ?_
            refine lv_icmp_lt (tgt := 61) hx hb dX10_design_48 (by decide) (fun hc => ?_) (fun hc => ?_)
            · have hf := aw_ite_t hc hf
              refine lv_aload_n hx hb dX10_design_61 rfl (lv_at hl 0 rfl) ?_
              obtain ⟨q_86, hq_87, hf⟩ := aw_bind_some hf
              refine gf_X10_29 hx hb G hown hc_85 hq_87 dX10_design_62 ?_
              refine lv_aload_n hx hb dX10_design_65 rfl (lv_at hl 0 rfl) ?_
              refine gf_X10_33 hx hb G hown hc_85 dX10_design_66 ?_
              obtain ⟨hc_88, hf⟩ := aw_chk_some hf
              obtain ⟨hc_89, hf⟩ := aw_chk_some hf
              refine aw_newO (ci := 1) (C := RX1) (T := TX1) (N := 5) X G E (by decide) tyX1 tyX1_ok rfl inaX1 m_94 m_471 m_17 dzX1 (Nat.le_of_ble_eq_true rfl) (Nat.le_of_ble_eq_true rfl) hf dX10_design_69 (fun q_90 σ_91 d_92 ad_93 H hf hext_95 E_94 G => ?_)
              have ha_96 := (hext_95 _ hc_88).symm
              rw [ha_96]
              have ha_97 := (hext_95 _ hc_89).symm
              rw [ha_97] at hl
              refine lv_dup hx hb dX10_design_72 rfl ?_
              refine lv_iload_n hx hb dX10_design_73 rfl (lv_at hl 1 rfl) ?_
              refine lv_iload_n hx hb dX10_design_74 rfl (lv_at hl 2 rfl) ?_
              obtain ⟨hc_98, hf⟩ := aw_chk_some hf
              obtain ⟨hc_99, hf⟩ := aw_chk_some hf
              obtain ⟨hc_100, hf⟩ := aw_chk_some hf
              obtain ⟨z_101, hz_102, hf⟩ := aw_bind_some hf
              refine aw_IN (As := [.int x1, .int x2]) (rest := [.ref (ad_93 q_90), .int (d.1 x0 4), .ref (ad_93 q_86)]) X G E_94 hl.1 cr_X10_173 (c_X1_init l hz_102) rfl rfl rfl ⟨Nat.le_of_ble_eq_true rfl, Nat.le_of_ble_eq_true rfl⟩ (Nat.le_of_ble_eq_true rfl) dX10_design_75 ⟨Nat.le_of_ble_eq_true rfl, Nat.le_of_ble_eq_true rfl⟩ (fun ad_103 H locs hext_105 E_104 G => ?_)
              have ha_106 := (hext_105 _ hc_98).symm
              rw [ha_106]
              have ha_107 := (hext_105 _ hc_99).symm
              rw [ha_107]
              have ha_108 := (hext_105 _ hc_100).symm
              rw [ha_108] at hl
              obtain ⟨hc_109, hf⟩ := aw_chk_some hf
              refine aw_qas X G E_104 26 1 5 (RX1, TX1, 5) (by decide) rfl (by decide) rfl hc_109.1 hc_109.2 hf dX10_design_78 (fun σ_110 H locs hf E_111 G => ?_)
              refine lv_aload_n hx hb dX10_design_79 rfl (lv_at hl 0 rfl) ?_
              refine lv_dup hx hb dX10_design_80 rfl ?_
              obtain ⟨hc_112, hf⟩ := aw_chk_some hf
              refine gf_X10_33 hx hb G hown hc_112 dX10_design_81 ?_
              refine lv_iconst (v := (1 : Int32)) hx hb dX10_design_84 (by decide) ?_
              refine lv_iadd hx hb dX10_design_85 ?_
              refine pf_X10_33 hx hb G hown hc_112 dX10_design_86 (fun H locs G => ?_)
              refine lv_aload_n hx hb dX10_design_89 rfl (lv_at hl 0 rfl) ?_
              refine gf_X10_33 hx hb G hown hc_112 dX10_design_90 ?_
              refine lv_iconst (v := (1 : Int32)) hx hb dX10_design_93 (by decide) ?_
              refine lv_isub hx hb dX10_design_94 ?_
              exact aw_retd X G E_111 hf dX10_design_95 (Nat.le_of_ble_eq_true rfl) (Nat.le_of_ble_eq_true rfl)
            · have hf := aw_ite_f hc hf
              exact aw_throwD X XT G E hl.1 3 hf tw_X10_99_103 "there are 5 designs" (by decide +kernel) dX10_design_51 dX10_design_54 dX10_design_55 dX10_design_57 dX10_design_60 ⟨(Nat.le_of_ble_eq_true rfl), (Nat.le_of_ble_eq_true rfl), (Nat.le_of_ble_eq_true rfl), (Nat.le_of_ble_eq_true rfl)⟩ (Nat.le_of_ble_eq_true rfl) (Nat.le_of_ble_eq_true rfl)
          · have hf := aw_ite_f hc hf
            exact aw_throwD X XT G E hl.1 2 hf tw_X10_89_93 "no such base" (by decide +kernel) dX10_design_33 dX10_design_36 dX10_design_37 dX10_design_39 dX10_design_42 ⟨(Nat.le_of_ble_eq_true rfl), (Nat.le_of_ble_eq_true rfl), (Nat.le_of_ble_eq_true rfl), (Nat.le_of_ble_eq_true rfl)⟩ (Nat.le_of_ble_eq_true rfl) (Nat.le_of_ble_eq_true rfl)
    · have hf := aw_ite_f hc hf
      exact aw_throwD X XT G E hl.1 2 hf tw_X10_89_93 "no such kind" (by decide +kernel) dX10_design_9 dX10_design_12 dX10_design_13 dX10_design_15 dX10_design_18 ⟨(Nat.le_of_ble_eq_true rfl), (Nat.le_of_ble_eq_true rfl), (Nat.le_of_ble_eq_true rfl), (Nat.le_of_ble_eq_true rfl)⟩ (Nat.le_of_ble_eq_true rfl) (Nat.le_of_ble_eq_true rfl)
