/-! X10_init -/
def rm_X10_init : Room := { frames := 3, cells := 264, slots := 5693, locals := 65 }
def f_X10_init (x0 : Nat) (σ : Sg) (d : Dt) : Option (Sg × Dt) :=
  aw_chk (x0 < σ.1) (aw_new σ d 9 4 (fun q_2 σ_3 d_4 => aw_chk (q_2 < σ_3.1) (aw_chk (x0 < σ_3.1) ((f_X9_init q_2 σ_3 d_4).bind (fun z_11 => aw_chk (aw_O z_11.1 10 13 x0 ∧ q_2 < z_11.1.1) (aw_let (aw_sR z_11.1 x0 0 q_2) (fun σ_19 => aw_chk (x0 < σ_19.1) (aw_new σ_19 z_11.2 2 8 (fun q_22 σ_23 d_24 => aw_chk (q_22 < σ_23.1) (aw_chk (x0 < σ_23.1) ((f_X2_init q_22 σ_23 d_24).bind (fun z_31 => aw_chk (aw_O z_31.1 10 13 x0 ∧ q_22 < z_31.1.1) (aw_let (aw_sR z_31.1 x0 1 q_22) (fun σ_39 => aw_chk (x0 < σ_39.1) (aw_new σ_39 z_31.2 25 3 (fun q_42 σ_43 d_44 => aw_chk (aw_O σ_43 10 13 x0 ∧ q_42 < σ_43.1) (aw_let (aw_sR σ_43 x0 2 q_42) (fun σ_50 => aw_chk (x0 < σ_50.1) (aw_new σ_50 d_44 26 5 (fun q_53 σ_54 d_55 => aw_chk (aw_O σ_54 10 13 x0 ∧ q_53 < σ_54.1) (aw_let (aw_sR σ_54 x0 3 q_53) (fun σ_61 => aw_chk (aw_O σ_61 10 13 x0) (aw_chk (x0 < σ_61.1) (aw_new σ_61 (aw_sI d_55 x0 4 ((0 : Int32))) 6 4 (fun q_65 σ_66 d_67 => aw_chk (q_65 < σ_66.1) (aw_chk (x0 < σ_66.1) ((f_X6_init q_65 σ_66 d_67).bind (fun z_74 => aw_chk (aw_O z_74.1 10 13 x0 ∧ q_65 < z_74.1.1) (aw_let (aw_sR z_74.1 x0 5 q_65) (fun σ_82 => aw_chk (x0 < σ_82.1) (aw_new σ_82 z_74.2 0 7 (fun q_85 σ_86 d_87 => aw_chk (q_85 < σ_86.1) (aw_chk (x0 < σ_86.1) ((f_X0_init q_85 σ_86 d_87).bind (fun z_94 => aw_chk (aw_O z_94.1 10 13 x0 ∧ q_85 < z_94.1.1) (aw_let (aw_sR z_94.1 x0 6 q_85) (fun σ_102 => aw_chk (x0 < σ_102.1) (aw_new σ_102 z_94.2 7 3 (fun q_105 σ_106 d_107 => aw_chk (q_105 < σ_106.1) (aw_chk (x0 < σ_106.1) ((f_X7_init q_105 σ_106 d_107).bind (fun z_114 => aw_chk (aw_O z_114.1 10 13 x0 ∧ q_105 < z_114.1.1) (aw_let (aw_sR z_114.1 x0 7 q_105) (fun σ_122 => aw_chk (x0 < σ_122.1) (aw_new σ_122 z_114.2 7 3 (fun q_125 σ_126 d_127 => aw_chk (q_125 < σ_126.1) (aw_chk (x0 < σ_126.1) ((f_X7_init q_125 σ_126 d_127).bind (fun z_134 => aw_chk (aw_O z_134.1 10 13 x0 ∧ q_125 < z_134.1.1) (aw_let (aw_sR z_134.1 x0 8 q_125) (fun σ_142 => aw_chk (x0 < σ_142.1) (aw_new σ_142 z_134.2 8 1 (fun q_145 σ_146 d_147 => aw_chk (q_145 < σ_146.1) (aw_chk (x0 < σ_146.1) ((f_X8_init q_145 σ_146 d_147).bind (fun z_154 => aw_chk (aw_O z_154.1 10 13 x0 ∧ q_145 < z_154.1.1) (aw_let (aw_sR z_154.1 x0 9 q_145) (fun σ_162 => aw_chk (x0 < σ_162.1) (aw_new σ_162 z_154.2 5 6 (fun q_165 σ_166 d_167 => aw_chk (q_165 < σ_166.1) (aw_chk (x0 < σ_166.1) ((f_X5_init q_165 σ_166 d_167).bind (fun z_174 => aw_chk (aw_O z_174.1 10 13 x0 ∧ q_165 < z_174.1.1) (aw_let (aw_sR z_174.1 x0 10 q_165) (fun σ_182 => aw_chk (x0 < σ_182.1) (aw_new σ_182 z_174.2 4 8 (fun q_185 σ_186 d_187 => aw_chk (q_185 < σ_186.1) (aw_chk (x0 < σ_186.1) ((f_X4_init q_185 σ_186 d_187).bind (fun z_194 => aw_chk (aw_O z_194.1 10 13 x0 ∧ q_185 < z_194.1.1) (aw_let (aw_sR z_194.1 x0 11 q_185) (fun σ_202 => aw_chk (x0 < σ_202.1) (aw_new σ_202 z_194.2 3 1 (fun q_205 σ_206 d_207 => aw_chk (q_205 < σ_206.1) (aw_chk (x0 < σ_206.1) ((f_X3_init q_205 σ_206 d_207).bind (fun z_214 => aw_chk (aw_O z_214.1 10 13 x0 ∧ q_205 < z_214.1.1) (aw_let (aw_sR z_214.1 x0 12 q_205) (fun σ_222 => if ((3 : Int32)) ≤ ((0 : Int32)) then some (σ_222, z_214.2) else aw_chk (aw_O σ_222 10 13 x0) ((σ_222.2.2 x0 2).bind (fun q_225 => aw_chk (q_225 < σ_222.1) (aw_chk (x0 < σ_222.1) (aw_new σ_222 z_214.2 2 8 (fun q_229 σ_230 d_231 => aw_chk (q_229 < σ_230.1) (aw_chk (q_225 < σ_230.1) (aw_chk (x0 < σ_230.1) ((f_X2_init q_229 σ_230 d_231).bind (fun z_240 => aw_chk (aw_I z_240.1 25 q_225 ((0 : Int32)) ∧ aw_O z_240.1 2 8 q_229) (aw_let (aw_sR z_240.1 q_225 ((0 : Int32)).toNatClampNeg q_229) (fun σ_249 => if ((3 : Int32)) ≤ (((0 : Int32)) + 1) then some (σ_249, z_240.2) else aw_chk (aw_O σ_249 10 13 x0) ((σ_249.2.2 x0 2).bind (fun q_252 => aw_chk (q_252 < σ_249.1) (aw_chk (x0 < σ_249.1) (aw_new σ_249 z_240.2 2 8 (fun q_256 σ_257 d_258 => aw_chk (q_256 < σ_257.1) (aw_chk (q_252 < σ_257.1) (aw_chk (x0 < σ_257.1) ((f_X2_init q_256 σ_257 d_258).bind (fun z_267 => aw_chk (aw_I z_267.1 25 q_252 (((0 : Int32)) + 1) ∧ aw_O z_267.1 2 8 q_256) (aw_let (aw_sR z_267.1 q_252 (((0 : Int32)) + 1).toNatClampNeg q_256) (fun σ_276 => if ((3 : Int32)) ≤ ((((0 : Int32)) + 1) + 1) then some (σ_276, z_267.2) else aw_chk (aw_O σ_276 10 13 x0) ((σ_276.2.2 x0 2).bind (fun q_279 => aw_chk (q_279 < σ_276.1) (aw_chk (x0 < σ_276.1) (aw_new σ_276 z_267.2 2 8 (fun q_283 σ_284 d_285 => aw_chk (q_283 < σ_284.1) (aw_chk (q_279 < σ_284.1) (aw_chk (x0 < σ_284.1) ((f_X2_init q_283 σ_284 d_285).bind (fun z_294 => aw_chk (aw_I z_294.1 25 q_279 ((((0 : Int32)) + 1) + 1) ∧ aw_O z_294.1 2 8 q_283) (aw_let (aw_sR z_294.1 q_279 ((((0 : Int32)) + 1) + 1).toNatClampNeg q_283) (fun σ_303 => if ((3 : Int32)) ≤ (((((0 : Int32)) + 1) + 1) + 1) then some (σ_303, z_294.2) else none))))))))))))))))))))))))))))))))))))))))))))))))))))))))))))))))))))))))))))))))))))))))))))))))))))))))))))))))
section W_X10_init
variable {p : Program} {l : Launch} {e : Env} {s : State} {m : MethodId} {args : Array Value} {below : List Frame} {meth : Method} {c : Code}
variable {D : va_G} {cA : Nat → ClassId} {base : Nat} {ad0 : Nat → Nat} {σ0 : Sg}
end W_X10_init
set_option maxHeartbeats 4000000 in
set_option maxRecDepth 100000 in
theorem c_X10_init (l : Launch) {σ : Sg} {x0 : Nat} {d : Dt} {z : Sg × Dt} (hf : f_X10_init x0 σ d = some z) : aw_Nv l yX10_init (Cond.code yX10_init cX10_init 2 (none)) rm_X10_init (fun ad => [.ref (ad x0)]) σ d z := by
  intro hwf D cA base ad
  refine aw_ofW (own := RX10) (cc := cX10_init) (nL := 2) (ret := none) (by decide) rfl rfl ?_
  intro p e s m below meth c X hnm G
  have hx := X.1; have hb := X.2.1; have hml := X.2.2.1; have hown := X.2.2.2.1
  have E : aw_ext σ ad σ ad := aw_ext.rf hwf
  refine aw_ls (lv := [(0, .ref (ad x0))]) (Nat.le_of_ble_eq_true rfl) rfl (fun ls hl => ?_)
  generalize ([.ref (ad x0)] : List Value).toArray = args0
  unfold f_X10_init at hf
  refine lv_aload_n hx hb dX10_init_0 rfl (lv_at hl 0 rfl) ?_
  refine aw_objI X G hl.1 m_26 m_27 m_28 ⟨Nat.le_of_ble_eq_true rfl, Nat.le_of_ble_eq_true rfl⟩ dX10_init_1 ?_
  refine lv_aload_n hx hb dX10_init_4 rfl (lv_at hl 0 rfl) ?_
  obtain ⟨hc_1, hf⟩ := aw_chk_some hf
  refine aw_newO (ci := 9) (C := RX9) (T := TX9) (N := 4) X G E (by decide) tyX9 tyX9_ok rfl inaX9 m_29 m_30 m_2 dzX9 (Nat.le_of_ble_eq_true rfl) (Nat.le_of_ble_eq_true rfl) hf dX10_init_5 (fun q_2 σ_3 d_4 ad_5 H hf hext_7 E_6 G => ?_)
  have ha_8 := (hext_7 _ hc_1).symm
  rw [ha_8]
  rw [ha_8] at hl
  refine lv_dup hx hb dX10_init_8 rfl ?_
  obtain ⟨hc_9, hf⟩ := aw_chk_some hf
  obtain ⟨hc_10, hf⟩ := aw_chk_some hf
  obtain ⟨z_11, hz_12, hf⟩ := aw_bind_some hf
  refine aw_INN (As := []) (rest := [.ref (ad_5 q_2), .ref (ad_5 x0)]) X G E_6 hl.1 cr_X10_11 (c_X9_init l hz_12) rfl rfl rfl ⟨Nat.le_of_ble_eq_true rfl, Nat.le_of_ble_eq_true rfl⟩ (Nat.le_of_ble_eq_true rfl) dX10_init_9 ⟨Nat.le_of_ble_eq_true rfl, Nat.le_of_ble_eq_true rfl⟩ (fun ad_13 H locs hext_15 E_14 G => ?_)
  have ha_16 := (hext_15 _ hc_9).symm
  rw [ha_16]
  have ha_17 := (hext_15 _ hc_10).symm
  rw [ha_17]
  rw [ha_17] at hl
  obtain ⟨hc_18, hf⟩ := aw_chk_some hf
  refine pr_X10_12 hx hb G hown hnm E_14 hc_18 hf dX10_init_12 (fun σ_19 H locs hf E_20 G => ?_)
  refine lv_aload_n hx hb dX10_init_15 rfl (lv_at hl 0 rfl) ?_
  obtain ⟨hc_21, hf⟩ := aw_chk_some hf
  refine aw_newO (ci := 2) (C := RX2) (T := TX2) (N := 8) X G E_20 (by decide) tyX2 tyX2_ok rfl inaX2 m_53 m_54 m_3 dzX2 (Nat.le_of_ble_eq_true rfl) (Nat.le_of_ble_eq_true rfl) hf dX10_init_16 (fun q_22 σ_23 d_24 ad_25 H hf hext_27 E_26 G => ?_)
  have ha_28 := (hext_27 _ hc_21).symm
  rw [ha_28]
  rw [ha_28] at hl
  refine lv_dup hx hb dX10_init_19 rfl ?_
  obtain ⟨hc_29, hf⟩ := aw_chk_some hf
  obtain ⟨hc_30, hf⟩ := aw_chk_some hf
  obtain ⟨z_31, hz_32, hf⟩ := aw_bind_some hf
  refine aw_INN (As := []) (rest := [.ref (ad_25 q_22), .ref (ad_25 x0)]) X G E_26 hl.1 cr_X10_18 (c_X2_init l hz_32) rfl rfl rfl ⟨Nat.le_of_ble_eq_true rfl, Nat.le_of_ble_eq_true rfl⟩ (Nat.le_of_ble_eq_true rfl) dX10_init_20 ⟨Nat.le_of_ble_eq_true rfl, Nat.le_of_ble_eq_true rfl⟩ (fun ad_33 H locs hext_35 E_34 G => ?_)
  have ha_36 := (hext_35 _ hc_29).symm
  rw [ha_36]
  have ha_37 := (hext_35 _ hc_30).symm
  rw [ha_37]
  rw [ha_37] at hl
  obtain ⟨hc_38, hf⟩ := aw_chk_some hf
  refine pr_X10_19 hx hb G hown hnm E_34 hc_38 hf dX10_init_23 (fun σ_39 H locs hf E_40 G => ?_)
  refine lv_aload_n hx hb dX10_init_26 rfl (lv_at hl 0 rfl) ?_
  refine lv_iconst (v := (3 : Int32)) hx hb dX10_init_27 (by decide) ?_
  obtain ⟨hc_41, hf⟩ := aw_chk_some hf
  refine aw_newQ (C := RX2) (t := 25) (N := 3) X G E_40 m_53 G.1.2.2.2.2.1.1 (by decide) rfl (by decide) (by decide) (Nat.le_of_ble_eq_true rfl) (Nat.le_of_ble_eq_true rfl) (Nat.le_of_ble_eq_true rfl) hf dX10_init_28 (fun q_42 σ_43 d_44 ad_45 H hf hext_47 E_46 G => ?_)
  have ha_48 := (hext_47 _ hc_41).symm
  rw [ha_48]
  rw [ha_48] at hl
  obtain ⟨hc_49, hf⟩ := aw_chk_some hf
  refine pr_X10_23 hx hb G hown hnm E_46 hc_49 hf dX10_init_31 (fun σ_50 H locs hf E_51 G => ?_)
  refine lv_aload_n hx hb dX10_init_34 rfl (lv_at hl 0 rfl) ?_
  refine lv_iconst (v := (5 : Int32)) hx hb dX10_init_35 (by decide) ?_
  obtain ⟨hc_52, hf⟩ := aw_chk_some hf
  refine aw_newQ (C := RX1) (t := 26) (N := 5) X G E_51 m_94 G.1.2.2.2.2.1.2.1 (by decide) rfl (by decide) (by decide) (Nat.le_of_ble_eq_true rfl) (Nat.le_of_ble_eq_true rfl) (Nat.le_of_ble_eq_true rfl) hf dX10_init_36 (fun q_53 σ_54 d_55 ad_56 H hf hext_58 E_57 G => ?_)
  have ha_59 := (hext_58 _ hc_52).symm
  rw [ha_59]
  rw [ha_59] at hl
  obtain ⟨hc_60, hf⟩ := aw_chk_some hf
  refine pr_X10_29 hx hb G hown hnm E_57 hc_60 hf dX10_init_39 (fun σ_61 H locs hf E_62 G => ?_)
  refine lv_aload_n hx hb dX10_init_42 rfl (lv_at hl 0 rfl) ?_
  refine lv_iconst (v := (0 : Int32)) hx hb dX10_init_43 (by decide) ?_
  obtain ⟨hc_63, hf⟩ := aw_chk_some hf
  refine pf_X10_33 hx hb G hown hc_63 dX10_init_44 (fun H locs G => ?_)
  refine lv_aload_n hx hb dX10_init_47 rfl (lv_at hl 0 rfl) ?_
  obtain ⟨hc_64, hf⟩ := aw_chk_some hf
  refine aw_newO (ci := 6) (C := RX6) (T := TX6) (N := 4) X G E_62 (by decide) tyX6 tyX6_ok rfl inaX6 m_96 m_97 m_4 dzX6 (Nat.le_of_ble_eq_true rfl) (Nat.le_of_ble_eq_true rfl) hf dX10_init_48 (fun q_65 σ_66 d_67 ad_68 H hf hext_70 E_69 G => ?_)
  have ha_71 := (hext_70 _ hc_64).symm
  rw [ha_71]
  rw [ha_71] at hl
  refine lv_dup hx hb dX10_init_51 rfl ?_
  obtain ⟨hc_72, hf⟩ := aw_chk_some hf
  obtain ⟨hc_73, hf⟩ := aw_chk_some hf
  obtain ⟨z_74, hz_75, hf⟩ := aw_bind_some hf
  refine aw_IN (As := []) (rest := [.ref (ad_68 q_65), .ref (ad_68 x0)]) X G E_69 hl.1 cr_X10_39 (c_X6_init l hz_75) rfl rfl rfl ⟨Nat.le_of_ble_eq_true rfl, Nat.le_of_ble_eq_true rfl⟩ (Nat.le_of_ble_eq_true rfl) dX10_init_52 ⟨Nat.le_of_ble_eq_true rfl, Nat.le_of_ble_eq_true rfl⟩ (fun ad_76 H locs hext_78 E_77 G => ?_)
  have ha_79 := (hext_78 _ hc_72).symm
  rw [ha_79]
  have ha_80 := (hext_78 _ hc_73).symm
  rw [ha_80]
  rw [ha_80] at hl
  obtain ⟨hc_81, hf⟩ := aw_chk_some hf
  refine pr_X10_40 hx hb G hown hnm E_77 hc_81 hf dX10_init_55 (fun σ_82 H locs hf E_83 G => ?_)
  refine lv_aload_n hx hb dX10_init_58 rfl (lv_at hl 0 rfl) ?_
  obtain ⟨hc_84, hf⟩ := aw_chk_some hf
  refine aw_newO (ci := 0) (C := RX0) (T := TX0) (N := 7) X G E_83 (by decide) tyX0 tyX0_ok rfl inaX0 m_134 m_135 m_6 dzX0 (Nat.le_of_ble_eq_true rfl) (Nat.le_of_ble_eq_true rfl) hf dX10_init_59 (fun q_85 σ_86 d_87 ad_88 H hf hext_90 E_89 G => ?_)
  have ha_91 := (hext_90 _ hc_84).symm
  rw [ha_91]
  rw [ha_91] at hl
  refine lv_dup hx hb dX10_init_62 rfl ?_
  obtain ⟨hc_92, hf⟩ := aw_chk_some hf
  obtain ⟨hc_93, hf⟩ := aw_chk_some hf
  obtain ⟨z_94, hz_95, hf⟩ := aw_bind_some hf
  refine aw_INN (As := []) (rest := [.ref (ad_88 q_85), .ref (ad_88 x0)]) X G E_89 hl.1 cr_X10_46 (c_X0_init l hz_95) rfl rfl rfl ⟨Nat.le_of_ble_eq_true rfl, Nat.le_of_ble_eq_true rfl⟩ (Nat.le_of_ble_eq_true rfl) dX10_init_63 ⟨Nat.le_of_ble_eq_true rfl, Nat.le_of_ble_eq_true rfl⟩ (fun ad_96 H locs hext_98 E_97 G => ?_)
  have ha_99 := (hext_98 _ hc_92).symm
  rw [ha_99]
  have ha_100 := (hext_98 _ hc_93).symm
  rw [ha_100]
  rw [ha_100] at hl
  obtain ⟨hc_101, hf⟩ := aw_chk_some hf
  refine pr_X10_47 hx hb G hown hnm E_97 hc_101 hf dX10_init_66 (fun σ_102 H locs hf E_103 G => ?_)
  refine lv_aload_n hx hb dX10_init_69 rfl (lv_at hl 0 rfl) ?_
  obtain ⟨hc_104, hf⟩ := aw_chk_some hf
  refine aw_newO (ci := 7) (C := RX7) (T := TX7) (N := 3) X G E_103 (by decide) tyX7 tyX7_ok rfl inaX7 m_168 m_169 m_7 dzX7 (Nat.le_of_ble_eq_true rfl) (Nat.le_of_ble_eq_true rfl) hf dX10_init_70 (fun q_105 σ_106 d_107 ad_108 H hf hext_110 E_109 G => ?_)
  have ha_111 := (hext_110 _ hc_104).symm
  rw [ha_111]
  rw [ha_111] at hl
  refine lv_dup hx hb dX10_init_73 rfl ?_
  obtain ⟨hc_112, hf⟩ := aw_chk_some hf
  obtain ⟨hc_113, hf⟩ := aw_chk_some hf
  obtain ⟨z_114, hz_115, hf⟩ := aw_bind_some hf
  refine aw_INN (As := []) (rest := [.ref (ad_108 q_105), .ref (ad_108 x0)]) X G E_109 hl.1 cr_X10_53 (c_X7_init l hz_115) rfl rfl rfl ⟨Nat.le_of_ble_eq_true rfl, Nat.le_of_ble_eq_true rfl⟩ (Nat.le_of_ble_eq_true rfl) dX10_init_74 ⟨Nat.le_of_ble_eq_true rfl, Nat.le_of_ble_eq_true rfl⟩ (fun ad_116 H locs hext_118 E_117 G => ?_)
  have ha_119 := (hext_118 _ hc_112).symm
  rw [ha_119]
  have ha_120 := (hext_118 _ hc_113).symm
  rw [ha_120]
  rw [ha_120] at hl
  obtain ⟨hc_121, hf⟩ := aw_chk_some hf
  refine pr_X10_54 hx hb G hown hnm E_117 hc_121 hf dX10_init_77 (fun σ_122 H locs hf E_123 G => ?_)
  refine lv_aload_n hx hb dX10_init_80 rfl (lv_at hl 0 rfl) ?_
  obtain ⟨hc_124, hf⟩ := aw_chk_some hf
  refine aw_newO (ci := 7) (C := RX7) (T := TX7) (N := 3) X G E_123 (by decide) tyX7 tyX7_ok rfl inaX7 m_168 m_169 m_7 dzX7 (Nat.le_of_ble_eq_true rfl) (Nat.le_of_ble_eq_true rfl) hf dX10_init_81 (fun q_125 σ_126 d_127 ad_128 H hf hext_130 E_129 G => ?_)
  have ha_131 := (hext_130 _ hc_124).symm
  rw [ha_131]
  rw [ha_131] at hl
  refine lv_dup hx hb dX10_init_84 rfl ?_
  obtain ⟨hc_132, hf⟩ := aw_chk_some hf
  obtain ⟨hc_133, hf⟩ := aw_chk_some hf
  obtain ⟨z_134, hz_135, hf⟩ := aw_bind_some hf
  refine aw_INN (As := []) (rest := [.ref (ad_128 q_125), .ref (ad_128 x0)]) X G E_129 hl.1 cr_X10_53 (c_X7_init l hz_135) rfl rfl rfl ⟨Nat.le_of_ble_eq_true rfl, Nat.le_of_ble_eq_true rfl⟩ (Nat.le_of_ble_eq_true rfl) dX10_init_85 ⟨Nat.le_of_ble_eq_true rfl, Nat.le_of_ble_eq_true rfl⟩ (fun ad_136 H locs hext_138 E_137 G => ?_)
  have ha_139 := (hext_138 _ hc_132).symm
  rw [ha_139]
  have ha_140 := (hext_138 _ hc_133).symm
  rw [ha_140]
  rw [ha_140] at hl
  obtain ⟨hc_141, hf⟩ := aw_chk_some hf
  refine pr_X10_58 hx hb G hown hnm E_137 hc_141 hf dX10_init_88 (fun σ_142 H locs hf E_143 G => ?_)
  refine lv_aload_n hx hb dX10_init_91 rfl (lv_at hl 0 rfl) ?_
  obtain ⟨hc_144, hf⟩ := aw_chk_some hf
  refine aw_newO (ci := 8) (C := RX8) (T := TX8) (N := 1) X G E_143 (by decide) tyX8 tyX8_ok rfl inaX8 m_188 m_103 m_5 dzX8 (Nat.le_of_ble_eq_true rfl) (Nat.le_of_ble_eq_true rfl) hf dX10_init_92 (fun q_145 σ_146 d_147 ad_148 H hf hext_150 E_149 G => ?_)
  have ha_151 := (hext_150 _ hc_144).symm
  rw [ha_151]
  rw [ha_151] at hl
  refine lv_dup hx hb dX10_init_95 rfl ?_
  obtain ⟨hc_152, hf⟩ := aw_chk_some hf
  obtain ⟨hc_153, hf⟩ := aw_chk_some hf
  obtain ⟨z_154, hz_155, hf⟩ := aw_bind_some hf
  refine aw_INN (As := []) (rest := [.ref (ad_148 q_145), .ref (ad_148 x0)]) X G E_149 hl.1 cr_X10_63 (c_X8_init l hz_155) rfl rfl rfl ⟨Nat.le_of_ble_eq_true rfl, Nat.le_of_ble_eq_true rfl⟩ (Nat.le_of_ble_eq_true rfl) dX10_init_96 ⟨Nat.le_of_ble_eq_true rfl, Nat.le_of_ble_eq_true rfl⟩ (fun ad_156 H locs hext_158 E_157 G => ?_)
  have ha_159 := (hext_158 _ hc_152).symm
  rw [ha_159]
  have ha_160 := (hext_158 _ hc_153).symm
  rw [ha_160]
  rw [ha_160] at hl
  obtain ⟨hc_161, hf⟩ := aw_chk_some hf
  refine pr_X10_64 hx hb G hown hnm E_157 hc_161 hf dX10_init_99 (fun σ_162 H locs hf E_163 G => ?_)
  refine lv_aload_n hx hb dX10_init_102 rfl (lv_at hl 0 rfl) ?_
  obtain ⟨hc_164, hf⟩ := aw_chk_some hf
  refine aw_newO (ci := 5) (C := RX5) (T := TX5) (N := 6) X G E_163 (by decide) tyX5 tyX5_ok rfl inaX5 m_190 m_191 m_8 dzX5 (Nat.le_of_ble_eq_true rfl) (Nat.le_of_ble_eq_true rfl) hf dX10_init_103 (fun q_165 σ_166 d_167 ad_168 H hf hext_170 E_169 G => ?_)
  have ha_171 := (hext_170 _ hc_164).symm
  rw [ha_171]
  rw [ha_171] at hl
  refine lv_dup hx hb dX10_init_106 rfl ?_
  obtain ⟨hc_172, hf⟩ := aw_chk_some hf
  obtain ⟨hc_173, hf⟩ := aw_chk_some hf
  obtain ⟨z_174, hz_175, hf⟩ := aw_bind_some hf
  refine aw_INN (As := []) (rest := [.ref (ad_168 q_165), .ref (ad_168 x0)]) X G E_169 hl.1 cr_X10_70 (c_X5_init l hz_175) rfl rfl rfl ⟨Nat.le_of_ble_eq_true rfl, Nat.le_of_ble_eq_true rfl⟩ (Nat.le_of_ble_eq_true rfl) dX10_init_107 ⟨Nat.le_of_ble_eq_true rfl, Nat.le_of_ble_eq_true rfl⟩ (fun ad_176 H locs hext_178 E_177 G => ?_)
  have ha_179 := (hext_178 _ hc_172).symm
  rw [ha_179]
  have ha_180 := (hext_178 _ hc_173).symm
  rw [ha_180]
  rw [ha_180] at hl
  obtain ⟨hc_181, hf⟩ := aw_chk_some hf
  refine pr_X10_71 hx hb G hown hnm E_177 hc_181 hf dX10_init_110 (fun σ_182 H locs hf E_183 G => ?_)
  refine lv_aload_n hx hb dX10_init_113 rfl (lv_at hl 0 rfl) ?_
  obtain ⟨hc_184, hf⟩ := aw_chk_some hf
  refine aw_newO (ci := 4) (C := RX4) (T := TX4) (N := 8) X G E_183 (by decide) tyX4 tyX4_ok rfl inaX4 m_219 m_220 m_9 dzX4 (Nat.le_of_ble_eq_true rfl) (Nat.le_of_ble_eq_true rfl) hf dX10_init_114 (fun q_185 σ_186 d_187 ad_188 H hf hext_190 E_189 G => ?_)
  have ha_191 := (hext_190 _ hc_184).symm
  rw [ha_191]
  rw [ha_191] at hl
  refine lv_dup hx hb dX10_init_117 rfl ?_
  obtain ⟨hc_192, hf⟩ := aw_chk_some hf
  obtain ⟨hc_193, hf⟩ := aw_chk_some hf
  obtain ⟨z_194, hz_195, hf⟩ := aw_bind_some hf
  refine aw_INN (As := []) (rest := [.ref (ad_188 q_185), .ref (ad_188 x0)]) X G E_189 hl.1 cr_X10_77 (c_X4_init l hz_195) rfl rfl rfl ⟨Nat.le_of_ble_eq_true rfl, Nat.le_of_ble_eq_true rfl⟩ (Nat.le_of_ble_eq_true rfl) dX10_init_118 ⟨Nat.le_of_ble_eq_true rfl, Nat.le_of_ble_eq_true rfl⟩ (fun ad_196 H locs hext_198 E_197 G => ?_)
  have ha_199 := (hext_198 _ hc_192).symm
  rw [ha_199]
  have ha_200 := (hext_198 _ hc_193).symm
  rw [ha_200]
  rw [ha_200] at hl
  obtain ⟨hc_201, hf⟩ := aw_chk_some hf
  refine pr_X10_78 hx hb G hown hnm E_197 hc_201 hf dX10_init_121 (fun σ_202 H locs hf E_203 G => ?_)
  refine lv_aload_n hx hb dX10_init_124 rfl (lv_at hl 0 rfl) ?_
  obtain ⟨hc_204, hf⟩ := aw_chk_some hf
  refine aw_newO (ci := 3) (C := RX3) (T := TX3) (N := 1) X G E_203 (by decide) tyX3 tyX3_ok rfl inaX3 m_253 m_254 m_10 dzX3 (Nat.le_of_ble_eq_true rfl) (Nat.le_of_ble_eq_true rfl) hf dX10_init_125 (fun q_205 σ_206 d_207 ad_208 H hf hext_210 E_209 G => ?_)
  have ha_211 := (hext_210 _ hc_204).symm
  rw [ha_211]
  rw [ha_211] at hl
  refine lv_dup hx hb dX10_init_128 rfl ?_
  obtain ⟨hc_212, hf⟩ := aw_chk_some hf
  obtain ⟨hc_213, hf⟩ := aw_chk_some hf
  obtain ⟨z_214, hz_215, hf⟩ := aw_bind_some hf
  refine aw_INN (As := []) (rest := [.ref (ad_208 q_205), .ref (ad_208 x0)]) X G E_209 hl.1 cr_X10_84 (c_X3_init l hz_215) rfl rfl rfl ⟨Nat.le_of_ble_eq_true rfl, Nat.le_of_ble_eq_true rfl⟩ (Nat.le_of_ble_eq_true rfl) dX10_init_129 ⟨Nat.le_of_ble_eq_true rfl, Nat.le_of_ble_eq_true rfl⟩ (fun ad_216 H locs hext_218 E_217 G => ?_)
  have ha_219 := (hext_218 _ hc_212).symm
  rw [ha_219]
  have ha_220 := (hext_218 _ hc_213).symm
  rw [ha_220]
  rw [ha_220] at hl
  obtain ⟨hc_221, hf⟩ := aw_chk_some hf
  refine pr_X10_85 hx hb G hown hnm E_217 hc_221 hf dX10_init_132 (fun σ_222 H locs hf E_223 G => ?_)
  refine lv_iconst (v := (0 : Int32)) hx hb dX10_init_135 (by decide) ?_
  refine lv_istore_n (lv' := [(1, .int ((0 : Int32))), (0, .ref (ad_216 x0))]) hx hb dX10_init_136 rfl hl (by decide) rfl (fun ls hl => ?_)
  refine lv_iload_n hx hb dX10_init_137 rfl (lv_at hl 0 rfl) ?_
  refine lv_iconst (v := (3 : Int32)) hx hb dX10_init_138 (by decide) ?_
  refine lv_icmp_ge (tgt := 161) hx hb dX10_init_139 (by decide) (fun hc => ?_) (fun hc => ?_)
  · have hf := aw_ite_t hc hf
    exact aw_retn X G E_223 hf dX10_init_161 (Nat.le_of_ble_eq_true rfl) (Nat.le_of_ble_eq_true rfl)
  · have hf := aw_ite_f hc hf
    refine lv_aload_n hx hb dX10_init_142 rfl (lv_at hl 1 rfl) ?_
    obtain ⟨hc_224, hf⟩ := aw_chk_some hf
    obtain ⟨q_225, hq_226, hf⟩ := aw_bind_some hf
    refine gf_X10_23 hx hb G hown hc_224 hq_226 dX10_init_143 ?_
    refine lv_iload_n hx hb dX10_init_146 rfl (lv_at hl 0 rfl) ?_
    obtain ⟨hc_227, hf⟩ := aw_chk_some hf
    obtain ⟨hc_228, hf⟩ := aw_chk_some hf
    refine aw_newO (ci := 2) (C := RX2) (T := TX2) (N := 8) X G E_223 (by decide) tyX2 tyX2_ok rfl inaX2 m_53 m_54 m_3 dzX2 (Nat.le_of_ble_eq_true rfl) (Nat.le_of_ble_eq_true rfl) hf dX10_init_147 (fun q_229 σ_230 d_231 ad_232 H hf hext_234 E_233 G => ?_)
    have ha_235 := (hext_234 _ hc_227).symm
    rw [ha_235]
    have ha_236 := (hext_234 _ hc_228).symm
    rw [ha_236] at hl
    refine lv_dup hx hb dX10_init_150 rfl ?_
    obtain ⟨hc_237, hf⟩ := aw_chk_some hf
    obtain ⟨hc_238, hf⟩ := aw_chk_some hf
    obtain ⟨hc_239, hf⟩ := aw_chk_some hf
    obtain ⟨z_240, hz_241, hf⟩ := aw_bind_some hf
    refine aw_INN (As := []) (rest := [.ref (ad_232 q_229), .int ((0 : Int32)), .ref (ad_232 q_225)]) X G E_233 hl.1 cr_X10_18 (c_X2_init l hz_241) rfl rfl rfl ⟨Nat.le_of_ble_eq_true rfl, Nat.le_of_ble_eq_true rfl⟩ (Nat.le_of_ble_eq_true rfl) dX10_init_151 ⟨Nat.le_of_ble_eq_true rfl, Nat.le_of_ble_eq_true rfl⟩ (fun ad_242 H locs hext_244 E_243 G => ?_)
    have ha_245 := (hext_244 _ hc_237).symm
    rw [ha_245]
    have ha_246 := (hext_244 _ hc_238).symm
    rw [ha_246]
    have ha_247 := (hext_244 _ hc_239).symm
    rw [ha_247] at hl
    obtain ⟨hc_248, hf⟩ := aw_chk_some hf
    refine aw_qas X G E_243 25 2 8 (RX2, TX2, 8) (by decide) rfl (by decide) rfl hc_248.1 hc_248.2 hf dX10_init_154 (fun σ_249 H locs hf E_250 G => ?_)
    refine lv_iinc (v := ((0 : Int32)) + 1) (lv' := [(1, .int (((0 : Int32)) + 1)), (0, .ref (ad_242 x0))]) hx hb dX10_init_155 hl (k := 0) rfl rfl (by decide) rfl (fun ls hl => ?_)
    refine lv_goto (tgt := 137) hx hb dX10_init_158 (by decide) ?_
    refine lv_iload_n hx hb dX10_init_137 rfl (lv_at hl 0 rfl) ?_
    refine lv_iconst (v := (3 : Int32)) hx hb dX10_init_138 (by decide) ?_
    refine lv_icmp_ge (tgt := 161) hx hb dX10_init_139 (by decide) (fun hc => ?_) (fun hc => ?_)
    · have hf := aw_ite_t hc hf
      exact aw_retn X G E_250 hf dX10_init_161 (Nat.le_of_ble_eq_true rfl) (Nat.le_of_ble_eq_true rfl)
    · have hf := aw_ite_f hc hf
      refine lv_aload_n hx hb dX10_init_142 rfl (lv_at hl 1 rfl) ?_
      obtain ⟨hc_251, hf⟩ := aw_chk_some hf
      obtain ⟨q_252, hq_253, hf⟩ := aw_bind_some hf
      refine gf_X10_23 hx hb G hown hc_251 hq_253 dX10_init_143 ?_
      refine lv_iload_n hx hb dX10_init_146 rfl (lv_at hl 0 rfl) ?_
      obtain ⟨hc_254, hf⟩ := aw_chk_some hf
      obtain ⟨hc_255, hf⟩ := aw_chk_some hf
      refine aw_newO (ci := 2) (C := RX2) (T := TX2) (N := 8) X G E_250 (by decide) tyX2 tyX2_ok rfl inaX2 m_53 m_54 m_3 dzX2 (Nat.le_of_ble_eq_true rfl) (Nat.le_of_ble_eq_true rfl) hf dX10_init_147 (fun q_256 σ_257 d_258 ad_259 H hf hext_261 E_260 G => ?_)
      have ha_262 := (hext_261 _ hc_254).symm
      rw [ha_262]
      have ha_263 := (hext_261 _ hc_255).symm
      rw [ha_263] at hl
      refine lv_dup hx hb dX10_init_150 rfl ?_
      obtain ⟨hc_264, hf⟩ := aw_chk_some hf
      obtain ⟨hc_265, hf⟩ := aw_chk_some hf
      obtain ⟨hc_266, hf⟩ := aw_chk_some hf
      obtain ⟨z_267, hz_268, hf⟩ := aw_bind_some hf
      refine aw_INN (As := []) (rest := [.ref (ad_259 q_256), .int (((0 : Int32)) + 1), .ref (ad_259 q_252)]) X G E_260 hl.1 cr_X10_18 (c_X2_init l hz_268) rfl rfl rfl ⟨Nat.le_of_ble_eq_true rfl, Nat.le_of_ble_eq_true rfl⟩ (Nat.le_of_ble_eq_true rfl) dX10_init_151 ⟨Nat.le_of_ble_eq_true rfl, Nat.le_of_ble_eq_true rfl⟩ (fun ad_269 H locs hext_271 E_270 G => ?_)
      have ha_272 := (hext_271 _ hc_264).symm
      rw [ha_272]
      have ha_273 := (hext_271 _ hc_265).symm
      rw [ha_273]
      have ha_274 := (hext_271 _ hc_266).symm
      rw [ha_274] at hl
      obtain ⟨hc_275, hf⟩ := aw_chk_some hf
      refine aw_qas X G E_270 25 2 8 (RX2, TX2, 8) (by decide) rfl (by decide) rfl hc_275.1 hc_275.2 hf dX10_init_154 (fun σ_276 H locs hf E_277 G => ?_)
      refine lv_iinc (v := (((0 : Int32)) + 1) + 1) (lv' := [(1, .int ((((0 : Int32)) + 1) + 1)), (0, .ref (ad_269 x0))]) hx hb dX10_init_155 hl (k := 0) rfl rfl (by decide) rfl (fun ls hl => ?_)
      refine lv_goto (tgt := 137) hx hb dX10_init_158 (by decide) ?_
      refine lv_iload_n hx hb dX10_init_137 rfl (lv_at hl 0 rfl) ?_
      refine lv_iconst (v := (3 : Int32)) hx hb dX10_init_138 (by decide) ?_
      refine lv_icmp_ge (tgt := 161) hx hb dX10_init_139 (by decide) (fun hc => ?_) (fun hc => ?_)
      · have hf := aw_ite_t hc hf
        exact aw_retn X G E_277 hf dX10_init_161 (Nat.le_of_ble_eq_true rfl) (Nat.le_of_ble_eq_true rfl)
      · have hf := aw_ite_f hc hf
        refine lv_aload_n hx hb dX10_init_142 rfl (lv_at hl 1 rfl) ?_
        obtain ⟨hc_278, hf⟩ := aw_chk_some hf
        obtain ⟨q_279, hq_280, hf⟩ := aw_bind_some hf
        refine gf_X10_23 hx hb G hown hc_278 hq_280 dX10_init_143 ?_
        refine lv_iload_n hx hb dX10_init_146 rfl (lv_at hl 0 rfl) ?_
        obtain ⟨hc_281, hf⟩ := aw_chk_some hf
        obtain ⟨hc_282, hf⟩ := aw_chk_some hf
        refine aw_newO (ci := 2) (C := RX2) (T := TX2) (N := 8) X G E_277 (by decide) tyX2 tyX2_ok rfl inaX2 m_53 m_54 m_3 dzX2 (Nat.le_of_ble_eq_true rfl) (Nat.le_of_ble_eq_true rfl) hf dX10_init_147 (fun q_283 σ_284 d_285 ad_286 H hf hext_288 E_287 G => ?_)
        have ha_289 := (hext_288 _ hc_281).symm
        rw [ha_289]
        have ha_290 := (hext_288 _ hc_282).symm
        rw [ha_290] at hl
        refine lv_dup hx hb dX10_init_150 rfl ?_
        obtain ⟨hc_291, hf⟩ := aw_chk_some hf
        obtain ⟨hc_292, hf⟩ := aw_chk_some hf
        obtain ⟨hc_293, hf⟩ := aw_chk_some hf
        obtain ⟨z_294, hz_295, hf⟩ := aw_bind_some hf
        refine aw_INN (As := []) (rest := [.ref (ad_286 q_283), .int ((((0 : Int32)) + 1) + 1), .ref (ad_286 q_279)]) X G E_287 hl.1 cr_X10_18 (c_X2_init l hz_295) rfl rfl rfl ⟨Nat.le_of_ble_eq_true rfl, Nat.le_of_ble_eq_true rfl⟩ (Nat.le_of_ble_eq_true rfl) dX10_init_151 ⟨Nat.le_of_ble_eq_true rfl, Nat.le_of_ble_eq_true rfl⟩ (fun ad_296 H locs hext_298 E_297 G => ?_)
        have ha_299 := (hext_298 _ hc_291).symm
        rw [ha_299]
        have ha_300 := (hext_298 _ hc_292).symm
        rw [ha_300]
        have ha_301 := (hext_298 _ hc_293).symm
        rw [ha_301] at hl
        obtain ⟨hc_302, hf⟩ := aw_chk_some hf
        refine aw_qas X G E_297 25 2 8 (RX2, TX2, 8) (by decide) rfl (by decide) rfl hc_302.1 hc_302.2 hf dX10_init_154 (fun σ_303 H locs hf E_304 G => ?_)
        refine lv_iinc (v := ((((0 : Int32)) + 1) + 1) + 1) (lv' := [(1, .int (((((0 : Int32)) + 1) + 1) + 1)), (0, .ref (ad_296 x0))]) hx hb dX10_init_155 hl (k := 0) rfl rfl (by decide) rfl (fun ls hl => ?_)
        refine lv_goto (tgt := 137) hx hb dX10_init_158 (by decide) ?_
        refine lv_iload_n hx hb dX10_init_137 rfl (lv_at hl 0 rfl) ?_
        refine lv_iconst (v := (3 : Int32)) hx hb dX10_init_138 (by decide) ?_
        refine lv_icmp_ge (tgt := 161) hx hb dX10_init_139 (by decide) (fun hc => ?_) (fun hc => ?_)
        · have hf := aw_ite_t hc hf
          exact aw_retn X G E_304 hf dX10_init_161 (Nat.le_of_ble_eq_true rfl) (Nat.le_of_ble_eq_true rfl)
        · have hf := aw_ite_f hc hf
          cases hf
