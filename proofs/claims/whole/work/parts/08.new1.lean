/-! X10_init X11_init -/
def rm_X10_init : Room := { frames := 3, cells := 264, slots := 5693, locals := 65 }
def f_X10_init (x0 : Nat) (σ : Sg) (d : Dt) : Option (Sg × Dt) :=
  aw_chk (x0 < σ.1) (aw_new σ d 9 4 (fun q_2 σ_3 d_4 => aw_chk (q_2 < σ_3.1) (aw_chk (x0 < σ_3.1) ((f_X9_init q_2 σ_3 d_4).bind (fun z_11 => aw_chk (aw_O z_11.1 10 13 x0 ∧ q_2 < z_11.1.1) (aw_let (aw_sR z_11.1 x0 0 q_2) (fun σ_19 => aw_chk (x0 < σ_19.1) (aw_new σ_19 z_11.2 2 8 (fun q_22 σ_23 d_24 => aw_chk (q_22 < σ_23.1) (aw_chk (x0 < σ_23.1) ((f_X2_init q_22 σ_23 d_24).bind (fun z_31 => aw_chk (aw_O z_31.1 10 13 x0 ∧ q_22 < z_31.1.1) (aw_let (aw_sR z_31.1 x0 1 q_22) (fun σ_39 => aw_chk (x0 < σ_39.1) (aw_new σ_39 z_31.2 25 3 (fun q_42 σ_43 d_44 => aw_chk (aw_O σ_43 10 13 x0 ∧ q_42 < σ_43.1) (aw_let (aw_sR σ_43 x0 2 q_42) (fun σ_50 => aw_chk (x0 < σ_50.1) (aw_new σ_50 d_44 26 5 (fun q_53 σ_54 d_55 => aw_chk (aw_O σ_54 10 13 x0 ∧ q_53 < σ_54.1) (aw_let (aw_sR σ_54 x0 3 q_53) (fun σ_61 => aw_chk (aw_O σ_61 10 13 x0) (aw_chk (x0 < σ_61.1) (aw_new σ_61 (aw_sI d_55 x0 4 ((0 : Int32))) 6 4 (fun q_65 σ_66 d_67 => aw_chk (q_65 < σ_66.1) (aw_chk (x0 < σ_66.1) ((f_X6_init q_65 σ_66 d_67).bind (fun z_74 => aw_chk (aw_O z_74.1 10 13 x0 ∧ q_65 < z_74.1.1) (aw_let (aw_sR z_74.1 x0 5 q_65) (fun σ_82 => aw_chk (x0 < σ_82.1) (aw_new σ_82 z_74.2 0 7 (fun q_85 σ_86 d_87 => aw_chk (q_85 < σ_86.1) (aw_chk (x0 < σ_86.1) ((f_X0_init q_85 σ_86 d_87).bind (fun z_94 => aw_chk (aw_O z_94.1 10 13 x0 ∧ q_85 < z_94.1.1) (aw_let (aw_sR z_94.1 x0 6 q_85) (fun σ_102 => aw_chk (x0 < σ_102.1) (aw_new σ_102 z_94.2 7 3 (fun q_105 σ_106 d_107 => aw_chk (q_105 < σ_106.1) (aw_chk (x0 < σ_106.1) ((f_X7_init q_105 σ_106 d_107).bind (fun z_114 => aw_chk (aw_O z_114.1 10 13 x0 ∧ q_105 < z_114.1.1) (aw_let (aw_sR z_114.1 x0 7 q_105) (fun σ_122 => aw_chk (x0 < σ_122.1) (aw_new σ_122 z_114.2 7 3 (fun q_125 σ_126 d_127 => aw_chk (q_125 < σ_126.1) (aw_chk (x0 < σ_126.1) ((f_X7_init q_125 σ_126 d_127).bind (fun z_134 => aw_chk (aw_O z_134.1 10 13 x0 ∧ q_125 < z_134.1.1) (aw_let (aw_sR z_134.1 x0 8 q_125) (fun σ_142 => aw_chk (x0 < σ_142.1) (aw_new σ_142 z_134.2 8 1 (fun q_145 σ_146 d_147 => aw_chk (q_145 < σ_146.1) (aw_chk (x0 < σ_146.1) ((f_X8_init q_145 σ_146 d_147).bind (fun z_154 => aw_chk (aw_O z_154.1 10 13 x0 ∧ q_145 < z_154.1.1) (aw_let (aw_sR z_154.1 x0 9 q_145) (fun σ_162 => aw_chk (x0 < σ_162.1) (aw_new σ_162 z_154.2 5 6 (fun q_165 σ_166 d_167 => aw_chk (q_165 < σ_166.1) (aw_chk (x0 < σ_166.1) ((f_X5_init q_165 σ_166 d_167).bind (fun z_174 => aw_chk (aw_O z_174.1 10 13 x0 ∧ q_165 < z_174.1.1) (aw_let (aw_sR z_174.1 x0 10 q_165) (fun σ_182 => aw_chk (x0 < σ_182.1) (aw_new σ_182 z_174.2 4 8 (fun q_185 σ_186 d_187 => aw_chk (q_185 < σ_186.1) (aw_chk (x0 < σ_186.1) ((f_X4_init q_185 σ_186 d_187).bind (fun z_194 => aw_chk (aw_O z_194.1 10 13 x0 ∧ q_185 < z_194.1.1) (aw_let (aw_sR z_194.1 x0 11 q_185) (fun σ_202 => aw_chk (x0 < σ_202.1) (aw_new σ_202 z_194.2 3 1 (fun q_205 σ_206 d_207 => aw_chk (q_205 < σ_206.1) (aw_chk (x0 < σ_206.1) ((f_X3_init q_205 σ_206 d_207).bind (fun z_214 => aw_chk (aw_O z_214.1 10 13 x0 ∧ q_205 < z_214.1.1) (aw_let (aw_sR z_214.1 x0 12 q_205) (fun σ_222 => if ((3 : Int32)) ≤ ((0 : Int32)) then some (σ_222, z_214.2) else aw_chk (aw_O σ_222 10 13 x0) ((σ_222.2.2 x0 2).bind (fun q_225 => aw_chk (q_225 < σ_222.1) (aw_chk (x0 < σ_222.1) (aw_new σ_222 z_214.2 2 8 (fun q_229 σ_230 d_231 => aw_chk (q_229 < σ_230.1) (aw_chk (q_225 < σ_230.1) (aw_chk (x0 < σ_230.1) ((f_X2_init q_229 σ_230 d_231).bind (fun z_240 => aw_chk (aw_I z_240.1 25 q_225 ((0 : Int32)) ∧ aw_O z_240.1 2 8 q_229) (aw_let (aw_sR z_240.1 q_225 ((0 : Int32)).toNatClampNeg q_229) (fun σ_249 => if ((3 : Int32)) ≤ (((0 : Int32)) + 1) then some (σ_249, z_240.2) else aw_chk (aw_O σ_249 10 13 x0) ((σ_249.2.2 x0 2).bind (fun q_252 => aw_chk (q_252 < σ_249.1) (aw_chk (x0 < σ_249.1) (aw_new σ_249 z_240.2 2 8 (fun q_256 σ_257 d_258 => aw_chk (q_256 < σ_257.1) (aw_chk (q_252 < σ_257.1) (aw_chk (x0 < σ_257.1) ((f_X2_init q_256 σ_257 d_258).bind (fun z_267 => aw_chk (aw_I z_267.1 25 q_252 (((0 : Int32)) + 1) ∧ aw_O z_267.1 2 8 q_256) (aw_let (aw_sR z_267.1 q_252 (((0 : Int32)) + 1).toNatClampNeg q_256) (fun σ_276 => if ((3 : Int32)) ≤ ((((0 : Int32)) + 1) + 1) then some (σ_276, z_267.2) else aw_chk (aw_O σ_276 10 13 x0) ((σ_276.2.2 x0 2).bind (fun q_279 => aw_chk (q_279 < σ_276.1) (aw_chk (x0 < σ_276.1) (aw_new σ_276 z_267.2 2 8 (fun q_283 σ_284 d_285 => aw_chk (q_283 < σ_284.1) (aw_chk (q_279 < σ_284.1) (aw_chk (x0 < σ_284.1) ((f_X2_init q_283 σ_284 d_285).bind (fun z_294 => aw_chk (aw_I z_294.1 25 q_279 ((((0 : Int32)) + 1) + 1) ∧ aw_O z_294.1 2 8 q_283) (aw_let (aw_sR z_294.1 q_279 ((((0 : Int32)) + 1) + 1).toNatClampNeg q_283) (fun σ_303 => if ((3 : Int32)) ≤ (((((0 : Int32)) + 1) + 1) + 1) then some (σ_303, z_294.2) else none))))))))))))))))))))))))))))))))))))))))))))))))))))))))))))))))))))))))))))))))))))))))))))))))))))))))))))))))
section W_X10_init
variable {p : Program} {l : Launch} {e : Env} {s : State} {m : MethodId} {args : Array Value} {below : List Frame} {meth : Method} {c : Code}
variable {D : va_G} {cA : Nat → ClassId} {base : Nat} {ad0 : Nat → Nat} {σ0 : Sg}
end W_X10_init
set_option maxHeartbeats 4000000 in
set_option maxRecDepth 100000 in
theorem c_X10_init (l : Launch) {σ : Sg} {x0 : Nat} {d : Dt} {z : Sg × Dt} (hf : f_X10_init x0 σ d = some z) : aw_Nv l yX10_init (Cond.code yX10_init cX10_init 2 (none)) rm_X10_init (fun ad => [.ref (ad x0)]) σ d z := by
  intro hwf D cA base ad
  refine aw_ofW (own := RX10) (cc := cX10_init) (nL := 2) (ret := none) (by decide) rfl rfl ?_
  intro p e s m below meth c X hnm G
  have hx := X.1; have hb := X.2.1; have hml := X.2.2.1; have hown := X.2.2.2.1
  have E : aw_ext σ ad σ ad := aw_ext.rf hwf
  refine aw_ls (lv := [(0, .ref (ad x0))]) (Nat.le_of_ble_eq_true rfl) rfl (fun ls hl => ?_)
  generalize ([.ref (ad x0)] : List Value).toArray = args0
  unfold f_X10_init at hf
  refine lv_aload_n hx hb dX10_init_0 rfl (lv_at hl 0 rfl) ?_
  refine aw_objI X G hl.1 m_27 m_28 m_29 ⟨Nat.le_of_ble_eq_true rfl, Nat.le_of_ble_eq_true rfl⟩ dX10_init_1 ?_
  refine lv_aload_n hx hb dX10_init_4 rfl (lv_at hl 0 rfl) ?_
  obtain ⟨hc_1, hf⟩ := aw_chk_some hf
  refine aw_newO (ci := 9) (C := RX9) (T := TX9) (N := 4) X G E (by decide) tyX9 tyX9_ok rfl inaX9 m_30 m_31 m_2 dzX9 (Nat.le_of_ble_eq_true rfl) (Nat.le_of_ble_eq_true rfl) hf dX10_init_5 (fun q_2 σ_3 d_4 ad_5 H hf hext_7 E_6 G => ?_)
  have ha_8 := (hext_7 _ hc_1).symm
  rw [ha_8]
  rw [ha_8] at hl
  refine lv_dup hx hb dX10_init_8 rfl ?_
  obtain ⟨hc_9, hf⟩ := aw_chk_some hf
  obtain ⟨hc_10, hf⟩ := aw_chk_some hf
  obtain ⟨z_11, hz_12, hf⟩ := aw_bind_some hf
  refine aw_INN (As := []) (rest := [.ref (ad_5 q_2), .ref (ad_5 x0)]) X G E_6 hl.1 cr_X10_11 (c_X9_init l hz_12) rfl rfl rfl ⟨Nat.le_of_ble_eq_true rfl, Nat.le_of_ble_eq_true rfl⟩ (Nat.le_of_ble_eq_true rfl) dX10_init_9 ⟨Nat.le_of_ble_eq_true rfl, Nat.le_of_ble_eq_true rfl⟩ (fun ad_13 H locs hext_15 E_14 G => ?_)
  have ha_16 := (hext_15 _ hc_9).symm
  rw [ha_16]
  have ha_17 := (hext_15 _ hc_10).symm
  rw [ha_17]
  rw [ha_17] at hl
  obtain ⟨hc_18, hf⟩ := aw_chk_some hf
  refine pr_X10_12 hx hb G hown hnm E_14 hc_18 hf dX10_init_12 (fun σ_19 H locs hf E_20 G => ?_)
  refine lv_aload_n hx hb dX10_init_15 rfl (lv_at hl 0 rfl) ?_
  obtain ⟨hc_21, hf⟩ := aw_chk_some hf
  refine aw_newO (ci := 2) (C := RX2) (T := TX2) (N := 8) X G E_20 (by decide) tyX2 tyX2_ok rfl inaX2 m_54 m_55 m_3 dzX2 (Nat.le_of_ble_eq_true rfl) (Nat.le_of_ble_eq_true rfl) hf dX10_init_16 (fun q_22 σ_23 d_24 ad_25 H hf hext_27 E_26 G => ?_)
  have ha_28 := (hext_27 _ hc_21).symm
  rw [ha_28]
  rw [ha_28] at hl
  refine lv_dup hx hb dX10_init_19 rfl ?_
  obtain ⟨hc_29, hf⟩ := aw_chk_some hf
  obtain ⟨hc_30, hf⟩ := aw_chk_some hf
  obtain ⟨z_31, hz_32, hf⟩ := aw_bind_some hf
  refine aw_INN (As := []) (rest := [.ref (ad_25 q_22), .ref (ad_25 x0)]) X G E_26 hl.1 cr_X10_18 (c_X2_init l hz_32) rfl rfl rfl ⟨Nat.le_of_ble_eq_true rfl, Nat.le_of_ble_eq_true rfl⟩ (Nat.le_of_ble_eq_true rfl) dX10_init_20 ⟨Nat.le_of_ble_eq_true rfl, Nat.le_of_ble_eq_true rfl⟩ (fun ad_33 H locs hext_35 E_34 G => ?_)
  have ha_36 := (hext_35 _ hc_29).symm
  rw [ha_36]
  have ha_37 := (hext_35 _ hc_30).symm
  rw [ha_37]
  rw [ha_37] at hl
  obtain ⟨hc_38, hf⟩ := aw_chk_some hf
  refine pr_X10_19 hx hb G hown hnm E_34 hc_38 hf dX10_init_23 (fun σ_39 H locs hf E_40 G => ?_)
  refine lv_aload_n hx hb dX10_init_26 rfl (lv_at hl 0 rfl) ?_
  refine lv_iconst (v := (3 : Int32)) hx hb dX10_init_27 (by decide) ?_
  obtain ⟨hc_41, hf⟩ := aw_chk_some hf
  refine aw_newQ (C := RX2) (t := 25) (N := 3) X G E_40 m_54 G.1.2.2.2.2.1.1 (by decide) rfl (by decide) (by decide) (Nat.le_of_ble_eq_true rfl) (Nat.le_of_ble_eq_true rfl) (Nat.le_of_ble_eq_true rfl) hf dX10_init_28 (fun q_42 σ_43 d_44 ad_45 H hf hext_47 E_46 G => ?_)
  have ha_48 := (hext_47 _ hc_41).symm
  rw [ha_48]
  rw [ha_48] at hl
  obtain ⟨hc_49, hf⟩ := aw_chk_some hf
  refine pr_X10_23 hx hb G hown hnm E_46 hc_49 hf dX10_init_31 (fun σ_50 H locs hf E_51 G => ?_)
  refine lv_aload_n hx hb dX10_init_34 rfl (lv_at hl 0 rfl) ?_
  refine lv_iconst (v := (5 : Int32)) hx hb dX10_init_35 (by decide) ?_
  obtain ⟨hc_52, hf⟩ := aw_chk_some hf
  refine aw_newQ (C := RX1) (t := 26) (N := 5) X G E_51 m_95 G.1.2.2.2.2.1.2.1 (by decide) rfl (by decide) (by decide) (Nat.le_of_ble_eq_true rfl) (Nat.le_of_ble_eq_true rfl) (Nat.le_of_ble_eq_true rfl) hf dX10_init_36 (fun q_53 σ_54 d_55 ad_56 H hf hext_58 E_57 G => ?_)
  have ha_59 := (hext_58 _ hc_52).symm
  rw [ha_59]
  rw [ha_59] at hl
  obtain ⟨hc_60, hf⟩ := aw_chk_some hf
  refine pr_X10_29 hx hb G hown hnm E_57 hc_60 hf dX10_init_39 (fun σ_61 H locs hf E_62 G => ?_)
  refine lv_aload_n hx hb dX10_init_42 rfl (lv_at hl 0 rfl) ?_
  refine lv_iconst (v := (0 : Int32)) hx hb dX10_init_43 (by decide) ?_
  obtain ⟨hc_63, hf⟩ := aw_chk_some hf
  refine pf_X10_33 hx hb G hown hc_63 dX10_init_44 (fun H locs G => ?_)
  refine lv_aload_n hx hb dX10_init_47 rfl (lv_at hl 0 rfl) ?_
  obtain ⟨hc_64, hf⟩ := aw_chk_some hf
  refine aw_newO (ci := 6) (C := RX6) (T := TX6) (N := 4) X G E_62 (by decide) tyX6 tyX6_ok rfl inaX6 m_97 m_98 m_4 dzX6 (Nat.le_of_ble_eq_true rfl) (Nat.le_of_ble_eq_true rfl) hf dX10_init_48 (fun q_65 σ_66 d_67 ad_68 H hf hext_70 E_69 G => ?_)
  have ha_71 := (hext_70 _ hc_64).symm
  rw [ha_71]
  rw [ha_71] at hl
  refine lv_dup hx hb dX10_init_51 rfl ?_
  obtain ⟨hc_72, hf⟩ := aw_chk_some hf
  obtain ⟨hc_73, hf⟩ := aw_chk_some hf
  obtain ⟨z_74, hz_75, hf⟩ := aw_bind_some hf
  refine aw_IN (As := []) (rest := [.ref (ad_68 q_65), .ref (ad_68 x0)]) X G E_69 hl.1 cr_X10_39 (c_X6_init l hz_75) rfl rfl rfl ⟨Nat.le_of_ble_eq_true rfl, Nat.le_of_ble_eq_true rfl⟩ (Nat.le_of_ble_eq_true rfl) dX10_init_52 ⟨Nat.le_of_ble_eq_true rfl, Nat.le_of_ble_eq_true rfl⟩ (fun ad_76 H locs hext_78 E_77 G => ?_)
  have ha_79 := (hext_78 _ hc_72).symm
  rw [ha_79]
  have ha_80 := (hext_78 _ hc_73).symm
  rw [ha_80]
  rw [ha_80] at hl
  obtain ⟨hc_81, hf⟩ := aw_chk_some hf
  refine pr_X10_40 hx hb G hown hnm E_77 hc_81 hf dX10_init_55 (fun σ_82 H locs hf E_83 G => ?_)
  refine lv_aload_n hx hb dX10_init_58 rfl (lv_at hl 0 rfl) ?_
  obtain ⟨hc_84, hf⟩ := aw_chk_some hf
  refine aw_newO (ci := 0) (C := RX0) (T := TX0) (N := 7) X G E_83 (by decide) tyX0 tyX0_ok rfl inaX0 m_135 m_136 m_6 dzX0 (Nat.le_of_ble_eq_true rfl) (Nat.le_of_ble_eq_true rfl) hf dX10_init_59 (fun q_85 σ_86 d_87 ad_88 H hf hext_90 E_89 G => ?_)
  have ha_91 := (hext_90 _ hc_84).symm
  rw [ha_91]
  rw [ha_91] at hl
  refine lv_dup hx hb dX10_init_62 rfl ?_
  obtain ⟨hc_92, hf⟩ := aw_chk_some hf
  obtain ⟨hc_93, hf⟩ := aw_chk_some hf
  obtain ⟨z_94, hz_95, hf⟩ := aw_bind_some hf
  refine aw_INN (As := []) (rest := [.ref (ad_88 q_85), .ref (ad_88 x0)]) X G E_89 hl.1 cr_X10_46 (c_X0_init l hz_95) rfl rfl rfl ⟨Nat.le_of_ble_eq_true rfl, Nat.le_of_ble_eq_true rfl⟩ (Nat.le_of_ble_eq_true rfl) dX10_init_63 ⟨Nat.le_of_ble_eq_true rfl, Nat.le_of_ble_eq_true rfl⟩ (fun ad_96 H locs hext_98 E_97 G => ?_)
  have ha_99 := (hext_98 _ hc_92).symm
  rw [ha_99]
  have ha_100 := (hext_98 _ hc_93).symm
  rw [ha_100]
  rw [ha_100] at hl
  obtain ⟨hc_101, hf⟩ := aw_chk_some hf
  refine pr_X10_47 hx hb G hown hnm E_97 hc_101 hf dX10_init_66 (fun σ_102 H locs hf E_103 G => ?_)
  refine lv_aload_n hx hb dX10_init_69 rfl (lv_at hl 0 rfl) ?_
  obtain ⟨hc_104, hf⟩ := aw_chk_some hf
  refine aw_newO (ci := 7) (C := RX7) (T := TX7) (N := 3) X G E_103 (by decide) tyX7 tyX7_ok rfl inaX7 m_169 m_170 m_7 dzX7 (Nat.le_of_ble_eq_true rfl) (Nat.le_of_ble_eq_true rfl) hf dX10_init_70 (fun q_105 σ_106 d_107 ad_108 H hf hext_110 E_109 G => ?_)
  have ha_111 := (hext_110 _ hc_104).symm
  rw [ha_111]
  rw [ha_111] at hl
  refine lv_dup hx hb dX10_init_73 rfl ?_
  obtain ⟨hc_112, hf⟩ := aw_chk_some hf
  obtain ⟨hc_113, hf⟩ := aw_chk_some hf
  obtain ⟨z_114, hz_115, hf⟩ := aw_bind_some hf
  refine aw_INN (As := []) (rest := [.ref (ad_108 q_105), .ref (ad_108 x0)]) X G E_109 hl.1 cr_X10_53 (c_X7_init l hz_115) rfl rfl rfl ⟨Nat.le_of_ble_eq_true rfl, Nat.le_of_ble_eq_true rfl⟩ (Nat.le_of_ble_eq_true rfl) dX10_init_74 ⟨Nat.le_of_ble_eq_true rfl, Nat.le_of_ble_eq_true rfl⟩ (fun ad_116 H locs hext_118 E_117 G => ?_)
  have ha_119 := (hext_118 _ hc_112).symm
  rw [ha_119]
  have ha_120 := (hext_118 _ hc_113).symm
  rw [ha_120]
  rw [ha_120] at hl
  obtain ⟨hc_121, hf⟩ := aw_chk_some hf
  refine pr_X10_54 hx hb G hown hnm E_117 hc_121 hf dX10_init_77 (fun σ_122 H locs hf E_123 G => ?_)
  refine lv_aload_n hx hb dX10_init_80 rfl (lv_at hl 0 rfl) ?_
  obtain ⟨hc_124, hf⟩ := aw_chk_some hf
  refine aw_newO (ci := 7) (C := RX7) (T := TX7) (N := 3) X G E_123 (by decide) tyX7 tyX7_ok rfl inaX7 m_169 m_170 m_7 dzX7 (Nat.le_of_ble_eq_true rfl) (Nat.le_of_ble_eq_true rfl) hf dX10_init_81 (fun q_125 σ_126 d_127 ad_128 H hf hext_130 E_129 G => ?_)
  have ha_131 := (hext_130 _ hc_124).symm
  rw [ha_131]
  rw [ha_131] at hl
  refine lv_dup hx hb dX10_init_84 rfl ?_
  obtain ⟨hc_132, hf⟩ := aw_chk_some hf
  obtain ⟨hc_133, hf⟩ := aw_chk_some hf
  obtain ⟨z_134, hz_135, hf⟩ := aw_bind_some hf
  refine aw_INN (As := []) (rest := [.ref (ad_128 q_125), .ref (ad_128 x0)]) X G E_129 hl.1 cr_X10_53 (c_X7_init l hz_135) rfl rfl rfl ⟨Nat.le_of_ble_eq_true rfl, Nat.le_of_ble_eq_true rfl⟩ (Nat.le_of_ble_eq_true rfl) dX10_init_85 ⟨Nat.le_of_ble_eq_true rfl, Nat.le_of_ble_eq_true rfl⟩ (fun ad_136 H locs hext_138 E_137 G => ?_)
  have ha_139 := (hext_138 _ hc_132).symm
  rw [ha_139]
  have ha_140 := (hext_138 _ hc_133).symm
  rw [ha_140]
  rw [ha_140] at hl
  obtain ⟨hc_141, hf⟩ := aw_chk_some hf
  refine pr_X10_58 hx hb G hown hnm E_137 hc_141 hf dX10_init_88 (fun σ_142 H locs hf E_143 G => ?_)
  refine lv_aload_n hx hb dX10_init_91 rfl (lv_at hl 0 rfl) ?_
  obtain ⟨hc_144, hf⟩ := aw_chk_some hf
  refine aw_newO (ci := 8) (C := RX8) (T := TX8) (N := 1) X G E_143 (by decide) tyX8 tyX8_ok rfl inaX8 m_192 m_104 m_5 dzX8 (Nat.le_of_ble_eq_true rfl) (Nat.le_of_ble_eq_true rfl) hf dX10_init_92 (fun q_145 σ_146 d_147 ad_148 H hf hext_150 E_149 G => ?_)
  have ha_151 := (hext_150 _ hc_144).symm
  rw [ha_151]
  rw [ha_151] at hl
  refine lv_dup hx hb dX10_init_95 rfl ?_
  obtain ⟨hc_152, hf⟩ := aw_chk_some hf
  obtain ⟨hc_153, hf⟩ := aw_chk_some hf
  obtain ⟨z_154, hz_155, hf⟩ := aw_bind_some hf
  refine aw_INN (As := []) (rest := [.ref (ad_148 q_145), .ref (ad_148 x0)]) X G E_149 hl.1 cr_X10_63 (c_X8_init l hz_155) rfl rfl rfl ⟨Nat.le_of_ble_eq_true rfl, Nat.le_of_ble_eq_true rfl⟩ (Nat.le_of_ble_eq_true rfl) dX10_init_96 ⟨Nat.le_of_ble_eq_true rfl, Nat.le_of_ble_eq_true rfl⟩ (fun ad_156 H locs hext_158 E_157 G => ?_)
  have ha_159 := (hext_158 _ hc_152).symm
  rw [ha_159]
  have ha_160 := (hext_158 _ hc_153).symm
  rw [ha_160]
  rw [ha_160] at hl
  obtain ⟨hc_161, hf⟩ := aw_chk_some hf
  refine pr_X10_64 hx hb G hown hnm E_157 hc_161 hf dX10_init_99 (fun σ_162 H locs hf E_163 G => ?_)
  refine lv_aload_n hx hb dX10_init_102 rfl (lv_at hl 0 rfl) ?_
  obtain ⟨hc_164, hf⟩ := aw_chk_some hf
  refine aw_newO (ci := 5) (C := RX5) (T := TX5) (N := 6) X G E_163 (by decide) tyX5 tyX5_ok rfl inaX5 m_194 m_195 m_8 dzX5 (Nat.le_of_ble_eq_true rfl) (Nat.le_of_ble_eq_true rfl) hf dX10_init_103 (fun q_165 σ_166 d_167 ad_168 H hf hext_170 E_169 G => ?_)
  have ha_171 := (hext_170 _ hc_164).symm
  rw [ha_171]
  rw [ha_171] at hl
  refine lv_dup hx hb dX10_init_106 rfl ?_
  obtain ⟨hc_172, hf⟩ := aw_chk_some hf
  obtain ⟨hc_173, hf⟩ := aw_chk_some hf
  obtain ⟨z_174, hz_175, hf⟩ := aw_bind_some hf
  refine aw_INN (As := []) (rest := [.ref (ad_168 q_165), .ref (ad_168 x0)]) X G E_169 hl.1 cr_X10_70 (c_X5_init l hz_175) rfl rfl rfl ⟨Nat.le_of_ble_eq_true rfl, Nat.le_of_ble_eq_true rfl⟩ (Nat.le_of_ble_eq_true rfl) dX10_init_107 ⟨Nat.le_of_ble_eq_true rfl, Nat.le_of_ble_eq_true rfl⟩ (fun ad_176 H locs hext_178 E_177 G => ?_)
  have ha_179 := (hext_178 _ hc_172).symm
  rw [ha_179]
  have ha_180 := (hext_178 _ hc_173).symm
  rw [ha_180]
  rw [ha_180] at hl
  obtain ⟨hc_181, hf⟩ := aw_chk_some hf
  refine pr_X10_71 hx hb G hown hnm E_177 hc_181 hf dX10_init_110 (fun σ_182 H locs hf E_183 G => ?_)
  refine lv_aload_n hx hb dX10_init_113 rfl (lv_at hl 0 rfl) ?_
  obtain ⟨hc_184, hf⟩ := aw_chk_some hf
  refine aw_newO (ci := 4) (C := RX4) (T := TX4) (N := 8) X G E_183 (by decide) tyX4 tyX4_ok rfl inaX4 m_223 m_224 m_9 dzX4 (Nat.le_of_ble_eq_true rfl) (Nat.le_of_ble_eq_true rfl) hf dX10_init_114 (fun q_185 σ_186 d_187 ad_188 H hf hext_190 E_189 G => ?_)
  have ha_191 := (hext_190 _ hc_184).symm
  rw [ha_191]
  rw [ha_191] at hl
  refine lv_dup hx hb dX10_init_117 rfl ?_
  obtain ⟨hc_192, hf⟩ := aw_chk_some hf
  obtain ⟨hc_193, hf⟩ := aw_chk_some hf
  obtain ⟨z_194, hz_195, hf⟩ := aw_bind_some hf
  refine aw_INN (As := []) (rest := [.ref (ad_188 q_185), .ref (ad_188 x0)]) X G E_189 hl.1 cr_X10_77 (c_X4_init l hz_195) rfl rfl rfl ⟨Nat.le_of_ble_eq_true rfl, Nat.le_of_ble_eq_true rfl⟩ (Nat.le_of_ble_eq_true rfl) dX10_init_118 ⟨Nat.le_of_ble_eq_true rfl, Nat.le_of_ble_eq_true rfl⟩ (fun ad_196 H locs hext_198 E_197 G => ?_)
  have ha_199 := (hext_198 _ hc_192).symm
  rw [ha_199]
  have ha_200 := (hext_198 _ hc_193).symm
  rw [ha_200]
  rw [ha_200] at hl
  obtain ⟨hc_201, hf⟩ := aw_chk_some hf
  refine pr_X10_78 hx hb G hown hnm E_197 hc_201 hf dX10_init_121 (fun σ_202 H locs hf E_203 G => ?_)
  refine lv_aload_n hx hb dX10_init_124 rfl (lv_at hl 0 rfl) ?_
  obtain ⟨hc_204, hf⟩ := aw_chk_some hf
  refine aw_newO (ci := 3) (C := RX3) (T := TX3) (N := 1) X G E_203 (by decide) tyX3 tyX3_ok rfl inaX3 m_257 m_258 m_10 dzX3 (Nat.le_of_ble_eq_true rfl) (Nat.le_of_ble_eq_true rfl) hf dX10_init_125 (fun q_205 σ_206 d_207 ad_208 H hf hext_210 E_209 G => ?_)
  have ha_211 := (hext_210 _ hc_204).symm
  rw [ha_211]
  rw [ha_211] at hl
  refine lv_dup hx hb dX10_init_128 rfl ?_
  obtain ⟨hc_212, hf⟩ := aw_chk_some hf
  obtain ⟨hc_213, hf⟩ := aw_chk_some hf
  obtain ⟨z_214, hz_215, hf⟩ := aw_bind_some hf
  refine aw_INN (As := []) (rest := [.ref (ad_208 q_205), .ref (ad_208 x0)]) X G E_209 hl.1 cr_X10_84 (c_X3_init l hz_215) rfl rfl rfl ⟨Nat.le_of_ble_eq_true rfl, Nat.le_of_ble_eq_true rfl⟩ (Nat.le_of_ble_eq_true rfl) dX10_init_129 ⟨Nat.le_of_ble_eq_true rfl, Nat.le_of_ble_eq_true rfl⟩ (fun ad_216 H locs hext_218 E_217 G => ?_)
  have ha_219 := (hext_218 _ hc_212).symm
  rw [ha_219]
  have ha_220 := (hext_218 _ hc_213).symm
  rw [ha_220]
  rw [ha_220] at hl
  obtain ⟨hc_221, hf⟩ := aw_chk_some hf
  refine pr_X10_85 hx hb G hown hnm E_217 hc_221 hf dX10_init_132 (fun σ_222 H locs hf E_223 G => ?_)
  refine lv_iconst (v := (0 : Int32)) hx hb dX10_init_135 (by decide) ?_
  refine lv_istore_n (lv' := [(1, .int ((0 : Int32))), (0, .ref (ad_216 x0))]) hx hb dX10_init_136 rfl hl (by decide) rfl (fun ls hl => ?_)
  refine lv_iload_n hx hb dX10_init_137 rfl (lv_at hl 0 rfl) ?_
  refine lv_iconst (v := (3 : Int32)) hx hb dX10_init_138 (by decide) ?_
  refine lv_icmp_ge (tgt := 161) hx hb dX10_init_139 (by decide) (fun hc => ?_) (fun hc => ?_)
  · have hf := aw_ite_t hc hf
    exact aw_retn X G E_223 hf dX10_init_161 (Nat.le_of_ble_eq_true rfl) (Nat.le_of_ble_eq_true rfl)
  · have hf := aw_ite_f hc hf
    refine lv_aload_n hx hb dX10_init_142 rfl (lv_at hl 1 rfl) ?_
    obtain ⟨hc_224, hf⟩ := aw_chk_some hf
    obtain ⟨q_225, hq_226, hf⟩ := aw_bind_some hf
    refine gf_X10_23 hx hb G hown hc_224 hq_226 dX10_init_143 ?_
    refine lv_iload_n hx hb dX10_init_146 rfl (lv_at hl 0 rfl) ?_
    obtain ⟨hc_227, hf⟩ := aw_chk_some hf
    obtain ⟨hc_228, hf⟩ := aw_chk_some hf
    refine aw_newO (ci := 2) (C := RX2) (T := TX2) (N := 8) X G E_223 (by decide) tyX2 tyX2_ok rfl inaX2 m_54 m_55 m_3 dzX2 (Nat.le_of_ble_eq_true rfl) (Nat.le_of_ble_eq_true rfl) hf dX10_init_147 (fun q_229 σ_230 d_231 ad_232 H hf hext_234 E_233 G => ?_)
    have ha_235 := (hext_234 _ hc_227).symm
    rw [ha_235]
    have ha_236 := (hext_234 _ hc_228).symm
    rw [ha_236] at hl
    refine lv_dup hx hb dX10_init_150 rfl ?_
    obtain ⟨hc_237, hf⟩ := aw_chk_some hf
    obtain ⟨hc_238, hf⟩ := aw_chk_some hf
    obtain ⟨hc_239, hf⟩ := aw_chk_some hf
    obtain ⟨z_240, hz_241, hf⟩ := aw_bind_some hf
    refine aw_INN (As := []) (rest := [.ref (ad_232 q_229), .int ((0 : Int32)), .ref (ad_232 q_225)]) X G E_233 hl.1 cr_X10_18 (c_X2_init l hz_241) rfl rfl rfl ⟨Nat.le_of_ble_eq_true rfl, Nat.le_of_ble_eq_true rfl⟩ (Nat.le_of_ble_eq_true rfl) dX10_init_151 ⟨Nat.le_of_ble_eq_true rfl, Nat.le_of_ble_eq_true rfl⟩ (fun ad_242 H locs hext_244 E_243 G => ?_)
    have ha_245 := (hext_244 _ hc_237).symm
    rw [ha_245]
    have ha_246 := (hext_244 _ hc_238).symm
    rw [ha_246]
    have ha_247 := (hext_244 _ hc_239).symm
    rw [ha_247] at hl
    obtain ⟨hc_248, hf⟩ := aw_chk_some hf
    refine aw_qas X G E_243 25 2 8 (RX2, TX2, 8) (by decide) rfl (by decide) rfl hc_248.1 hc_248.2 hf dX10_init_154 (fun σ_249 H locs hf E_250 G => ?_)
    refine lv_iinc (v := ((0 : Int32)) + 1) (lv' := [(1, .int (((0 : Int32)) + 1)), (0, .ref (ad_242 x0))]) hx hb dX10_init_155 hl (k := 0) rfl rfl (by decide) rfl (fun ls hl => ?_)
    refine lv_goto (tgt := 137) hx hb dX10_init_158 (by decide) ?_
    refine lv_iload_n hx hb dX10_init_137 rfl (lv_at hl 0 rfl) ?_
    refine lv_iconst (v := (3 : Int32)) hx hb dX10_init_138 (by decide) ?_
    refine lv_icmp_ge (tgt := 161) hx hb dX10_init_139 (by decide) (fun hc => ?_) (fun hc => ?_)
    · have hf := aw_ite_t hc hf
      exact aw_retn X G E_250 hf dX10_init_161 (Nat.le_of_ble_eq_true rfl) (Nat.le_of_ble_eq_true rfl)
    · have hf := aw_ite_f hc hf
      refine lv_aload_n hx hb dX10_init_142 rfl (lv_at hl 1 rfl) ?_
      obtain ⟨hc_251, hf⟩ := aw_chk_some hf
      obtain ⟨q_252, hq_253, hf⟩ := aw_bind_some hf
      refine gf_X10_23 hx hb G hown hc_251 hq_253 dX10_init_143 ?_
      refine lv_iload_n hx hb dX10_init_146 rfl (lv_at hl 0 rfl) ?_
      obtain ⟨hc_254, hf⟩ := aw_chk_some hf
      obtain ⟨hc_255, hf⟩ := aw_chk_some hf
      refine aw_newO (ci := 2) (C := RX2) (T := TX2) (N := 8) X G E_250 (by decide) tyX2 tyX2_ok rfl inaX2 m_54 m_55 m_3 dzX2 (Nat.le_of_ble_eq_true rfl) (Nat.le_of_ble_eq_true rfl) hf dX10_init_147 (fun q_256 σ_257 d_258 ad_259 H hf hext_261 E_260 G => ?_)
      have ha_262 := (hext_261 _ hc_254).symm
      rw [ha_262]
      have ha_263 := (hext_261 _ hc_255).symm
      rw [ha_263] at hl
      refine lv_dup hx hb dX10_init_150 rfl ?_
      obtain ⟨hc_264, hf⟩ := aw_chk_some hf
      obtain ⟨hc_265, hf⟩ := aw_chk_some hf
      obtain ⟨hc_266, hf⟩ := aw_chk_some hf
      obtain ⟨z_267, hz_268, hf⟩ := aw_bind_some hf
      refine aw_INN (As := []) (rest := [.ref (ad_259 q_256), .int (((0 : Int32)) + 1), .ref (ad_259 q_252)]) X G E_260 hl.1 cr_X10_18 (c_X2_init l hz_268) rfl rfl rfl ⟨Nat.le_of_ble_eq_true rfl, Nat.le_of_ble_eq_true rfl⟩ (Nat.le_of_ble_eq_true rfl) dX10_init_151 ⟨Nat.le_of_ble_eq_true rfl, Nat.le_of_ble_eq_true rfl⟩ (fun ad_269 H locs hext_271 E_270 G => ?_)
      have ha_272 := (hext_271 _ hc_264).symm
      rw [ha_272]
      have ha_273 := (hext_271 _ hc_265).symm
      rw [ha_273]
      have ha_274 := (hext_271 _ hc_266).symm
      rw [ha_274] at hl
      obtain ⟨hc_275, hf⟩ := aw_chk_some hf
      refine aw_qas X G E_270 25 2 8 (RX2, TX2, 8) (by decide) rfl (by decide) rfl hc_275.1 hc_275.2 hf dX10_init_154 (fun σ_276 H locs hf E_277 G => ?_)
      refine lv_iinc (v := (((0 : Int32)) + 1) + 1) (lv' := [(1, .int ((((0 : Int32)) + 1) + 1)), (0, .ref (ad_269 x0))]) hx hb dX10_init_155 hl (k := 0) rfl rfl (by decide) rfl (fun ls hl => ?_)
      refine lv_goto (tgt := 137) hx hb dX10_init_158 (by decide) ?_
      refine lv_iload_n hx hb dX10_init_137 rfl (lv_at hl 0 rfl) ?_
      refine lv_iconst (v := (3 : Int32)) hx hb dX10_init_138 (by decide) ?_
      refine lv_icmp_ge (tgt := 161) hx hb dX10_init_139 (by decide) (fun hc => ?_) (fun hc => ?_)
      · have hf := aw_ite_t hc hf
        exact aw_retn X G E_277 hf dX10_init_161 (Nat.le_of_ble_eq_true rfl) (Nat.le_of_ble_eq_true rfl)
      · have hf := aw_ite_f hc hf
        refine lv_aload_n hx hb dX10_init_142 rfl (lv_at hl 1 rfl) ?_
        obtain ⟨hc_278, hf⟩ := aw_chk_some hf
        obtain ⟨q_279, hq_280, hf⟩ := aw_bind_some hf
        refine gf_X10_23 hx hb G hown hc_278 hq_280 dX10_init_143 ?_
        refine lv_iload_n hx hb dX10_init_146 rfl (lv_at hl 0 rfl) ?_
        obtain ⟨hc_281, hf⟩ := aw_chk_some hf
        obtain ⟨hc_282, hf⟩ := aw_chk_some hf
        refine aw_newO (ci := 2) (C := RX2) (T := TX2) (N := 8) X G E_277 (by decide) tyX2 tyX2_ok rfl inaX2 m_54 m_55 m_3 dzX2 (Nat.le_of_ble_eq_true rfl) (Nat.le_of_ble_eq_true rfl) hf dX10_init_147 (fun q_283 σ_284 d_285 ad_286 H hf hext_288 E_287 G => ?_)
        have ha_289 := (hext_288 _ hc_281).symm
        rw [ha_289]
        have ha_290 := (hext_288 _ hc_282).symm
        rw [ha_290] at hl
        refine lv_dup hx hb dX10_init_150 rfl ?_
        obtain ⟨hc_291, hf⟩ := aw_chk_some hf
        obtain ⟨hc_292, hf⟩ := aw_chk_some hf
        obtain ⟨hc_293, hf⟩ := aw_chk_some hf
        obtain ⟨z_294, hz_295, hf⟩ := aw_bind_some hf
        refine aw_INN (As := []) (rest := [.ref (ad_286 q_283), .int ((((0 : Int32)) + 1) + 1), .ref (ad_286 q_279)]) X G E_287 hl.1 cr_X10_18 (c_X2_init l hz_295) rfl rfl rfl ⟨Nat.le_of_ble_eq_true rfl, Nat.le_of_ble_eq_true rfl⟩ (Nat.le_of_ble_eq_true rfl) dX10_init_151 ⟨Nat.le_of_ble_eq_true rfl, Nat.le_of_ble_eq_true rfl⟩ (fun ad_296 H locs hext_298 E_297 G => ?_)
        have ha_299 := (hext_298 _ hc_291).symm
        rw [ha_299]
        have ha_300 := (hext_298 _ hc_292).symm
        rw [ha_300]
        have ha_301 := (hext_298 _ hc_293).symm
        rw [ha_301] at hl
        obtain ⟨hc_302, hf⟩ := aw_chk_some hf
        refine aw_qas X G E_297 25 2 8 (RX2, TX2, 8) (by decide) rfl (by decide) rfl hc_302.1 hc_302.2 hf dX10_init_154 (fun σ_303 H locs hf E_304 G => ?_)
        refine lv_iinc (v := ((((0 : Int32)) + 1) + 1) + 1) (lv' := [(1, .int (((((0 : Int32)) + 1) + 1) + 1)), (0, .ref (ad_296 x0))]) hx hb dX10_init_155 hl (k := 0) rfl rfl (by decide) rfl (fun ls hl => ?_)
        refine lv_goto (tgt := 137) hx hb dX10_init_158 (by decide) ?_
        refine lv_iload_n hx hb dX10_init_137 rfl (lv_at hl 0 rfl) ?_
        refine lv_iconst (v := (3 : Int32)) hx hb dX10_init_138 (by decide) ?_
        refine lv_icmp_ge (tgt := 161) hx hb dX10_init_139 (by decide) (fun hc => ?_) (fun hc => ?_)
        · have hf := aw_ite_t hc hf
          exact aw_retn X G E_304 hf dX10_init_161 (Nat.le_of_ble_eq_true rfl) (Nat.le_of_ble_eq_true rfl)
        · have hf := aw_ite_f hc hf
          cases hf
def rm_X11_init : Room := { frames := 1, cells := 28, slots := 2650, locals := 20 }
def f_X11_init_B226 (kb226 : Int32 → Sg → Dt → Option (Sg × Dt)) (k226 : Sg → Dt → Option (Sg × Dt)) (x0 : Nat) (x1 : Int32) (σ : Sg) (d : Dt) : Option (Sg × Dt) :=
  if ((50 : Int32)) ≤ x1 then k226 σ d else aw_chk (aw_O σ 11 32 x0) ((σ.2.2 x0 17).bind (fun q_310 => aw_chk (aw_I σ 20 q_310 x1) (kb226 (x1 + 1) σ (aw_sI d q_310 x1.toNatClampNeg ((((((100 : Int32)) * ((x1 / (16 : Int32)) + ((1 : Int32)))) + (((10 : Int32)) * (((x1 / (4 : Int32)) - (x1 / (4 : Int32)) / (4 : Int32) * (4 : Int32)) + ((1 : Int32))))) + (x1 - x1 / (4 : Int32) * (4 : Int32))) + ((1 : Int32)))))))
def f_X11_init_L226 (n : Nat) (k226 : Sg → Dt → Option (Sg × Dt)) (x0 : Nat) : Int32 → Sg → Dt → Option (Sg × Dt) := match n with
  | 0 => fun _ _ _ => none
  | n + 1 => fun x1 σ d => f_X11_init_B226 (f_X11_init_L226 n k226 x0) k226 x0 x1 σ d
def f_X11_init (x0 : Nat) (σ : Sg) (d : Dt) : Option (Sg × Dt) :=
  aw_chk (x0 < σ.1) (aw_new σ d 20 4 (fun q_2 σ_3 d_4 => aw_chk (aw_O σ_3 11 32 x0 ∧ q_2 < σ_3.1) (aw_let (aw_sR σ_3 x0 1 q_2) (fun σ_10 => aw_chk (x0 < σ_10.1) (aw_new σ_10 d_4 20 20 (fun q_13 σ_14 d_15 => aw_chk (aw_O σ_14 11 32 x0 ∧ q_13 < σ_14.1) (aw_let (aw_sR σ_14 x0 3 q_13) (fun σ_21 => aw_chk (x0 < σ_21.1) (aw_new σ_21 d_15 20 80 (fun q_24 σ_25 d_26 => aw_chk (aw_O σ_25 11 32 x0 ∧ q_24 < σ_25.1) (aw_let (aw_sR σ_25 x0 4 q_24) (fun σ_32 => aw_chk (x0 < σ_32.1) (aw_new σ_32 d_26 20 20 (fun q_35 σ_36 d_37 => aw_chk (aw_O σ_36 11 32 x0 ∧ q_35 < σ_36.1) (aw_let (aw_sR σ_36 x0 5 q_35) (fun σ_43 => aw_chk (x0 < σ_43.1) (aw_new σ_43 d_37 20 3 (fun q_46 σ_47 d_48 => aw_chk (aw_O σ_47 11 32 x0 ∧ q_46 < σ_47.1) (aw_let (aw_sR σ_47 x0 6 q_46) (fun σ_54 => aw_chk (x0 < σ_54.1) (aw_new σ_54 d_48 20 18 (fun q_57 σ_58 d_59 => aw_chk (aw_O σ_58 11 32 x0 ∧ q_57 < σ_58.1) (aw_let (aw_sR σ_58 x0 7 q_57) (fun σ_65 => aw_chk (x0 < σ_65.1) (aw_new σ_65 d_59 20 18 (fun q_68 σ_69 d_70 => aw_chk (aw_O σ_69 11 32 x0 ∧ q_68 < σ_69.1) (aw_let (aw_sR σ_69 x0 8 q_68) (fun σ_76 => aw_chk (x0 < σ_76.1) (aw_new σ_76 d_70 20 18 (fun q_79 σ_80 d_81 => aw_chk (aw_O σ_80 11 32 x0 ∧ q_79 < σ_80.1) (aw_let (aw_sR σ_80 x0 9 q_79) (fun σ_87 => aw_chk (x0 < σ_87.1) (aw_new σ_87 d_81 22 18 (fun q_90 σ_91 d_92 => aw_chk (aw_O σ_91 11 32 x0 ∧ q_90 < σ_91.1) (aw_let (aw_sR σ_91 x0 10 q_90) (fun σ_98 => aw_chk (x0 < σ_98.1) (aw_new σ_98 d_92 20 5 (fun q_101 σ_102 d_103 => aw_chk (aw_O σ_102 11 32 x0 ∧ q_101 < σ_102.1) (aw_let (aw_sR σ_102 x0 12 q_101) (fun σ_109 => aw_chk (x0 < σ_109.1) (aw_new σ_109 d_103 20 5 (fun q_112 σ_113 d_114 => aw_chk (aw_O σ_113 11 32 x0 ∧ q_112 < σ_113.1) (aw_let (aw_sR σ_113 x0 13 q_112) (fun σ_120 => aw_chk (x0 < σ_120.1) (aw_new σ_120 d_114 20 235 (fun q_123 σ_124 d_125 => aw_chk (aw_O σ_124 11 32 x0 ∧ q_123 < σ_124.1) (aw_let (aw_sR σ_124 x0 14 q_123) (fun σ_131 => aw_chk (x0 < σ_131.1) (aw_new σ_131 d_125 22 15 (fun q_134 σ_135 d_136 => aw_chk (aw_O σ_135 11 32 x0 ∧ q_134 < σ_135.1) (aw_let (aw_sR σ_135 x0 15 q_134) (fun σ_142 => aw_chk (x0 < σ_142.1) (aw_new σ_142 d_136 20 250 (fun q_145 σ_146 d_147 => aw_chk (aw_O σ_146 11 32 x0 ∧ q_145 < σ_146.1) (aw_let (aw_sR σ_146 x0 16 q_145) (fun σ_153 => aw_chk (x0 < σ_153.1) (aw_new σ_153 d_147 20 50 (fun q_156 σ_157 d_158 => aw_chk (aw_O σ_157 11 32 x0 ∧ q_156 < σ_157.1) (aw_let (aw_sR σ_157 x0 17 q_156) (fun σ_164 => aw_chk (x0 < σ_164.1) (aw_new σ_164 d_158 20 4 (fun q_167 σ_168 d_169 => aw_chk (aw_O σ_168 11 32 x0 ∧ q_167 < σ_168.1) (aw_let (aw_sR σ_168 x0 18 q_167) (fun σ_175 => aw_chk (x0 < σ_175.1) (aw_new σ_175 d_169 20 4 (fun q_178 σ_179 d_180 => aw_chk (aw_O σ_179 11 32 x0 ∧ q_178 < σ_179.1) (aw_let (aw_sR σ_179 x0 19 q_178) (fun σ_186 => aw_chk (x0 < σ_186.1) (aw_new σ_186 d_180 20 4 (fun q_189 σ_190 d_191 => aw_chk (aw_O σ_190 11 32 x0 ∧ q_189 < σ_190.1) (aw_let (aw_sR σ_190 x0 20 q_189) (fun σ_197 => aw_chk (x0 < σ_197.1) (aw_new σ_197 d_191 20 640 (fun q_200 σ_201 d_202 => aw_chk (aw_O σ_201 11 32 x0 ∧ q_200 < σ_201.1) (aw_let (aw_sR σ_201 x0 21 q_200) (fun σ_208 => aw_chk (x0 < σ_208.1) (aw_new σ_208 d_202 20 40 (fun q_211 σ_212 d_213 => aw_chk (aw_O σ_212 11 32 x0 ∧ q_211 < σ_212.1) (aw_let (aw_sR σ_212 x0 22 q_211) (fun σ_219 => aw_chk (x0 < σ_219.1) (aw_new σ_219 d_213 20 4 (fun q_222 σ_223 d_224 => aw_chk (aw_O σ_223 11 32 x0 ∧ q_222 < σ_223.1) (aw_let (aw_sR σ_223 x0 23 q_222) (fun σ_230 => aw_chk (x0 < σ_230.1) (aw_new σ_230 d_224 21 17 (fun q_233 σ_234 d_235 => aw_chk (aw_O σ_234 11 32 x0 ∧ q_233 < σ_234.1) (aw_let (aw_sR σ_234 x0 24 q_233) (fun σ_241 => aw_chk (x0 < σ_241.1) (aw_new σ_241 d_235 21 17 (fun q_244 σ_245 d_246 => aw_chk (aw_O σ_245 11 32 x0 ∧ q_244 < σ_245.1) (aw_let (aw_sR σ_245 x0 25 q_244) (fun σ_252 => aw_chk (x0 < σ_252.1) (aw_new σ_252 d_246 20 50 (fun q_255 σ_256 d_257 => aw_chk (aw_O σ_256 11 32 x0 ∧ q_255 < σ_256.1) (aw_let (aw_sR σ_256 x0 26 q_255) (fun σ_263 => aw_chk (x0 < σ_263.1) (aw_new σ_263 d_257 20 50 (fun q_266 σ_267 d_268 => aw_chk (aw_O σ_267 11 32 x0 ∧ q_266 < σ_267.1) (aw_let (aw_sR σ_267 x0 27 q_266) (fun σ_274 => aw_chk (x0 < σ_274.1) (aw_new σ_274 d_268 21 20 (fun q_277 σ_278 d_279 => aw_chk (aw_O σ_278 11 32 x0 ∧ q_277 < σ_278.1) (aw_let (aw_sR σ_278 x0 28 q_277) (fun σ_285 => aw_chk (x0 < σ_285.1) (aw_new σ_285 d_279 20 1024 (fun q_288 σ_289 d_290 => aw_chk (aw_O σ_289 11 32 x0 ∧ q_288 < σ_289.1) (aw_let (aw_sR σ_289 x0 29 q_288) (fun σ_296 => aw_chk (x0 < σ_296.1) (aw_new σ_296 d_290 20 17 (fun q_299 σ_300 d_301 => aw_chk (aw_O σ_300 11 32 x0 ∧ q_299 < σ_300.1) (aw_let (aw_sR σ_300 x0 30 q_299) (fun σ_307 => f_X11_init_L226 aw_FU (fun σ_313 d_314 => some (σ_313, d_314)) x0 ((0 : Int32)) σ_307 d_301))))))))))))))))))))))))))))))))))))))))))))))))))))))))))))))))))))))))))))))))))))))))))))))))))))))))))))))))
section W_X11_init
variable {p : Program} {l : Launch} {e : Env} {s : State} {m : MethodId} {args : Array Value} {below : List Frame} {meth : Method} {c : Code}
variable {D : va_G} {cA : Nat → ClassId} {base : Nat} {ad0 : Nat → Nat} {σ0 : Sg}
set_option maxHeartbeats 4000000 in
set_option maxRecDepth 100000 in
theorem w_X11_init_B226 {z : Sg × Dt} (X : aw_X p c cX11_init 2 s RX11 m meth (none)) {kb226 : Int32 → Sg → Dt → Option (Sg × Dt)} {k226 : Sg → Dt → Option (Sg × Dt)} {x0 : Nat} {x1 : Int32} {σ : Sg} {d : Dt} {ad : Nat → Nat} (hf : f_X11_init_B226 kb226 k226 x0 x1 σ d = some z) (hkb226 : ∀ (y1 : Int32) (σ : Sg) (d : Dt), kb226 y1 σ d = some z → ∀ (ad : Nat → Nat), aw_ext σ0 ad0 σ ad → ∀ (H : Heap) (locs : List Loc) (ls : Array Slot), lv_has ls 2 [(0, .ref (ad x0)), (1, .int y1)] → aw_G D cA base ad σ d s H locs → W p l e rm_X11_init s m args below meth c H locs 28 2650 (aw_En D cA base ad0 σ0 below args s 28 2650 z) (F0 m 226 ls [])) (hk226 : ∀ (σ : Sg) (d : Dt), k226 σ d = some z → ∀ (ad : Nat → Nat), aw_ext σ0 ad0 σ ad → ∀ (H : Heap) (locs : List Loc) (ls : Array Slot), lv_has ls 2 [] → aw_G D cA base ad σ d s H locs → W p l e rm_X11_init s m args below meth c H locs 28 2650 (aw_En D cA base ad0 σ0 below args s 28 2650 z) (F0 m 270 ls [])) (E : aw_ext σ0 ad0 σ ad) {H : Heap} {locs : List Loc} {ls : Array Slot} (hl : lv_has ls 2 [(0, .ref (ad x0)), (1, .int x1)]) (G : aw_G D cA base ad σ d s H locs) : W p l e rm_X11_init s m args below meth c H locs 28 2650 (aw_En D cA base ad0 σ0 below args s 28 2650 z) (F0 m 226 ls []) := by
  have hx := X.1; have hb := X.2.1; have hml := X.2.2.1; have hown := X.2.2.2.1
  unfold f_X11_init_B226 at hf
  refine lv_iload_n hx hb dX11_init_226 rfl (lv_at hl 1 rfl) ?_
  refine lv_bipush (v := (50 : Int32)) hx hb dX11_init_227 (by decide) ?_
  refine lv_icmp_ge (tgt := 270) hx hb dX11_init_229 (by decide) (fun hc => ?_) (fun hc => ?_)
  · have hf := aw_ite_t hc hf
    refine W.widen (k := 28) (n := 2650) (Nat.le_of_ble_eq_true rfl) (Nat.le_of_ble_eq_true rfl) ?_
    exact hk226 _ _ hf _ E _ _ _ (lv_sub hl [] rfl) G
  · have hf := aw_ite_f hc hf
    refine lv_aload_n hx hb dX11_init_232 rfl (lv_at hl 0 rfl) ?_
    obtain ⟨hc_309, hf⟩ := aw_chk_some hf
    obtain ⟨q_310, hq_311, hf⟩ := aw_bind_some hf
    refine gf_X11_53 hx hb G hown hc_309 hq_311 dX11_init_233 ?_
    refine lv_iload_n hx hb dX11_init_236 rfl (lv_at hl 1 rfl) ?_
    refine lv_bipush (v := (100 : Int32)) hx hb dX11_init_237 (by decide) ?_
    refine lv_iload_n hx hb dX11_init_239 rfl (lv_at hl 1 rfl) ?_
    refine lv_bipush (v := (16 : Int32)) hx hb dX11_init_240 (by decide) ?_
    refine lv_idiv hx hb dX11_init_242 (by decide) ?_
    refine lv_iconst (v := (1 : Int32)) hx hb dX11_init_243 (by decide) ?_
    refine lv_iadd hx hb dX11_init_244 ?_
    refine lv_imul hx hb dX11_init_245 ?_
    refine lv_bipush (v := (10 : Int32)) hx hb dX11_init_246 (by decide) ?_
    refine lv_iload_n hx hb dX11_init_248 rfl (lv_at hl 1 rfl) ?_
    refine lv_iconst (v := (4 : Int32)) hx hb dX11_init_249 (by decide) ?_
    refine lv_idiv hx hb dX11_init_250 (by decide) ?_
    refine lv_iconst (v := (4 : Int32)) hx hb dX11_init_251 (by decide) ?_
    refine lv_irem hx hb dX11_init_252 (by decide) ?_
    refine lv_iconst (v := (1 : Int32)) hx hb dX11_init_253 (by decide) ?_
    refine lv_iadd hx hb dX11_init_254 ?_
    refine lv_imul hx hb dX11_init_255 ?_
    refine lv_iadd hx hb dX11_init_256 ?_
    refine lv_iload_n hx hb dX11_init_257 rfl (lv_at hl 1 rfl) ?_
    refine lv_iconst (v := (4 : Int32)) hx hb dX11_init_258 (by decide) ?_
    refine lv_irem hx hb dX11_init_259 (by decide) ?_
    refine lv_iadd hx hb dX11_init_260 ?_
    refine lv_iconst (v := (1 : Int32)) hx hb dX11_init_261 (by decide) ?_
    refine lv_iadd hx hb dX11_init_262 ?_
    obtain ⟨hc_312, hf⟩ := aw_chk_some hf
    refine aw_ias hx hb G hc_312 dX11_init_263 (fun H locs G => ?_)
    refine lv_iinc (v := x1 + 1) (lv' := [(1, .int (x1 + 1)), (0, .ref (ad x0))]) hx hb dX11_init_264 hl (k := 1) rfl rfl (by decide) rfl (fun ls hl => ?_)
    refine lv_goto (tgt := 226) hx hb dX11_init_267 (by decide) ?_
    refine W.widen (k := 28) (n := 2650) (Nat.le_of_ble_eq_true rfl) (Nat.le_of_ble_eq_true rfl) ?_
    exact hkb226 _ _ _ hf _ E _ _ _ (lv_sub hl [1, 0] rfl) G
theorem w_X11_init_L226 {z : Sg × Dt} (X : aw_X p c cX11_init 2 s RX11 m meth (none)) {k226 : Sg → Dt → Option (Sg × Dt)} {x0 : Nat} (n : Nat) {x1 : Int32} {σ : Sg} {d : Dt} {ad : Nat → Nat} (hf : f_X11_init_L226 n k226 x0 x1 σ d = some z) (hk226 : ∀ (σ : Sg) (d : Dt), k226 σ d = some z → ∀ (ad : Nat → Nat), aw_ext σ0 ad0 σ ad → ∀ (H : Heap) (locs : List Loc) (ls : Array Slot), lv_has ls 2 [] → aw_G D cA base ad σ d s H locs → W p l e rm_X11_init s m args below meth c H locs 28 2650 (aw_En D cA base ad0 σ0 below args s 28 2650 z) (F0 m 270 ls [])) (E : aw_ext σ0 ad0 σ ad) {H : Heap} {locs : List Loc} {ls : Array Slot} (hl : lv_has ls 2 [(0, .ref (ad x0)), (1, .int x1)]) (G : aw_G D cA base ad σ d s H locs) : W p l e rm_X11_init s m args below meth c H locs 28 2650 (aw_En D cA base ad0 σ0 below args s 28 2650 z) (F0 m 226 ls []) := by
  induction n generalizing x1 σ d ad H locs ls with
  | zero => exact absurd (show (none : Option (Sg × Dt)) = some z from hf) (by simp)
  | succ n ih => exact w_X11_init_B226 X (kb226 := f_X11_init_L226 n k226 x0) hf  (fun x1 σ d hf ad E H locs ls hl G => ih hf E hl G) hk226 E hl G
end W_X11_init
set_option maxHeartbeats 4000000 in
set_option maxRecDepth 100000 in
theorem c_X11_init (l : Launch) {σ : Sg} {x0 : Nat} {d : Dt} {z : Sg × Dt} (hf : f_X11_init x0 σ d = some z) : aw_Nv l yX11_init (Cond.code yX11_init cX11_init 2 (none)) rm_X11_init (fun ad => [.ref (ad x0)]) σ d z := by
  intro hwf D cA base ad
  refine aw_ofW (own := RX11) (cc := cX11_init) (nL := 2) (ret := none) (by decide) rfl rfl ?_
  intro p e s m below meth c X hnm G
  have hx := X.1; have hb := X.2.1; have hml := X.2.2.1; have hown := X.2.2.2.1
  have E : aw_ext σ ad σ ad := aw_ext.rf hwf
  refine aw_ls (lv := [(0, .ref (ad x0))]) (Nat.le_of_ble_eq_true rfl) rfl (fun ls hl => ?_)
  generalize ([.ref (ad x0)] : List Value).toArray = args0
  unfold f_X11_init at hf
  refine lv_aload_n hx hb dX11_init_0 rfl (lv_at hl 0 rfl) ?_
  refine aw_objI X G hl.1 m_1014 m_28 m_29 ⟨Nat.le_of_ble_eq_true rfl, Nat.le_of_ble_eq_true rfl⟩ dX11_init_1 ?_
  refine lv_aload_n hx hb dX11_init_4 rfl (lv_at hl 0 rfl) ?_
  refine lv_iconst (v := (4 : Int32)) hx hb dX11_init_5 (by decide) ?_
  obtain ⟨hc_1, hf⟩ := aw_chk_some hf
  refine aw_newA (atype := .int) (t := 20) (ty := .int) (N := 4) X G E rfl m_53 (by decide) rfl (fun _ _ h => h) (by decide) (by decide) (fun _ => rfl) (aw_a0i 4) (Nat.le_of_ble_eq_true rfl) (Nat.le_of_ble_eq_true rfl) (Nat.le_of_ble_eq_true rfl) hf dX11_init_6 (fun q_2 σ_3 d_4 ad_5 H hf hext_7 E_6 G => ?_)
  have ha_8 := (hext_7 _ hc_1).symm
  rw [ha_8]
  rw [ha_8] at hl
  obtain ⟨hc_9, hf⟩ := aw_chk_some hf
  refine pr_X11_7 hx hb G hown hnm E_6 hc_9 hf dX11_init_8 (fun σ_10 H locs hf E_11 G => ?_)
  refine lv_aload_n hx hb dX11_init_11 rfl (lv_at hl 0 rfl) ?_
  refine lv_bipush (v := (20 : Int32)) hx hb dX11_init_12 (by decide) ?_
  obtain ⟨hc_12, hf⟩ := aw_chk_some hf
  refine aw_newA (atype := .int) (t := 20) (ty := .int) (N := 20) X G E_11 rfl m_53 (by decide) rfl (fun _ _ h => h) (by decide) (by decide) (fun _ => rfl) (aw_a0i 20) (Nat.le_of_ble_eq_true rfl) (Nat.le_of_ble_eq_true rfl) (Nat.le_of_ble_eq_true rfl) hf dX11_init_14 (fun q_13 σ_14 d_15 ad_16 H hf hext_18 E_17 G => ?_)
  have ha_19 := (hext_18 _ hc_12).symm
  rw [ha_19]
  rw [ha_19] at hl
  obtain ⟨hc_20, hf⟩ := aw_chk_some hf
  refine pr_X11_13 hx hb G hown hnm E_17 hc_20 hf dX11_init_16 (fun σ_21 H locs hf E_22 G => ?_)
  refine lv_aload_n hx hb dX11_init_19 rfl (lv_at hl 0 rfl) ?_
  refine lv_bipush (v := (80 : Int32)) hx hb dX11_init_20 (by decide) ?_
  obtain ⟨hc_23, hf⟩ := aw_chk_some hf
  refine aw_newA (atype := .int) (t := 20) (ty := .int) (N := 80) X G E_22 rfl m_53 (by decide) rfl (fun _ _ h => h) (by decide) (by decide) (fun _ => rfl) (aw_a0i 80) (Nat.le_of_ble_eq_true rfl) (Nat.le_of_ble_eq_true rfl) (Nat.le_of_ble_eq_true rfl) hf dX11_init_22 (fun q_24 σ_25 d_26 ad_27 H hf hext_29 E_28 G => ?_)
  have ha_30 := (hext_29 _ hc_23).symm
  rw [ha_30]
  rw [ha_30] at hl
  obtain ⟨hc_31, hf⟩ := aw_chk_some hf
  refine pr_X11_16 hx hb G hown hnm E_28 hc_31 hf dX11_init_24 (fun σ_32 H locs hf E_33 G => ?_)
  refine lv_aload_n hx hb dX11_init_27 rfl (lv_at hl 0 rfl) ?_
  refine lv_bipush (v := (20 : Int32)) hx hb dX11_init_28 (by decide) ?_
  obtain ⟨hc_34, hf⟩ := aw_chk_some hf
  refine aw_newA (atype := .int) (t := 20) (ty := .int) (N := 20) X G E_33 rfl m_53 (by decide) rfl (fun _ _ h => h) (by decide) (by decide) (fun _ => rfl) (aw_a0i 20) (Nat.le_of_ble_eq_true rfl) (Nat.le_of_ble_eq_true rfl) (Nat.le_of_ble_eq_true rfl) hf dX11_init_30 (fun q_35 σ_36 d_37 ad_38 H hf hext_40 E_39 G => ?_)
  have ha_41 := (hext_40 _ hc_34).symm
  rw [ha_41]
  rw [ha_41] at hl
  obtain ⟨hc_42, hf⟩ := aw_chk_some hf
  refine pr_X11_19 hx hb G hown hnm E_39 hc_42 hf dX11_init_32 (fun σ_43 H locs hf E_44 G => ?_)
  refine lv_aload_n hx hb dX11_init_35 rfl (lv_at hl 0 rfl) ?_
  refine lv_iconst (v := (3 : Int32)) hx hb dX11_init_36 (by decide) ?_
  obtain ⟨hc_45, hf⟩ := aw_chk_some hf
  refine aw_newA (atype := .int) (t := 20) (ty := .int) (N := 3) X G E_44 rfl m_53 (by decide) rfl (fun _ _ h => h) (by decide) (by decide) (fun _ => rfl) (aw_a0i 3) (Nat.le_of_ble_eq_true rfl) (Nat.le_of_ble_eq_true rfl) (Nat.le_of_ble_eq_true rfl) hf dX11_init_37 (fun q_46 σ_47 d_48 ad_49 H hf hext_51 E_50 G => ?_)
  have ha_52 := (hext_51 _ hc_45).symm
  rw [ha_52]
  rw [ha_52] at hl
  obtain ⟨hc_53, hf⟩ := aw_chk_some hf
  refine pr_X11_22 hx hb G hown hnm E_50 hc_53 hf dX11_init_39 (fun σ_54 H locs hf E_55 G => ?_)
  refine lv_aload_n hx hb dX11_init_42 rfl (lv_at hl 0 rfl) ?_
  refine lv_bipush (v := (18 : Int32)) hx hb dX11_init_43 (by decide) ?_
  obtain ⟨hc_56, hf⟩ := aw_chk_some hf
  refine aw_newA (atype := .int) (t := 20) (ty := .int) (N := 18) X G E_55 rfl m_53 (by decide) rfl (fun _ _ h => h) (by decide) (by decide) (fun _ => rfl) (aw_a0i 18) (Nat.le_of_ble_eq_true rfl) (Nat.le_of_ble_eq_true rfl) (Nat.le_of_ble_eq_true rfl) hf dX11_init_45 (fun q_57 σ_58 d_59 ad_60 H hf hext_62 E_61 G => ?_)
  have ha_63 := (hext_62 _ hc_56).symm
  rw [ha_63]
  rw [ha_63] at hl
  obtain ⟨hc_64, hf⟩ := aw_chk_some hf
  refine pr_X11_25 hx hb G hown hnm E_61 hc_64 hf dX11_init_47 (fun σ_65 H locs hf E_66 G => ?_)
  refine lv_aload_n hx hb dX11_init_50 rfl (lv_at hl 0 rfl) ?_
  refine lv_bipush (v := (18 : Int32)) hx hb dX11_init_51 (by decide) ?_
  obtain ⟨hc_67, hf⟩ := aw_chk_some hf
  refine aw_newA (atype := .int) (t := 20) (ty := .int) (N := 18) X G E_66 rfl m_53 (by decide) rfl (fun _ _ h => h) (by decide) (by decide) (fun _ => rfl) (aw_a0i 18) (Nat.le_of_ble_eq_true rfl) (Nat.le_of_ble_eq_true rfl) (Nat.le_of_ble_eq_true rfl) hf dX11_init_53 (fun q_68 σ_69 d_70 ad_71 H hf hext_73 E_72 G => ?_)
  have ha_74 := (hext_73 _ hc_67).symm
  rw [ha_74]
  rw [ha_74] at hl
  obtain ⟨hc_75, hf⟩ := aw_chk_some hf
  refine pr_X11_28 hx hb G hown hnm E_72 hc_75 hf dX11_init_55 (fun σ_76 H locs hf E_77 G => ?_)
  refine lv_aload_n hx hb dX11_init_58 rfl (lv_at hl 0 rfl) ?_
  refine lv_bipush (v := (18 : Int32)) hx hb dX11_init_59 (by decide) ?_
  obtain ⟨hc_78, hf⟩ := aw_chk_some hf
  refine aw_newA (atype := .int) (t := 20) (ty := .int) (N := 18) X G E_77 rfl m_53 (by decide) rfl (fun _ _ h => h) (by decide) (by decide) (fun _ => rfl) (aw_a0i 18) (Nat.le_of_ble_eq_true rfl) (Nat.le_of_ble_eq_true rfl) (Nat.le_of_ble_eq_true rfl) hf dX11_init_61 (fun q_79 σ_80 d_81 ad_82 H hf hext_84 E_83 G => ?_)
  have ha_85 := (hext_84 _ hc_78).symm
  rw [ha_85]
  rw [ha_85] at hl
  obtain ⟨hc_86, hf⟩ := aw_chk_some hf
  refine pr_X11_31 hx hb G hown hnm E_83 hc_86 hf dX11_init_63 (fun σ_87 H locs hf E_88 G => ?_)
  refine lv_aload_n hx hb dX11_init_66 rfl (lv_at hl 0 rfl) ?_
  refine lv_bipush (v := (18 : Int32)) hx hb dX11_init_67 (by decide) ?_
  obtain ⟨hc_89, hf⟩ := aw_chk_some hf
  refine aw_newA (atype := .boolean) (t := 22) (ty := .boolean) (N := 18) X G E_88 rfl m_93 (by decide) rfl (fun _ _ h => h) (by decide) (by decide) (fun _ => rfl) (aw_a0z 18) (Nat.le_of_ble_eq_true rfl) (Nat.le_of_ble_eq_true rfl) (Nat.le_of_ble_eq_true rfl) hf dX11_init_69 (fun q_90 σ_91 d_92 ad_93 H hf hext_95 E_94 G => ?_)
  have ha_96 := (hext_95 _ hc_89).symm
  rw [ha_96]
  rw [ha_96] at hl
  obtain ⟨hc_97, hf⟩ := aw_chk_some hf
  refine pr_X11_34 hx hb G hown hnm E_94 hc_97 hf dX11_init_71 (fun σ_98 H locs hf E_99 G => ?_)
  refine lv_aload_n hx hb dX11_init_74 rfl (lv_at hl 0 rfl) ?_
  refine lv_iconst (v := (5 : Int32)) hx hb dX11_init_75 (by decide) ?_
  obtain ⟨hc_100, hf⟩ := aw_chk_some hf
  refine aw_newA (atype := .int) (t := 20) (ty := .int) (N := 5) X G E_99 rfl m_53 (by decide) rfl (fun _ _ h => h) (by decide) (by decide) (fun _ => rfl) (aw_a0i 5) (Nat.le_of_ble_eq_true rfl) (Nat.le_of_ble_eq_true rfl) (Nat.le_of_ble_eq_true rfl) hf dX11_init_76 (fun q_101 σ_102 d_103 ad_104 H hf hext_106 E_105 G => ?_)
  have ha_107 := (hext_106 _ hc_100).symm
  rw [ha_107]
  rw [ha_107] at hl
  obtain ⟨hc_108, hf⟩ := aw_chk_some hf
  refine pr_X11_38 hx hb G hown hnm E_105 hc_108 hf dX11_init_78 (fun σ_109 H locs hf E_110 G => ?_)
  refine lv_aload_n hx hb dX11_init_81 rfl (lv_at hl 0 rfl) ?_
  refine lv_iconst (v := (5 : Int32)) hx hb dX11_init_82 (by decide) ?_
  obtain ⟨hc_111, hf⟩ := aw_chk_some hf
  refine aw_newA (atype := .int) (t := 20) (ty := .int) (N := 5) X G E_110 rfl m_53 (by decide) rfl (fun _ _ h => h) (by decide) (by decide) (fun _ => rfl) (aw_a0i 5) (Nat.le_of_ble_eq_true rfl) (Nat.le_of_ble_eq_true rfl) (Nat.le_of_ble_eq_true rfl) hf dX11_init_83 (fun q_112 σ_113 d_114 ad_115 H hf hext_117 E_116 G => ?_)
  have ha_118 := (hext_117 _ hc_111).symm
  rw [ha_118]
  rw [ha_118] at hl
  obtain ⟨hc_119, hf⟩ := aw_chk_some hf
  refine pr_X11_41 hx hb G hown hnm E_116 hc_119 hf dX11_init_85 (fun σ_120 H locs hf E_121 G => ?_)
  refine lv_aload_n hx hb dX11_init_88 rfl (lv_at hl 0 rfl) ?_
  refine lv_sipush (v := (235 : Int32)) hx hb dX11_init_89 (by decide) ?_
  obtain ⟨hc_122, hf⟩ := aw_chk_some hf
  refine aw_newA (atype := .int) (t := 20) (ty := .int) (N := 235) X G E_121 rfl m_53 (by decide) rfl (fun _ _ h => h) (by decide) (by decide) (fun _ => rfl) (aw_a0i 235) (Nat.le_of_ble_eq_true rfl) (Nat.le_of_ble_eq_true rfl) (Nat.le_of_ble_eq_true rfl) hf dX11_init_92 (fun q_123 σ_124 d_125 ad_126 H hf hext_128 E_127 G => ?_)
  have ha_129 := (hext_128 _ hc_122).symm
  rw [ha_129]
  rw [ha_129] at hl
  obtain ⟨hc_130, hf⟩ := aw_chk_some hf
  refine pr_X11_44 hx hb G hown hnm E_127 hc_130 hf dX11_init_94 (fun σ_131 H locs hf E_132 G => ?_)
  refine lv_aload_n hx hb dX11_init_97 rfl (lv_at hl 0 rfl) ?_
  refine lv_bipush (v := (15 : Int32)) hx hb dX11_init_98 (by decide) ?_
  obtain ⟨hc_133, hf⟩ := aw_chk_some hf
  refine aw_newA (atype := .boolean) (t := 22) (ty := .boolean) (N := 15) X G E_132 rfl m_93 (by decide) rfl (fun _ _ h => h) (by decide) (by decide) (fun _ => rfl) (aw_a0z 15) (Nat.le_of_ble_eq_true rfl) (Nat.le_of_ble_eq_true rfl) (Nat.le_of_ble_eq_true rfl) hf dX11_init_100 (fun q_134 σ_135 d_136 ad_137 H hf hext_139 E_138 G => ?_)
  have ha_140 := (hext_139 _ hc_133).symm
  rw [ha_140]
  rw [ha_140] at hl
  obtain ⟨hc_141, hf⟩ := aw_chk_some hf
  refine pr_X11_47 hx hb G hown hnm E_138 hc_141 hf dX11_init_102 (fun σ_142 H locs hf E_143 G => ?_)
  refine lv_aload_n hx hb dX11_init_105 rfl (lv_at hl 0 rfl) ?_
  refine lv_sipush (v := (250 : Int32)) hx hb dX11_init_106 (by decide) ?_
  obtain ⟨hc_144, hf⟩ := aw_chk_some hf
  refine aw_newA (atype := .int) (t := 20) (ty := .int) (N := 250) X G E_143 rfl m_53 (by decide) rfl (fun _ _ h => h) (by decide) (by decide) (fun _ => rfl) (aw_a0i 250) (Nat.le_of_ble_eq_true rfl) (Nat.le_of_ble_eq_true rfl) (Nat.le_of_ble_eq_true rfl) hf dX11_init_109 (fun q_145 σ_146 d_147 ad_148 H hf hext_150 E_149 G => ?_)
  have ha_151 := (hext_150 _ hc_144).symm
  rw [ha_151]
  rw [ha_151] at hl
  obtain ⟨hc_152, hf⟩ := aw_chk_some hf
  refine pr_X11_50 hx hb G hown hnm E_149 hc_152 hf dX11_init_111 (fun σ_153 H locs hf E_154 G => ?_)
  refine lv_aload_n hx hb dX11_init_114 rfl (lv_at hl 0 rfl) ?_
  refine lv_bipush (v := (50 : Int32)) hx hb dX11_init_115 (by decide) ?_
  obtain ⟨hc_155, hf⟩ := aw_chk_some hf
  refine aw_newA (atype := .int) (t := 20) (ty := .int) (N := 50) X G E_154 rfl m_53 (by decide) rfl (fun _ _ h => h) (by decide) (by decide) (fun _ => rfl) (aw_a0i 50) (Nat.le_of_ble_eq_true rfl) (Nat.le_of_ble_eq_true rfl) (Nat.le_of_ble_eq_true rfl) hf dX11_init_117 (fun q_156 σ_157 d_158 ad_159 H hf hext_161 E_160 G => ?_)
  have ha_162 := (hext_161 _ hc_155).symm
  rw [ha_162]
  rw [ha_162] at hl
  obtain ⟨hc_163, hf⟩ := aw_chk_some hf
  refine pr_X11_53 hx hb G hown hnm E_160 hc_163 hf dX11_init_119 (fun σ_164 H locs hf E_165 G => ?_)
  refine lv_aload_n hx hb dX11_init_122 rfl (lv_at hl 0 rfl) ?_
  refine lv_iconst (v := (4 : Int32)) hx hb dX11_init_123 (by decide) ?_
  obtain ⟨hc_166, hf⟩ := aw_chk_some hf
  refine aw_newA (atype := .int) (t := 20) (ty := .int) (N := 4) X G E_165 rfl m_53 (by decide) rfl (fun _ _ h => h) (by decide) (by decide) (fun _ => rfl) (aw_a0i 4) (Nat.le_of_ble_eq_true rfl) (Nat.le_of_ble_eq_true rfl) (Nat.le_of_ble_eq_true rfl) hf dX11_init_124 (fun q_167 σ_168 d_169 ad_170 H hf hext_172 E_171 G => ?_)
  have ha_173 := (hext_172 _ hc_166).symm
  rw [ha_173]
  rw [ha_173] at hl
  obtain ⟨hc_174, hf⟩ := aw_chk_some hf
  refine pr_X11_56 hx hb G hown hnm E_171 hc_174 hf dX11_init_126 (fun σ_175 H locs hf E_176 G => ?_)
  refine lv_aload_n hx hb dX11_init_129 rfl (lv_at hl 0 rfl) ?_
  refine lv_iconst (v := (4 : Int32)) hx hb dX11_init_130 (by decide) ?_
  obtain ⟨hc_177, hf⟩ := aw_chk_some hf
  refine aw_newA (atype := .int) (t := 20) (ty := .int) (N := 4) X G E_176 rfl m_53 (by decide) rfl (fun _ _ h => h) (by decide) (by decide) (fun _ => rfl) (aw_a0i 4) (Nat.le_of_ble_eq_true rfl) (Nat.le_of_ble_eq_true rfl) (Nat.le_of_ble_eq_true rfl) hf dX11_init_131 (fun q_178 σ_179 d_180 ad_181 H hf hext_183 E_182 G => ?_)
  have ha_184 := (hext_183 _ hc_177).symm
  rw [ha_184]
  rw [ha_184] at hl
  obtain ⟨hc_185, hf⟩ := aw_chk_some hf
  refine pr_X11_59 hx hb G hown hnm E_182 hc_185 hf dX11_init_133 (fun σ_186 H locs hf E_187 G => ?_)
  refine lv_aload_n hx hb dX11_init_136 rfl (lv_at hl 0 rfl) ?_
  refine lv_iconst (v := (4 : Int32)) hx hb dX11_init_137 (by decide) ?_
  obtain ⟨hc_188, hf⟩ := aw_chk_some hf
  refine aw_newA (atype := .int) (t := 20) (ty := .int) (N := 4) X G E_187 rfl m_53 (by decide) rfl (fun _ _ h => h) (by decide) (by decide) (fun _ => rfl) (aw_a0i 4) (Nat.le_of_ble_eq_true rfl) (Nat.le_of_ble_eq_true rfl) (Nat.le_of_ble_eq_true rfl) hf dX11_init_138 (fun q_189 σ_190 d_191 ad_192 H hf hext_194 E_193 G => ?_)
  have ha_195 := (hext_194 _ hc_188).symm
  rw [ha_195]
  rw [ha_195] at hl
  obtain ⟨hc_196, hf⟩ := aw_chk_some hf
  refine pr_X11_62 hx hb G hown hnm E_193 hc_196 hf dX11_init_140 (fun σ_197 H locs hf E_198 G => ?_)
  refine lv_aload_n hx hb dX11_init_143 rfl (lv_at hl 0 rfl) ?_
  refine lv_sipush (v := (640 : Int32)) hx hb dX11_init_144 (by decide) ?_
  obtain ⟨hc_199, hf⟩ := aw_chk_some hf
  refine aw_newA (atype := .int) (t := 20) (ty := .int) (N := 640) X G E_198 rfl m_53 (by decide) rfl (fun _ _ h => h) (by decide) (by decide) (fun _ => rfl) (aw_a0i 640) (Nat.le_of_ble_eq_true rfl) (Nat.le_of_ble_eq_true rfl) (Nat.le_of_ble_eq_true rfl) hf dX11_init_147 (fun q_200 σ_201 d_202 ad_203 H hf hext_205 E_204 G => ?_)
  have ha_206 := (hext_205 _ hc_199).symm
  rw [ha_206]
  rw [ha_206] at hl
  obtain ⟨hc_207, hf⟩ := aw_chk_some hf
  refine pr_X11_65 hx hb G hown hnm E_204 hc_207 hf dX11_init_149 (fun σ_208 H locs hf E_209 G => ?_)
  refine lv_aload_n hx hb dX11_init_152 rfl (lv_at hl 0 rfl) ?_
  refine lv_bipush (v := (40 : Int32)) hx hb dX11_init_153 (by decide) ?_
  obtain ⟨hc_210, hf⟩ := aw_chk_some hf
  refine aw_newA (atype := .int) (t := 20) (ty := .int) (N := 40) X G E_209 rfl m_53 (by decide) rfl (fun _ _ h => h) (by decide) (by decide) (fun _ => rfl) (aw_a0i 40) (Nat.le_of_ble_eq_true rfl) (Nat.le_of_ble_eq_true rfl) (Nat.le_of_ble_eq_true rfl) hf dX11_init_155 (fun q_211 σ_212 d_213 ad_214 H hf hext_216 E_215 G => ?_)
  have ha_217 := (hext_216 _ hc_210).symm
  rw [ha_217]
  rw [ha_217] at hl
  obtain ⟨hc_218, hf⟩ := aw_chk_some hf
  refine pr_X11_68 hx hb G hown hnm E_215 hc_218 hf dX11_init_157 (fun σ_219 H locs hf E_220 G => ?_)
  refine lv_aload_n hx hb dX11_init_160 rfl (lv_at hl 0 rfl) ?_
  refine lv_iconst (v := (4 : Int32)) hx hb dX11_init_161 (by decide) ?_
  obtain ⟨hc_221, hf⟩ := aw_chk_some hf
  refine aw_newA (atype := .int) (t := 20) (ty := .int) (N := 4) X G E_220 rfl m_53 (by decide) rfl (fun _ _ h => h) (by decide) (by decide) (fun _ => rfl) (aw_a0i 4) (Nat.le_of_ble_eq_true rfl) (Nat.le_of_ble_eq_true rfl) (Nat.le_of_ble_eq_true rfl) hf dX11_init_162 (fun q_222 σ_223 d_224 ad_225 H hf hext_227 E_226 G => ?_)
  have ha_228 := (hext_227 _ hc_221).symm
  rw [ha_228]
  rw [ha_228] at hl
  obtain ⟨hc_229, hf⟩ := aw_chk_some hf
  refine pr_X11_71 hx hb G hown hnm E_226 hc_229 hf dX11_init_164 (fun σ_230 H locs hf E_231 G => ?_)
  refine lv_aload_n hx hb dX11_init_167 rfl (lv_at hl 0 rfl) ?_
  refine lv_bipush (v := (17 : Int32)) hx hb dX11_init_168 (by decide) ?_
  obtain ⟨hc_232, hf⟩ := aw_chk_some hf
  refine aw_newA (atype := .long) (t := 21) (ty := .long) (N := 17) X G E_231 rfl m_222 (by decide) rfl (fun _ _ h => h) (by decide) (by decide) (fun _ => rfl) (aw_a0l 17) (Nat.le_of_ble_eq_true rfl) (Nat.le_of_ble_eq_true rfl) (Nat.le_of_ble_eq_true rfl) hf dX11_init_170 (fun q_233 σ_234 d_235 ad_236 H hf hext_238 E_237 G => ?_)
  have ha_239 := (hext_238 _ hc_232).symm
  rw [ha_239]
  rw [ha_239] at hl
  obtain ⟨hc_240, hf⟩ := aw_chk_some hf
  refine pr_X11_74 hx hb G hown hnm E_237 hc_240 hf dX11_init_172 (fun σ_241 H locs hf E_242 G => ?_)
  refine lv_aload_n hx hb dX11_init_175 rfl (lv_at hl 0 rfl) ?_
  refine lv_bipush (v := (17 : Int32)) hx hb dX11_init_176 (by decide) ?_
  obtain ⟨hc_243, hf⟩ := aw_chk_some hf
  refine aw_newA (atype := .long) (t := 21) (ty := .long) (N := 17) X G E_242 rfl m_222 (by decide) rfl (fun _ _ h => h) (by decide) (by decide) (fun _ => rfl) (aw_a0l 17) (Nat.le_of_ble_eq_true rfl) (Nat.le_of_ble_eq_true rfl) (Nat.le_of_ble_eq_true rfl) hf dX11_init_178 (fun q_244 σ_245 d_246 ad_247 H hf hext_249 E_248 G => ?_)
  have ha_250 := (hext_249 _ hc_243).symm
  rw [ha_250]
  rw [ha_250] at hl
  obtain ⟨hc_251, hf⟩ := aw_chk_some hf
  refine pr_X11_78 hx hb G hown hnm E_248 hc_251 hf dX11_init_180 (fun σ_252 H locs hf E_253 G => ?_)
  refine lv_aload_n hx hb dX11_init_183 rfl (lv_at hl 0 rfl) ?_
  refine lv_bipush (v := (50 : Int32)) hx hb dX11_init_184 (by decide) ?_
  obtain ⟨hc_254, hf⟩ := aw_chk_some hf
  refine aw_newA (atype := .int) (t := 20) (ty := .int) (N := 50) X G E_253 rfl m_53 (by decide) rfl (fun _ _ h => h) (by decide) (by decide) (fun _ => rfl) (aw_a0i 50) (Nat.le_of_ble_eq_true rfl) (Nat.le_of_ble_eq_true rfl) (Nat.le_of_ble_eq_true rfl) hf dX11_init_186 (fun q_255 σ_256 d_257 ad_258 H hf hext_260 E_259 G => ?_)
  have ha_261 := (hext_260 _ hc_254).symm
  rw [ha_261]
  rw [ha_261] at hl
  obtain ⟨hc_262, hf⟩ := aw_chk_some hf
  refine pr_X11_81 hx hb G hown hnm E_259 hc_262 hf dX11_init_188 (fun σ_263 H locs hf E_264 G => ?_)
  refine lv_aload_n hx hb dX11_init_191 rfl (lv_at hl 0 rfl) ?_
  refine lv_bipush (v := (50 : Int32)) hx hb dX11_init_192 (by decide) ?_
  obtain ⟨hc_265, hf⟩ := aw_chk_some hf
  refine aw_newA (atype := .int) (t := 20) (ty := .int) (N := 50) X G E_264 rfl m_53 (by decide) rfl (fun _ _ h => h) (by decide) (by decide) (fun _ => rfl) (aw_a0i 50) (Nat.le_of_ble_eq_true rfl) (Nat.le_of_ble_eq_true rfl) (Nat.le_of_ble_eq_true rfl) hf dX11_init_194 (fun q_266 σ_267 d_268 ad_269 H hf hext_271 E_270 G => ?_)
  have ha_272 := (hext_271 _ hc_265).symm
  rw [ha_272]
  rw [ha_272] at hl
  obtain ⟨hc_273, hf⟩ := aw_chk_some hf
  refine pr_X11_84 hx hb G hown hnm E_270 hc_273 hf dX11_init_196 (fun σ_274 H locs hf E_275 G => ?_)
  refine lv_aload_n hx hb dX11_init_199 rfl (lv_at hl 0 rfl) ?_
  refine lv_bipush (v := (20 : Int32)) hx hb dX11_init_200 (by decide) ?_
  obtain ⟨hc_276, hf⟩ := aw_chk_some hf
  refine aw_newA (atype := .long) (t := 21) (ty := .long) (N := 20) X G E_275 rfl m_222 (by decide) rfl (fun _ _ h => h) (by decide) (by decide) (fun _ => rfl) (aw_a0l 20) (Nat.le_of_ble_eq_true rfl) (Nat.le_of_ble_eq_true rfl) (Nat.le_of_ble_eq_true rfl) hf dX11_init_202 (fun q_277 σ_278 d_279 ad_280 H hf hext_282 E_281 G => ?_)
  have ha_283 := (hext_282 _ hc_276).symm
  rw [ha_283]
  rw [ha_283] at hl
  obtain ⟨hc_284, hf⟩ := aw_chk_some hf
  refine pr_X11_87 hx hb G hown hnm E_281 hc_284 hf dX11_init_204 (fun σ_285 H locs hf E_286 G => ?_)
  refine lv_aload_n hx hb dX11_init_207 rfl (lv_at hl 0 rfl) ?_
  refine lv_sipush (v := (1024 : Int32)) hx hb dX11_init_208 (by decide) ?_
  obtain ⟨hc_287, hf⟩ := aw_chk_some hf
  refine aw_newA (atype := .int) (t := 20) (ty := .int) (N := 1024) X G E_286 rfl m_53 (by decide) rfl (fun _ _ h => h) (by decide) (by decide) (fun _ => rfl) (aw_a0i 1024) (Nat.le_of_ble_eq_true rfl) (Nat.le_of_ble_eq_true rfl) (Nat.le_of_ble_eq_true rfl) hf dX11_init_211 (fun q_288 σ_289 d_290 ad_291 H hf hext_293 E_292 G => ?_)
  have ha_294 := (hext_293 _ hc_287).symm
  rw [ha_294]
  rw [ha_294] at hl
  obtain ⟨hc_295, hf⟩ := aw_chk_some hf
  refine pr_X11_90 hx hb G hown hnm E_292 hc_295 hf dX11_init_213 (fun σ_296 H locs hf E_297 G => ?_)
  refine lv_aload_n hx hb dX11_init_216 rfl (lv_at hl 0 rfl) ?_
  refine lv_bipush (v := (17 : Int32)) hx hb dX11_init_217 (by decide) ?_
  obtain ⟨hc_298, hf⟩ := aw_chk_some hf
  refine aw_newA (atype := .int) (t := 20) (ty := .int) (N := 17) X G E_297 rfl m_53 (by decide) rfl (fun _ _ h => h) (by decide) (by decide) (fun _ => rfl) (aw_a0i 17) (Nat.le_of_ble_eq_true rfl) (Nat.le_of_ble_eq_true rfl) (Nat.le_of_ble_eq_true rfl) hf dX11_init_219 (fun q_299 σ_300 d_301 ad_302 H hf hext_304 E_303 G => ?_)
  have ha_305 := (hext_304 _ hc_298).symm
  rw [ha_305]
  rw [ha_305] at hl
  obtain ⟨hc_306, hf⟩ := aw_chk_some hf
  refine pr_X11_93 hx hb G hown hnm E_303 hc_306 hf dX11_init_221 (fun σ_307 H locs hf E_308 G => ?_)
  refine lv_iconst (v := (0 : Int32)) hx hb dX11_init_224 (by decide) ?_
  refine lv_istore_n (lv' := [(1, .int ((0 : Int32))), (0, .ref (ad_302 x0))]) hx hb dX11_init_225 rfl hl (by decide) rfl (fun ls hl => ?_)
  refine W.widen (k := 28) (n := 2650) (Nat.le_of_ble_eq_true rfl) (Nat.le_of_ble_eq_true rfl) ?_
  refine w_X11_init_L226 X aw_FU hf  (fun σ_313 d_314 hf ad_315 E_316 H locs ls hl G => ?_) E_308 (lv_sub hl [1, 0] rfl) G
  exact aw_retn X G E_316 hf dX11_init_270 (Nat.le_of_ble_eq_true rfl) (Nat.le_of_ble_eq_true rfl)
