def rm_L_does_0 : Room := { frames := 7, cells := 1, slots := 6, locals := 111 }
def f_L_does_0 (σ : Sg) (x0 : Nat) (x2 : Int32) (x3 : Int32) (x4 : Int32) (x5 : Int32) (x6 : Int32) (d : Dt) : Option (Int32 × Dt) :=
  aw_chk (aw_O σ 10 13 x0) ((f_X10_syllable σ x0 x2 d).bind (fun z_2 => aw_ct z_2 (fun e0 => if e0 = 1 then some ((-3000000 : Int32), z_2.2) else if e0 = 2 then some ((-2000000 : Int32), z_2.2) else if e0 = 3 then some ((-1000000 : Int32), z_2.2) else none) (fun v_4 => some (v_4, z_2.2))))
set_option maxHeartbeats 4000000 in
set_option maxRecDepth 100000 in
theorem c_L_does_0 (l : Launch) (hst : l.stackTraces = false) {σ : Sg} {x0 : Nat} {x2 : Int32} {x3 : Int32} {x4 : Int32} {x5 : Int32} {x6 : Int32} {d : Dt} {z : Int32 × Dt} (hf : f_L_does_0 σ x0 x2 x3 x4 x5 x6 d = some z) : aw_Mi l yL_does (Cond.codeWith yL_does cL_does 8 (some .int) [(0, 227, 228, 59), (0, 227, 233, 62), (0, 227, 238, 65)]) rm_L_does_0 (fun ad => [.ref (ad x0), .int ((0 : Int32)), .int x2, .int x3, .int x4, .int x5, .int x6]) σ d z := by
  intro D cA base ad
  refine aw_ofCW (own := RL) (cc := cL_does) (nL := 8) (ret := some .int) [(0, 227, 228, 59), (0, 227, 233, 62), (0, 227, 238, 65)] (by decide) rfl rfl ?_
  intro p e s m below meth c X hT G
  have hx := X.1; have hb := X.2.1; have hml := X.2.2.1; have hown := X.2.2.2.1
  refine aw_ls (lv := [(0, .ref (ad x0)), (1, .int ((0 : Int32))), (2, .int x2), (3, .int x3), (4, .int x4), (5, .int x5), (6, .int x6)]) (Nat.le_of_ble_eq_true rfl) rfl (fun ls hl => ?_)
  unfold f_L_does_0 at hf
  refine lv_iload_n hx hb dL_does_0 rfl (lv_at hl 1 rfl) ?_
  refine lv_if_ne (tgt := 12) hx hb dL_does_1 (by decide) (fun hc => ?_) (fun hc => ?_)
  · exact absurd hc (by decide)
  refine lv_aload_n hx hb dL_does_4 rfl (lv_at hl 0 rfl) ?_
  refine lv_iload_n hx hb dL_does_5 rfl (lv_at hl 2 rfl) ?_
  obtain ⟨hc_1, hf⟩ := aw_chk_some hf
  obtain ⟨z_2, hz_3, hf⟩ := aw_bind_some hf
  refine aw_CVI (As := [.int x2]) (rest := []) X G hl.1 cr_L_8 (c_X10_syllable l hst hz_3) rfl rfl rfl (by decide) hc_1 rfl ⟨(Nat.le_of_ble_eq_true rfl), (Nat.le_of_ble_eq_true rfl)⟩ (Nat.le_of_ble_eq_true rfl) dL_does_6 ⟨(Nat.le_of_ble_eq_true rfl), (Nat.le_of_ble_eq_true rfl)⟩ (fun e0 ce q9 H locs hz1 G hce hcv hcl => ?_) (fun v_4 H locs hz1 G => ?_)
  · have hf := aw_ct_l hz1 hf
    by_cases he : e0 = 1
    · have hf := aw_ite_t he hf
      subst he
      refine vx_catch (name := "java/lang/IndexOutOfBoundsException") hown [] (⟨0, 227, 228, 59⟩ : ExceptionTableEntry) [(⟨0, 227, 233, 62⟩ : ExceptionTableEntry), (⟨0, 227, 238, 65⟩ : ExceptionTableEntry)] (hT.trans rfl) (aw_hpass G.1 (fun _ h => nomatch h)) (by decide) (by decide) (G.1.hts _ m_310) (aw_cast G.1 (by decide)) hce hcv hcl ?_
      refine W.eq (g2 := F0 m 228 ls [.ref q9]) rfl ?_
      refine lv_astore (lv' := [(7, .ref q9), (0, .ref (ad x0)), (1, .int ((0 : Int32))), (2, .int x2), (3, .int x3), (4, .int x4), (5, .int x5), (6, .int x6)]) hx hb dL_does_228 hl (by decide) rfl (fun ls hl => ?_)
      refine lv_ldc (v := (-3000000 : Int32)) hx hb hown (G.1.hts _ m_759) dL_does_230 ?_
      exact aw_retj X G hf dL_does_232 (Nat.le_of_ble_eq_true rfl) (Nat.le_of_ble_eq_true rfl)
    have hf := aw_ite_f he hf
    by_cases he : e0 = 2
    · have hf := aw_ite_t he hf
      subst he
      refine vx_catch (name := "java/lang/IllegalArgumentException") hown [(⟨0, 227, 228, 59⟩ : ExceptionTableEntry)] (⟨0, 227, 233, 62⟩ : ExceptionTableEntry) [(⟨0, 227, 238, 65⟩ : ExceptionTableEntry)] (hT.trans rfl) (aw_hpass G.1 (List.forall_mem_cons.mpr ⟨⟨by decide, "java/lang/IndexOutOfBoundsException", by decide, m_310, by decide, by decide⟩, (fun _ h => nomatch h)⟩)) (by decide) (by decide) (G.1.hts _ m_311) (aw_cast G.1 (by decide)) hce hcv hcl ?_
      refine W.eq (g2 := F0 m 233 ls [.ref q9]) rfl ?_
      refine lv_astore (lv' := [(7, .ref q9), (0, .ref (ad x0)), (1, .int ((0 : Int32))), (2, .int x2), (3, .int x3), (4, .int x4), (5, .int x5), (6, .int x6)]) hx hb dL_does_233 hl (by decide) rfl (fun ls hl => ?_)
      refine lv_ldc (v := (-2000000 : Int32)) hx hb hown (G.1.hts _ m_760) dL_does_235 ?_
      exact aw_retj X G hf dL_does_237 (Nat.le_of_ble_eq_true rfl) (Nat.le_of_ble_eq_true rfl)
    have hf := aw_ite_f he hf
    by_cases he : e0 = 3
    · have hf := aw_ite_t he hf
      subst he
      refine vx_catch (name := "java/lang/IllegalStateException") hown [(⟨0, 227, 228, 59⟩ : ExceptionTableEntry), (⟨0, 227, 233, 62⟩ : ExceptionTableEntry)] (⟨0, 227, 238, 65⟩ : ExceptionTableEntry) [] (hT.trans rfl) (aw_hpass G.1 (List.forall_mem_cons.mpr ⟨⟨by decide, "java/lang/IndexOutOfBoundsException", by decide, m_310, by decide, by decide⟩, (List.forall_mem_cons.mpr ⟨⟨by decide, "java/lang/IllegalArgumentException", by decide, m_311, by decide, by decide⟩, (fun _ h => nomatch h)⟩)⟩)) (by decide) (by decide) (G.1.hts _ m_312) (aw_cast G.1 (by decide)) hce hcv hcl ?_
      refine W.eq (g2 := F0 m 238 ls [.ref q9]) rfl ?_
      refine lv_astore (lv' := [(7, .ref q9), (0, .ref (ad x0)), (1, .int ((0 : Int32))), (2, .int x2), (3, .int x3), (4, .int x4), (5, .int x5), (6, .int x6)]) hx hb dL_does_238 hl (by decide) rfl (fun ls hl => ?_)
      refine lv_ldc (v := (-1000000 : Int32)) hx hb hown (G.1.hts _ m_761) dL_does_240 ?_
      exact aw_retj X G hf dL_does_242 (Nat.le_of_ble_eq_true rfl) (Nat.le_of_ble_eq_true rfl)
    have hf := aw_ite_f he hf
    cases hf
  have hf := aw_ct_r hz1 hf
  refine lv_goto (tgt := 227) hx hb dL_does_9 (by decide) ?_
  exact aw_retj X G hf dL_does_227 (Nat.le_of_ble_eq_true rfl) (Nat.le_of_ble_eq_true rfl)
def rm_L_does_1 : Room := { frames := 7, cells := 1, slots := 6, locals := 112 }
def f_L_does_1 (σ : Sg) (x0 : Nat) (x2 : Int32) (x3 : Int32) (x4 : Int32) (x5 : Int32) (x6 : Int32) (d : Dt) : Option (Int32 × Dt) :=
  aw_chk (aw_O σ 10 13 x0) ((f_X10_word σ x0 x2 d).bind (fun z_2 => aw_ct z_2 (fun e0 => if e0 = 1 then some ((-3000000 : Int32), z_2.2) else if e0 = 2 then some ((-2000000 : Int32), z_2.2) else if e0 = 3 then some ((-1000000 : Int32), z_2.2) else none) (fun v_4 => some (v_4, z_2.2))))
set_option maxHeartbeats 4000000 in
set_option maxRecDepth 100000 in
theorem c_L_does_1 (l : Launch) (hst : l.stackTraces = false) {σ : Sg} {x0 : Nat} {x2 : Int32} {x3 : Int32} {x4 : Int32} {x5 : Int32} {x6 : Int32} {d : Dt} {z : Int32 × Dt} (hf : f_L_does_1 σ x0 x2 x3 x4 x5 x6 d = some z) : aw_Mi l yL_does (Cond.codeWith yL_does cL_does 8 (some .int) [(0, 227, 228, 59), (0, 227, 233, 62), (0, 227, 238, 65)]) rm_L_does_1 (fun ad => [.ref (ad x0), .int ((1 : Int32)), .int x2, .int x3, .int x4, .int x5, .int x6]) σ d z := by
  intro D cA base ad
  refine aw_ofCW (own := RL) (cc := cL_does) (nL := 8) (ret := some .int) [(0, 227, 228, 59), (0, 227, 233, 62), (0, 227, 238, 65)] (by decide) rfl rfl ?_
  intro p e s m below meth c X hT G
  have hx := X.1; have hb := X.2.1; have hml := X.2.2.1; have hown := X.2.2.2.1
  refine aw_ls (lv := [(0, .ref (ad x0)), (1, .int ((1 : Int32))), (2, .int x2), (3, .int x3), (4, .int x4), (5, .int x5), (6, .int x6)]) (Nat.le_of_ble_eq_true rfl) rfl (fun ls hl => ?_)
  unfold f_L_does_1 at hf
  refine lv_iload_n hx hb dL_does_0 rfl (lv_at hl 1 rfl) ?_
  refine lv_if_ne (tgt := 12) hx hb dL_does_1 (by decide) (fun hc => ?_) (fun hc => ?_)
  rotate_left
  · exact absurd hc (by decide)
  refine lv_iload_n hx hb dL_does_12 rfl (lv_at hl 1 rfl) ?_
  refine lv_iconst (v := (1 : Int32)) hx hb dL_does_13 (by decide) ?_
  refine lv_icmp_ne (tgt := 25) hx hb dL_does_14 (by decide) (fun hc => ?_) (fun hc => ?_)
  · exact absurd hc (by decide)
  refine lv_aload_n hx hb dL_does_17 rfl (lv_at hl 0 rfl) ?_
  refine lv_iload_n hx hb dL_does_18 rfl (lv_at hl 2 rfl) ?_
  obtain ⟨hc_1, hf⟩ := aw_chk_some hf
  obtain ⟨z_2, hz_3, hf⟩ := aw_bind_some hf
  refine aw_CVI (As := [.int x2]) (rest := []) X G hl.1 cr_L_14 (c_X10_word l hst hz_3) rfl rfl rfl (by decide) hc_1 rfl ⟨(Nat.le_of_ble_eq_true rfl), (Nat.le_of_ble_eq_true rfl)⟩ (Nat.le_of_ble_eq_true rfl) dL_does_19 ⟨(Nat.le_of_ble_eq_true rfl), (Nat.le_of_ble_eq_true rfl)⟩ (fun e0 ce q9 H locs hz1 G hce hcv hcl => ?_) (fun v_4 H locs hz1 G => ?_)
  · have hf := aw_ct_l hz1 hf
    by_cases he : e0 = 1
    · have hf := aw_ite_t he hf
      subst he
      refine vx_catch (name := "java/lang/IndexOutOfBoundsException") hown [] (⟨0, 227, 228, 59⟩ : ExceptionTableEntry) [(⟨0, 227, 233, 62⟩ : ExceptionTableEntry), (⟨0, 227, 238, 65⟩ : ExceptionTableEntry)] (hT.trans rfl) (aw_hpass G.1 (fun _ h => nomatch h)) (by decide) (by decide) (G.1.hts _ m_310) (aw_cast G.1 (by decide)) hce hcv hcl ?_
      refine W.eq (g2 := F0 m 228 ls [.ref q9]) rfl ?_
      refine lv_astore (lv' := [(7, .ref q9), (0, .ref (ad x0)), (1, .int ((1 : Int32))), (2, .int x2), (3, .int x3), (4, .int x4), (5, .int x5), (6, .int x6)]) hx hb dL_does_228 hl (by decide) rfl (fun ls hl => ?_)
      refine lv_ldc (v := (-3000000 : Int32)) hx hb hown (G.1.hts _ m_759) dL_does_230 ?_
      exact aw_retj X G hf dL_does_232 (Nat.le_of_ble_eq_true rfl) (Nat.le_of_ble_eq_true rfl)
    have hf := aw_ite_f he hf
    by_cases he : e0 = 2
    · have hf := aw_ite_t he hf
      subst he
      refine vx_catch (name := "java/lang/IllegalArgumentException") hown [(⟨0, 227, 228, 59⟩ : ExceptionTableEntry)] (⟨0, 227, 233, 62⟩ : ExceptionTableEntry) [(⟨0, 227, 238, 65⟩ : ExceptionTableEntry)] (hT.trans rfl) (aw_hpass G.1 (List.forall_mem_cons.mpr ⟨⟨by decide, "java/lang/IndexOutOfBoundsException", by decide, m_310, by decide, by decide⟩, (fun _ h => nomatch h)⟩)) (by decide) (by decide) (G.1.hts _ m_311) (aw_cast G.1 (by decide)) hce hcv hcl ?_
      refine W.eq (g2 := F0 m 233 ls [.ref q9]) rfl ?_
      refine lv_astore (lv' := [(7, .ref q9), (0, .ref (ad x0)), (1, .int ((1 : Int32))), (2, .int x2), (3, .int x3), (4, .int x4), (5, .int x5), (6, .int x6)]) hx hb dL_does_233 hl (by decide) rfl (fun ls hl => ?_)
      refine lv_ldc (v := (-2000000 : Int32)) hx hb hown (G.1.hts _ m_760) dL_does_235 ?_
      exact aw_retj X G hf dL_does_237 (Nat.le_of_ble_eq_true rfl) (Nat.le_of_ble_eq_true rfl)
    have hf := aw_ite_f he hf
    by_cases he : e0 = 3
    · have hf := aw_ite_t he hf
      subst he
      refine vx_catch (name := "java/lang/IllegalStateException") hown [(⟨0, 227, 228, 59⟩ : ExceptionTableEntry), (⟨0, 227, 233, 62⟩ : ExceptionTableEntry)] (⟨0, 227, 238, 65⟩ : ExceptionTableEntry) [] (hT.trans rfl) (aw_hpass G.1 (List.forall_mem_cons.mpr ⟨⟨by decide, "java/lang/IndexOutOfBoundsException", by decide, m_310, by decide, by decide⟩, (List.forall_mem_cons.mpr ⟨⟨by decide, "java/lang/IllegalArgumentException", by decide, m_311, by decide, by decide⟩, (fun _ h => nomatch h)⟩)⟩)) (by decide) (by decide) (G.1.hts _ m_312) (aw_cast G.1 (by decide)) hce hcv hcl ?_
      refine W.eq (g2 := F0 m 238 ls [.ref q9]) rfl ?_
      refine lv_astore (lv' := [(7, .ref q9), (0, .ref (ad x0)), (1, .int ((1 : Int32))), (2, .int x2), (3, .int x3), (4, .int x4), (5, .int x5), (6, .int x6)]) hx hb dL_does_238 hl (by decide) rfl (fun ls hl => ?_)
      refine lv_ldc (v := (-1000000 : Int32)) hx hb hown (G.1.hts _ m_761) dL_does_240 ?_
      exact aw_retj X G hf dL_does_242 (Nat.le_of_ble_eq_true rfl) (Nat.le_of_ble_eq_true rfl)
    have hf := aw_ite_f he hf
    cases hf
  have hf := aw_ct_r hz1 hf
  refine lv_goto (tgt := 227) hx hb dL_does_22 (by decide) ?_
  exact aw_retj X G hf dL_does_227 (Nat.le_of_ble_eq_true rfl) (Nat.le_of_ble_eq_true rfl)
def rm_L_does_2 : Room := { frames := 8, cells := 2, slots := 12, locals := 137 }
def f_L_does_2 (σ : Sg) (x0 : Nat) (x2 : Int32) (x3 : Int32) (x4 : Int32) (x5 : Int32) (x6 : Int32) (d : Dt) : Option (Int32 × Dt) :=
  if x6 = ((1 : Int32)) then aw_chk (aw_O σ 10 13 x0) ((f_X10_change σ x0 x2 x3 x4 x5 ((1 : Int32)) d).bind (fun z_6 => aw_ct z_6 (fun e0 => if e0 = 1 then some ((-3000000 : Int32), z_6.2) else if e0 = 2 then some ((-2000000 : Int32), z_6.2) else if e0 = 3 then some ((-1000000 : Int32), z_6.2) else none) (fun v_8 => some (v_8, z_6.2)))) else aw_chk (aw_O σ 10 13 x0) ((f_X10_change σ x0 x2 x3 x4 x5 ((0 : Int32)) d).bind (fun z_2 => aw_ct z_2 (fun e0 => if e0 = 1 then some ((-3000000 : Int32), z_2.2) else if e0 = 2 then some ((-2000000 : Int32), z_2.2) else if e0 = 3 then some ((-1000000 : Int32), z_2.2) else none) (fun v_4 => some (v_4, z_2.2))))
set_option maxHeartbeats 4000000 in
set_option maxRecDepth 100000 in
theorem c_L_does_2 (l : Launch) (hst : l.stackTraces = false) {σ : Sg} {x0 : Nat} {x2 : Int32} {x3 : Int32} {x4 : Int32} {x5 : Int32} {x6 : Int32} {d : Dt} {z : Int32 × Dt} (hf : f_L_does_2 σ x0 x2 x3 x4 x5 x6 d = some z) : aw_Mi l yL_does (Cond.codeWith yL_does cL_does 8 (some .int) [(0, 227, 228, 59), (0, 227, 233, 62), (0, 227, 238, 65)]) rm_L_does_2 (fun ad => [.ref (ad x0), .int ((2 : Int32)), .int x2, .int x3, .int x4, .int x5, .int x6]) σ d z := by
  intro D cA base ad
  refine aw_ofCW (own := RL) (cc := cL_does) (nL := 8) (ret := some .int) [(0, 227, 228, 59), (0, 227, 233, 62), (0, 227, 238, 65)] (by decide) rfl rfl ?_
  intro p e s m below meth c X hT G
  have hx := X.1; have hb := X.2.1; have hml := X.2.2.1; have hown := X.2.2.2.1
  refine aw_ls (lv := [(0, .ref (ad x0)), (1, .int ((2 : Int32))), (2, .int x2), (3, .int x3), (4, .int x4), (5, .int x5), (6, .int x6)]) (Nat.le_of_ble_eq_true rfl) rfl (fun ls hl => ?_)
  unfold f_L_does_2 at hf
  refine lv_iload_n hx hb dL_does_0 rfl (lv_at hl 1 rfl) ?_
  refine lv_if_ne (tgt := 12) hx hb dL_does_1 (by decide) (fun hc => ?_) (fun hc => ?_)
  rotate_left
  · exact absurd hc (by decide)
  refine lv_iload_n hx hb dL_does_12 rfl (lv_at hl 1 rfl) ?_
  refine lv_iconst (v := (1 : Int32)) hx hb dL_does_13 (by decide) ?_
  refine lv_icmp_ne (tgt := 25) hx hb dL_does_14 (by decide) (fun hc => ?_) (fun hc => ?_)
  rotate_left
  · exact absurd hc (by decide)
  refine lv_iload_n hx hb dL_does_25 rfl (lv_at hl 1 rfl) ?_
  refine lv_iconst (v := (2 : Int32)) hx hb dL_does_26 (by decide) ?_
  refine lv_icmp_ne (tgt := 54) hx hb dL_does_27 (by decide) (fun hc => ?_) (fun hc => ?_)
  · exact absurd hc (by decide)
  refine lv_aload_n hx hb dL_does_30 rfl (lv_at hl 0 rfl) ?_
  refine lv_iload_n hx hb dL_does_31 rfl (lv_at hl 2 rfl) ?_
  refine lv_iload_n hx hb dL_does_32 rfl (lv_at hl 3 rfl) ?_
  refine lv_iload hx hb dL_does_33 (lv_at hl 4 rfl) ?_
  refine lv_iload hx hb dL_does_35 (lv_at hl 5 rfl) ?_
  refine lv_iload hx hb dL_does_37 (lv_at hl 6 rfl) ?_
  refine lv_iconst (v := (1 : Int32)) hx hb dL_does_39 (by decide) ?_
  refine lv_icmp_ne (tgt := 47) hx hb dL_does_40 (by decide) (fun hc => ?_) (fun hc => ?_)
  · have hf := aw_ite_f hc hf
    refine lv_iconst (v := (0 : Int32)) hx hb dL_does_47 (by decide) ?_
    obtain ⟨hc_1, hf⟩ := aw_chk_some hf
    obtain ⟨z_2, hz_3, hf⟩ := aw_bind_some hf
    refine aw_CVI (As := [.int x2, .int x3, .int x4, .int x5, .int ((0 : Int32))]) (rest := []) X G hl.1 cr_L_17 (c_X10_change l hst hz_3) rfl rfl rfl (by decide) hc_1 rfl ⟨(Nat.le_of_ble_eq_true rfl), (Nat.le_of_ble_eq_true rfl)⟩ (Nat.le_of_ble_eq_true rfl) dL_does_48 ⟨(Nat.le_of_ble_eq_true rfl), (Nat.le_of_ble_eq_true rfl)⟩ (fun e0 ce q9 H locs hz1 G hce hcv hcl => ?_) (fun v_4 H locs hz1 G => ?_)
    · have hf := aw_ct_l hz1 hf
      by_cases he : e0 = 1
      · have hf := aw_ite_t he hf
        subst he
        refine vx_catch (name := "java/lang/IndexOutOfBoundsException") hown [] (⟨0, 227, 228, 59⟩ : ExceptionTableEntry) [(⟨0, 227, 233, 62⟩ : ExceptionTableEntry), (⟨0, 227, 238, 65⟩ : ExceptionTableEntry)] (hT.trans rfl) (aw_hpass G.1 (fun _ h => nomatch h)) (by decide) (by decide) (G.1.hts _ m_310) (aw_cast G.1 (by decide)) hce hcv hcl ?_
        refine W.eq (g2 := F0 m 228 ls [.ref q9]) rfl ?_
        refine lv_astore (lv' := [(7, .ref q9), (0, .ref (ad x0)), (1, .int ((2 : Int32))), (2, .int x2), (3, .int x3), (4, .int x4), (5, .int x5), (6, .int x6)]) hx hb dL_does_228 hl (by decide) rfl (fun ls hl => ?_)
        refine lv_ldc (v := (-3000000 : Int32)) hx hb hown (G.1.hts _ m_759) dL_does_230 ?_
        exact aw_retj X G hf dL_does_232 (Nat.le_of_ble_eq_true rfl) (Nat.le_of_ble_eq_true rfl)
      have hf := aw_ite_f he hf
      by_cases he : e0 = 2
      · have hf := aw_ite_t he hf
        subst he
        refine vx_catch (name := "java/lang/IllegalArgumentException") hown [(⟨0, 227, 228, 59⟩ : ExceptionTableEntry)] (⟨0, 227, 233, 62⟩ : ExceptionTableEntry) [(⟨0, 227, 238, 65⟩ : ExceptionTableEntry)] (hT.trans rfl) (aw_hpass G.1 (List.forall_mem_cons.mpr ⟨⟨by decide, "java/lang/IndexOutOfBoundsException", by decide, m_310, by decide, by decide⟩, (fun _ h => nomatch h)⟩)) (by decide) (by decide) (G.1.hts _ m_311) (aw_cast G.1 (by decide)) hce hcv hcl ?_
        refine W.eq (g2 := F0 m 233 ls [.ref q9]) rfl ?_
        refine lv_astore (lv' := [(7, .ref q9), (0, .ref (ad x0)), (1, .int ((2 : Int32))), (2, .int x2), (3, .int x3), (4, .int x4), (5, .int x5), (6, .int x6)]) hx hb dL_does_233 hl (by decide) rfl (fun ls hl => ?_)
        refine lv_ldc (v := (-2000000 : Int32)) hx hb hown (G.1.hts _ m_760) dL_does_235 ?_
        exact aw_retj X G hf dL_does_237 (Nat.le_of_ble_eq_true rfl) (Nat.le_of_ble_eq_true rfl)
      have hf := aw_ite_f he hf
      by_cases he : e0 = 3
      · have hf := aw_ite_t he hf
        subst he
        refine vx_catch (name := "java/lang/IllegalStateException") hown [(⟨0, 227, 228, 59⟩ : ExceptionTableEntry), (⟨0, 227, 233, 62⟩ : ExceptionTableEntry)] (⟨0, 227, 238, 65⟩ : ExceptionTableEntry) [] (hT.trans rfl) (aw_hpass G.1 (List.forall_mem_cons.mpr ⟨⟨by decide, "java/lang/IndexOutOfBoundsException", by decide, m_310, by decide, by decide⟩, (List.forall_mem_cons.mpr ⟨⟨by decide, "java/lang/IllegalArgumentException", by decide, m_311, by decide, by decide⟩, (fun _ h => nomatch h)⟩)⟩)) (by decide) (by decide) (G.1.hts _ m_312) (aw_cast G.1 (by decide)) hce hcv hcl ?_
        refine W.eq (g2 := F0 m 238 ls [.ref q9]) rfl ?_
        refine lv_astore (lv' := [(7, .ref q9), (0, .ref (ad x0)), (1, .int ((2 : Int32))), (2, .int x2), (3, .int x3), (4, .int x4), (5, .int x5), (6, .int x6)]) hx hb dL_does_238 hl (by decide) rfl (fun ls hl => ?_)
        refine lv_ldc (v := (-1000000 : Int32)) hx hb hown (G.1.hts _ m_761) dL_does_240 ?_
        exact aw_retj X G hf dL_does_242 (Nat.le_of_ble_eq_true rfl) (Nat.le_of_ble_eq_true rfl)
      have hf := aw_ite_f he hf
      cases hf
    have hf := aw_ct_r hz1 hf
    refine lv_goto (tgt := 227) hx hb dL_does_51 (by decide) ?_
    exact aw_retj X G hf dL_does_227 (Nat.le_of_ble_eq_true rfl) (Nat.le_of_ble_eq_true rfl)
  · have hf := aw_ite_t hc hf
    refine lv_iconst (v := (1 : Int32)) hx hb dL_does_43 (by decide) ?_
    refine lv_goto (tgt := 48) hx hb dL_does_44 (by decide) ?_
    obtain ⟨hc_5, hf⟩ := aw_chk_some hf
    obtain ⟨z_6, hz_7, hf⟩ := aw_bind_some hf
    refine aw_CVI (As := [.int x2, .int x3, .int x4, .int x5, .int ((1 : Int32))]) (rest := []) X G hl.1 cr_L_17 (c_X10_change l hst hz_7) rfl rfl rfl (by decide) hc_5 rfl ⟨(Nat.le_of_ble_eq_true rfl), (Nat.le_of_ble_eq_true rfl)⟩ (Nat.le_of_ble_eq_true rfl) dL_does_48 ⟨(Nat.le_of_ble_eq_true rfl), (Nat.le_of_ble_eq_true rfl)⟩ (fun e0 ce q9 H locs hz1 G hce hcv hcl => ?_) (fun v_8 H locs hz1 G => ?_)
    · have hf := aw_ct_l hz1 hf
      by_cases he : e0 = 1
      · have hf := aw_ite_t he hf
        subst he
        refine vx_catch (name := "java/lang/IndexOutOfBoundsException") hown [] (⟨0, 227, 228, 59⟩ : ExceptionTableEntry) [(⟨0, 227, 233, 62⟩ : ExceptionTableEntry), (⟨0, 227, 238, 65⟩ : ExceptionTableEntry)] (hT.trans rfl) (aw_hpass G.1 (fun _ h => nomatch h)) (by decide) (by decide) (G.1.hts _ m_310) (aw_cast G.1 (by decide)) hce hcv hcl ?_
        refine W.eq (g2 := F0 m 228 ls [.ref q9]) rfl ?_
        refine lv_astore (lv' := [(7, .ref q9), (0, .ref (ad x0)), (1, .int ((2 : Int32))), (2, .int x2), (3, .int x3), (4, .int x4), (5, .int x5), (6, .int x6)]) hx hb dL_does_228 hl (by decide) rfl (fun ls hl => ?_)
        refine lv_ldc (v := (-3000000 : Int32)) hx hb hown (G.1.hts _ m_759) dL_does_230 ?_
        exact aw_retj X G hf dL_does_232 (Nat.le_of_ble_eq_true rfl) (Nat.le_of_ble_eq_true rfl)
      have hf := aw_ite_f he hf
      by_cases he : e0 = 2
      · have hf := aw_ite_t he hf
        subst he
        refine vx_catch (name := "java/lang/IllegalArgumentException") hown [(⟨0, 227, 228, 59⟩ : ExceptionTableEntry)] (⟨0, 227, 233, 62⟩ : ExceptionTableEntry) [(⟨0, 227, 238, 65⟩ : ExceptionTableEntry)] (hT.trans rfl) (aw_hpass G.1 (List.forall_mem_cons.mpr ⟨⟨by decide, "java/lang/IndexOutOfBoundsException", by decide, m_310, by decide, by decide⟩, (fun _ h => nomatch h)⟩)) (by decide) (by decide) (G.1.hts _ m_311) (aw_cast G.1 (by decide)) hce hcv hcl ?_
        refine W.eq (g2 := F0 m 233 ls [.ref q9]) rfl ?_
        refine lv_astore (lv' := [(7, .ref q9), (0, .ref (ad x0)), (1, .int ((2 : Int32))), (2, .int x2), (3, .int x3), (4, .int x4), (5, .int x5), (6, .int x6)]) hx hb dL_does_233 hl (by decide) rfl (fun ls hl => ?_)
        refine lv_ldc (v := (-2000000 : Int32)) hx hb hown (G.1.hts _ m_760) dL_does_235 ?_
        exact aw_retj X G hf dL_does_237 (Nat.le_of_ble_eq_true rfl) (Nat.le_of_ble_eq_true rfl)
      have hf := aw_ite_f he hf
      by_cases he : e0 = 3
      · have hf := aw_ite_t he hf
        subst he
        refine vx_catch (name := "java/lang/IllegalStateException") hown [(⟨0, 227, 228, 59⟩ : ExceptionTableEntry), (⟨0, 227, 233, 62⟩ : ExceptionTableEntry)] (⟨0, 227, 238, 65⟩ : ExceptionTableEntry) [] (hT.trans rfl) (aw_hpass G.1 (List.forall_mem_cons.mpr ⟨⟨by decide, "java/lang/IndexOutOfBoundsException", by decide, m_310, by decide, by decide⟩, (List.forall_mem_cons.mpr ⟨⟨by decide, "java/lang/IllegalArgumentException", by decide, m_311, by decide, by decide⟩, (fun _ h => nomatch h)⟩)⟩)) (by decide) (by decide) (G.1.hts _ m_312) (aw_cast G.1 (by decide)) hce hcv hcl ?_
        refine W.eq (g2 := F0 m 238 ls [.ref q9]) rfl ?_
        refine lv_astore (lv' := [(7, .ref q9), (0, .ref (ad x0)), (1, .int ((2 : Int32))), (2, .int x2), (3, .int x3), (4, .int x4), (5, .int x5), (6, .int x6)]) hx hb dL_does_238 hl (by decide) rfl (fun ls hl => ?_)
        refine lv_ldc (v := (-1000000 : Int32)) hx hb hown (G.1.hts _ m_761) dL_does_240 ?_
        exact aw_retj X G hf dL_does_242 (Nat.le_of_ble_eq_true rfl) (Nat.le_of_ble_eq_true rfl)
      have hf := aw_ite_f he hf
      cases hf
    have hf := aw_ct_r hz1 hf
    refine lv_goto (tgt := 227) hx hb dL_does_51 (by decide) ?_
    exact aw_retj X G hf dL_does_227 (Nat.le_of_ble_eq_true rfl) (Nat.le_of_ble_eq_true rfl)
def rm_L_does_3 : Room := { frames := 7, cells := 4, slots := 105, locals := 112 }
def f_L_does_3 (x0 : Nat) (x2 : Int32) (x3 : Int32) (x4 : Int32) (x5 : Int32) (x6 : Int32) (σ : Sg) (d : Dt) : Option (Int32 × (Sg × Dt)) :=
  aw_chk (aw_O σ 10 13 x0) (aw_chk (x0 < σ.1) ((f_X10_design x0 x2 x3 σ d).bind (fun z_3 => aw_cd z_3 (fun e0 => if e0 = 1 then some ((-3000000 : Int32), z_3.2.1, z_3.2.2) else if e0 = 2 then some ((-2000000 : Int32), z_3.2.1, z_3.2.2) else if e0 = 3 then some ((-1000000 : Int32), z_3.2.1, z_3.2.2) else none) (fun v_5 => some (v_5, z_3.2.1, z_3.2.2)))))
set_option maxHeartbeats 4000000 in
set_option maxRecDepth 100000 in
theorem c_L_does_3 (l : Launch) (hst : l.stackTraces = false) {σ : Sg} {x0 : Nat} {x2 : Int32} {x3 : Int32} {x4 : Int32} {x5 : Int32} {x6 : Int32} {d : Dt} {z : Int32 × (Sg × Dt)} (hf : f_L_does_3 x0 x2 x3 x4 x5 x6 σ d = some z) : aw_Md l yL_does (Cond.codeWith yL_does cL_does 8 (some .int) [(0, 227, 228, 59), (0, 227, 233, 62), (0, 227, 238, 65)]) rm_L_does_3 (fun ad => [.ref (ad x0), .int ((3 : Int32)), .int x2, .int x3, .int x4, .int x5, .int x6]) σ d z := by
  intro hwf D cA base ad
  refine aw_ofCW (own := RL) (cc := cL_does) (nL := 8) (ret := some .int) [(0, 227, 228, 59), (0, 227, 233, 62), (0, 227, 238, 65)] (by decide) rfl rfl ?_
  intro p e s m below meth c X hT G
  have hx := X.1; have hb := X.2.1; have hml := X.2.2.1; have hown := X.2.2.2.1
  have E : aw_ext σ ad σ ad := aw_ext.rf hwf
  refine aw_ls (lv := [(0, .ref (ad x0)), (1, .int ((3 : Int32))), (2, .int x2), (3, .int x3), (4, .int x4), (5, .int x5), (6, .int x6)]) (Nat.le_of_ble_eq_true rfl) rfl (fun ls hl => ?_)
  generalize ([.ref (ad x0), .int ((3 : Int32)), .int x2, .int x3, .int x4, .int x5, .int x6] : List Value).toArray = args0
  unfold f_L_does_3 at hf
  refine lv_iload_n hx hb dL_does_0 rfl (lv_at hl 1 rfl) ?_
  refine lv_if_ne (tgt := 12) hx hb dL_does_1 (by decide) (fun hc => ?_) (fun hc => ?_)
  rotate_left
  · exact absurd hc (by decide)
  refine lv_iload_n hx hb dL_does_12 rfl (lv_at hl 1 rfl) ?_
  refine lv_iconst (v := (1 : Int32)) hx hb dL_does_13 (by decide) ?_
  refine lv_icmp_ne (tgt := 25) hx hb dL_does_14 (by decide) (fun hc => ?_) (fun hc => ?_)
  rotate_left
  · exact absurd hc (by decide)
  refine lv_iload_n hx hb dL_does_25 rfl (lv_at hl 1 rfl) ?_
  refine lv_iconst (v := (2 : Int32)) hx hb dL_does_26 (by decide) ?_
  refine lv_icmp_ne (tgt := 54) hx hb dL_does_27 (by decide) (fun hc => ?_) (fun hc => ?_)
  rotate_left
  · exact absurd hc (by decide)
  refine lv_iload_n hx hb dL_does_54 rfl (lv_at hl 1 rfl) ?_
  refine lv_iconst (v := (3 : Int32)) hx hb dL_does_55 (by decide) ?_
  refine lv_icmp_ne (tgt := 68) hx hb dL_does_56 (by decide) (fun hc => ?_) (fun hc => ?_)
  · exact absurd hc (by decide)
  refine lv_aload_n hx hb dL_does_59 rfl (lv_at hl 0 rfl) ?_
  refine lv_iload_n hx hb dL_does_60 rfl (lv_at hl 2 rfl) ?_
  refine lv_iload_n hx hb dL_does_61 rfl (lv_at hl 3 rfl) ?_
  obtain ⟨hc_1, hf⟩ := aw_chk_some hf
  obtain ⟨hc_2, hf⟩ := aw_chk_some hf
  obtain ⟨z_3, hz_4, hf⟩ := aw_bind_some hf
  refine aw_CVD (As := [.int x2, .int x3]) (rest := []) X G E hl.1 cr_L_21 (c_X10_design l hst hz_4) rfl rfl rfl (by decide) hc_1 rfl ⟨(Nat.le_of_ble_eq_true rfl), (Nat.le_of_ble_eq_true rfl)⟩ (Nat.le_of_ble_eq_true rfl) dL_does_62 ⟨(Nat.le_of_ble_eq_true rfl), (Nat.le_of_ble_eq_true rfl)⟩ (fun e0 ce q9 ad_6 H locs hz1 hext_8 E_7 G hce hcv hcl => ?_) (fun v_5 ad_6 H locs hz1 hext_8 E_7 G => ?_)
  · have hf := aw_cd_l hz1 hf
    have ha_9 := (hext_8 _ hc_2).symm
    rw [ha_9] at hl
    by_cases he : e0 = 1
    · have hf := aw_ite_t he hf
      subst he
      refine vx_catch (name := "java/lang/IndexOutOfBoundsException") hown [] (⟨0, 227, 228, 59⟩ : ExceptionTableEntry) [(⟨0, 227, 233, 62⟩ : ExceptionTableEntry), (⟨0, 227, 238, 65⟩ : ExceptionTableEntry)] (hT.trans rfl) (aw_hpass G.1 (fun _ h => nomatch h)) (by decide) (by decide) (G.1.hts _ m_310) (aw_cast G.1 (by decide)) hce hcv hcl ?_
      refine W.eq (g2 := F0 m 228 ls [.ref q9]) rfl ?_
      refine lv_astore (lv' := [(7, .ref q9), (0, .ref (ad_6 x0)), (1, .int ((3 : Int32))), (2, .int x2), (3, .int x3), (4, .int x4), (5, .int x5), (6, .int x6)]) hx hb dL_does_228 hl (by decide) rfl (fun ls hl => ?_)
      refine lv_ldc (v := (-3000000 : Int32)) hx hb hown (G.1.hts _ m_759) dL_does_230 ?_
      exact aw_retk X G E_7 hf dL_does_232 (Nat.le_of_ble_eq_true rfl) (Nat.le_of_ble_eq_true rfl)
    have hf := aw_ite_f he hf
    by_cases he : e0 = 2
    · have hf := aw_ite_t he hf
      subst he
      refine vx_catch (name := "java/lang/IllegalArgumentException") hown [(⟨0, 227, 228, 59⟩ : ExceptionTableEntry)] (⟨0, 227, 233, 62⟩ : ExceptionTableEntry) [(⟨0, 227, 238, 65⟩ : ExceptionTableEntry)] (hT.trans rfl) (aw_hpass G.1 (List.forall_mem_cons.mpr ⟨⟨by decide, "java/lang/IndexOutOfBoundsException", by decide, m_310, by decide, by decide⟩, (fun _ h => nomatch h)⟩)) (by decide) (by decide) (G.1.hts _ m_311) (aw_cast G.1 (by decide)) hce hcv hcl ?_
      refine W.eq (g2 := F0 m 233 ls [.ref q9]) rfl ?_
      refine lv_astore (lv' := [(7, .ref q9), (0, .ref (ad_6 x0)), (1, .int ((3 : Int32))), (2, .int x2), (3, .int x3), (4, .int x4), (5, .int x5), (6, .int x6)]) hx hb dL_does_233 hl (by decide) rfl (fun ls hl => ?_)
      refine lv_ldc (v := (-2000000 : Int32)) hx hb hown (G.1.hts _ m_760) dL_does_235 ?_
      exact aw_retk X G E_7 hf dL_does_237 (Nat.le_of_ble_eq_true rfl) (Nat.le_of_ble_eq_true rfl)
    have hf := aw_ite_f he hf
    by_cases he : e0 = 3
    · have hf := aw_ite_t he hf
      subst he
      refine vx_catch (name := "java/lang/IllegalStateException") hown [(⟨0, 227, 228, 59⟩ : ExceptionTableEntry), (⟨0, 227, 233, 62⟩ : ExceptionTableEntry)] (⟨0, 227, 238, 65⟩ : ExceptionTableEntry) [] (hT.trans rfl) (aw_hpass G.1 (List.forall_mem_cons.mpr ⟨⟨by decide, "java/lang/IndexOutOfBoundsException", by decide, m_310, by decide, by decide⟩, (List.forall_mem_cons.mpr ⟨⟨by decide, "java/lang/IllegalArgumentException", by decide, m_311, by decide, by decide⟩, (fun _ h => nomatch h)⟩)⟩)) (by decide) (by decide) (G.1.hts _ m_312) (aw_cast G.1 (by decide)) hce hcv hcl ?_
      refine W.eq (g2 := F0 m 238 ls [.ref q9]) rfl ?_
      refine lv_astore (lv' := [(7, .ref q9), (0, .ref (ad_6 x0)), (1, .int ((3 : Int32))), (2, .int x2), (3, .int x3), (4, .int x4), (5, .int x5), (6, .int x6)]) hx hb dL_does_238 hl (by decide) rfl (fun ls hl => ?_)
      refine lv_ldc (v := (-1000000 : Int32)) hx hb hown (G.1.hts _ m_761) dL_does_240 ?_
      exact aw_retk X G E_7 hf dL_does_242 (Nat.le_of_ble_eq_true rfl) (Nat.le_of_ble_eq_true rfl)
    have hf := aw_ite_f he hf
    cases hf
  have hf := aw_cd_r hz1 hf
  have ha_10 := (hext_8 _ hc_2).symm
  rw [ha_10] at hl
  refine lv_goto (tgt := 227) hx hb dL_does_65 (by decide) ?_
  exact aw_retk X G E_7 hf dL_does_227 (Nat.le_of_ble_eq_true rfl) (Nat.le_of_ble_eq_true rfl)
def rm_L_does_4 : Room := { frames := 8, cells := 2, slots := 12, locals := 136 }
def f_L_does_4 (σ : Sg) (x0 : Nat) (x2 : Int32) (x3 : Int32) (x4 : Int32) (x5 : Int32) (x6 : Int32) (d : Dt) : Option (Int32 × Dt) :=
  if x5 = ((1 : Int32)) then aw_chk (aw_O σ 10 13 x0) ((f_X10_assign σ x0 x2 x3 x4 ((1 : Int32)) d).bind (fun z_6 => aw_ct z_6 (fun e0 => if e0 = 1 then some ((-3000000 : Int32), z_6.2) else if e0 = 2 then some ((-2000000 : Int32), z_6.2) else if e0 = 3 then some ((-1000000 : Int32), z_6.2) else none) (fun v_8 => some (v_8, z_6.2)))) else aw_chk (aw_O σ 10 13 x0) ((f_X10_assign σ x0 x2 x3 x4 ((0 : Int32)) d).bind (fun z_2 => aw_ct z_2 (fun e0 => if e0 = 1 then some ((-3000000 : Int32), z_2.2) else if e0 = 2 then some ((-2000000 : Int32), z_2.2) else if e0 = 3 then some ((-1000000 : Int32), z_2.2) else none) (fun v_4 => some (v_4, z_2.2))))
set_option maxHeartbeats 4000000 in
set_option maxRecDepth 100000 in
theorem c_L_does_4 (l : Launch) (hst : l.stackTraces = false) {σ : Sg} {x0 : Nat} {x2 : Int32} {x3 : Int32} {x4 : Int32} {x5 : Int32} {x6 : Int32} {d : Dt} {z : Int32 × Dt} (hf : f_L_does_4 σ x0 x2 x3 x4 x5 x6 d = some z) : aw_Mi l yL_does (Cond.codeWith yL_does cL_does 8 (some .int) [(0, 227, 228, 59), (0, 227, 233, 62), (0, 227, 238, 65)]) rm_L_does_4 (fun ad => [.ref (ad x0), .int ((4 : Int32)), .int x2, .int x3, .int x4, .int x5, .int x6]) σ d z := by
  intro D cA base ad
  refine aw_ofCW (own := RL) (cc := cL_does) (nL := 8) (ret := some .int) [(0, 227, 228, 59), (0, 227, 233, 62), (0, 227, 238, 65)] (by decide) rfl rfl ?_
  intro p e s m below meth c X hT G
  have hx := X.1; have hb := X.2.1; have hml := X.2.2.1; have hown := X.2.2.2.1
  refine aw_ls (lv := [(0, .ref (ad x0)), (1, .int ((4 : Int32))), (2, .int x2), (3, .int x3), (4, .int x4), (5, .int x5), (6, .int x6)]) (Nat.le_of_ble_eq_true rfl) rfl (fun ls hl => ?_)
  unfold f_L_does_4 at hf
  refine lv_iload_n hx hb dL_does_0 rfl (lv_at hl 1 rfl) ?_
  refine lv_if_ne (tgt := 12) hx hb dL_does_1 (by decide) (fun hc => ?_) (fun hc => ?_)
  rotate_left
  · exact absurd hc (by decide)
  refine lv_iload_n hx hb dL_does_12 rfl (lv_at hl 1 rfl) ?_
  refine lv_iconst (v := (1 : Int32)) hx hb dL_does_13 (by decide) ?_
  refine lv_icmp_ne (tgt := 25) hx hb dL_does_14 (by decide) (fun hc => ?_) (fun hc => ?_)
  rotate_left
  · exact absurd hc (by decide)
  refine lv_iload_n hx hb dL_does_25 rfl (lv_at hl 1 rfl) ?_
  refine lv_iconst (v := (2 : Int32)) hx hb dL_does_26 (by decide) ?_
  refine lv_icmp_ne (tgt := 54) hx hb dL_does_27 (by decide) (fun hc => ?_) (fun hc => ?_)
  rotate_left
  · exact absurd hc (by decide)
  refine lv_iload_n hx hb dL_does_54 rfl (lv_at hl 1 rfl) ?_
  refine lv_iconst (v := (3 : Int32)) hx hb dL_does_55 (by decide) ?_
  refine lv_icmp_ne (tgt := 68) hx hb dL_does_56 (by decide) (fun hc => ?_) (fun hc => ?_)
  rotate_left
  · exact absurd hc (by decide)
  refine lv_iload_n hx hb dL_does_68 rfl (lv_at hl 1 rfl) ?_
  refine lv_iconst (v := (4 : Int32)) hx hb dL_does_69 (by decide) ?_
  refine lv_icmp_ne (tgt := 95) hx hb dL_does_70 (by decide) (fun hc => ?_) (fun hc => ?_)
  · exact absurd hc (by decide)
  refine lv_aload_n hx hb dL_does_73 rfl (lv_at hl 0 rfl) ?_
  refine lv_iload_n hx hb dL_does_74 rfl (lv_at hl 2 rfl) ?_
  refine lv_iload_n hx hb dL_does_75 rfl (lv_at hl 3 rfl) ?_
  refine lv_iload hx hb dL_does_76 (lv_at hl 4 rfl) ?_
  refine lv_iload hx hb dL_does_78 (lv_at hl 5 rfl) ?_
  refine lv_iconst (v := (1 : Int32)) hx hb dL_does_80 (by decide) ?_
  refine lv_icmp_ne (tgt := 88) hx hb dL_does_81 (by decide) (fun hc => ?_) (fun hc => ?_)
  · have hf := aw_ite_f hc hf
    refine lv_iconst (v := (0 : Int32)) hx hb dL_does_88 (by decide) ?_
    obtain ⟨hc_1, hf⟩ := aw_chk_some hf
    obtain ⟨z_2, hz_3, hf⟩ := aw_bind_some hf
    refine aw_CVI (As := [.int x2, .int x3, .int x4, .int ((0 : Int32))]) (rest := []) X G hl.1 cr_L_25 (c_X10_assign l hst hz_3) rfl rfl rfl (by decide) hc_1 rfl ⟨(Nat.le_of_ble_eq_true rfl), (Nat.le_of_ble_eq_true rfl)⟩ (Nat.le_of_ble_eq_true rfl) dL_does_89 ⟨(Nat.le_of_ble_eq_true rfl), (Nat.le_of_ble_eq_true rfl)⟩ (fun e0 ce q9 H locs hz1 G hce hcv hcl => ?_) (fun v_4 H locs hz1 G => ?_)
    · have hf := aw_ct_l hz1 hf
      by_cases he : e0 = 1
      · have hf := aw_ite_t he hf
        subst he
        refine vx_catch (name := "java/lang/IndexOutOfBoundsException") hown [] (⟨0, 227, 228, 59⟩ : ExceptionTableEntry) [(⟨0, 227, 233, 62⟩ : ExceptionTableEntry), (⟨0, 227, 238, 65⟩ : ExceptionTableEntry)] (hT.trans rfl) (aw_hpass G.1 (fun _ h => nomatch h)) (by decide) (by decide) (G.1.hts _ m_310) (aw_cast G.1 (by decide)) hce hcv hcl ?_
        refine W.eq (g2 := F0 m 228 ls [.ref q9]) rfl ?_
        refine lv_astore (lv' := [(7, .ref q9), (0, .ref (ad x0)), (1, .int ((4 : Int32))), (2, .int x2), (3, .int x3), (4, .int x4), (5, .int x5), (6, .int x6)]) hx hb dL_does_228 hl (by decide) rfl (fun ls hl => ?_)
        refine lv_ldc (v := (-3000000 : Int32)) hx hb hown (G.1.hts _ m_759) dL_does_230 ?_
        exact aw_retj X G hf dL_does_232 (Nat.le_of_ble_eq_true rfl) (Nat.le_of_ble_eq_true rfl)
      have hf := aw_ite_f he hf
      by_cases he : e0 = 2
      · have hf := aw_ite_t he hf
        subst he
        refine vx_catch (name := "java/lang/IllegalArgumentException") hown [(⟨0, 227, 228, 59⟩ : ExceptionTableEntry)] (⟨0, 227, 233, 62⟩ : ExceptionTableEntry) [(⟨0, 227, 238, 65⟩ : ExceptionTableEntry)] (hT.trans rfl) (aw_hpass G.1 (List.forall_mem_cons.mpr ⟨⟨by decide, "java/lang/IndexOutOfBoundsException", by decide, m_310, by decide, by decide⟩, (fun _ h => nomatch h)⟩)) (by decide) (by decide) (G.1.hts _ m_311) (aw_cast G.1 (by decide)) hce hcv hcl ?_
        refine W.eq (g2 := F0 m 233 ls [.ref q9]) rfl ?_
        refine lv_astore (lv' := [(7, .ref q9), (0, .ref (ad x0)), (1, .int ((4 : Int32))), (2, .int x2), (3, .int x3), (4, .int x4), (5, .int x5), (6, .int x6)]) hx hb dL_does_233 hl (by decide) rfl (fun ls hl => ?_)
        refine lv_ldc (v := (-2000000 : Int32)) hx hb hown (G.1.hts _ m_760) dL_does_235 ?_
        exact aw_retj X G hf dL_does_237 (Nat.le_of_ble_eq_true rfl) (Nat.le_of_ble_eq_true rfl)
      have hf := aw_ite_f he hf
      by_cases he : e0 = 3
      · have hf := aw_ite_t he hf
        subst he
        refine vx_catch (name := "java/lang/IllegalStateException") hown [(⟨0, 227, 228, 59⟩ : ExceptionTableEntry), (⟨0, 227, 233, 62⟩ : ExceptionTableEntry)] (⟨0, 227, 238, 65⟩ : ExceptionTableEntry) [] (hT.trans rfl) (aw_hpass G.1 (List.forall_mem_cons.mpr ⟨⟨by decide, "java/lang/IndexOutOfBoundsException", by decide, m_310, by decide, by decide⟩, (List.forall_mem_cons.mpr ⟨⟨by decide, "java/lang/IllegalArgumentException", by decide, m_311, by decide, by decide⟩, (fun _ h => nomatch h)⟩)⟩)) (by decide) (by decide) (G.1.hts _ m_312) (aw_cast G.1 (by decide)) hce hcv hcl ?_
        refine W.eq (g2 := F0 m 238 ls [.ref q9]) rfl ?_
        refine lv_astore (lv' := [(7, .ref q9), (0, .ref (ad x0)), (1, .int ((4 : Int32))), (2, .int x2), (3, .int x3), (4, .int x4), (5, .int x5), (6, .int x6)]) hx hb dL_does_238 hl (by decide) rfl (fun ls hl => ?_)
        refine lv_ldc (v := (-1000000 : Int32)) hx hb hown (G.1.hts _ m_761) dL_does_240 ?_
        exact aw_retj X G hf dL_does_242 (Nat.le_of_ble_eq_true rfl) (Nat.le_of_ble_eq_true rfl)
      have hf := aw_ite_f he hf
      cases hf
    have hf := aw_ct_r hz1 hf
    refine lv_goto (tgt := 227) hx hb dL_does_92 (by decide) ?_
    exact aw_retj X G hf dL_does_227 (Nat.le_of_ble_eq_true rfl) (Nat.le_of_ble_eq_true rfl)
  · have hf := aw_ite_t hc hf
    refine lv_iconst (v := (1 : Int32)) hx hb dL_does_84 (by decide) ?_
    refine lv_goto (tgt := 89) hx hb dL_does_85 (by decide) ?_
    obtain ⟨hc_5, hf⟩ := aw_chk_some hf
    obtain ⟨z_6, hz_7, hf⟩ := aw_bind_some hf
    refine aw_CVI (As := [.int x2, .int x3, .int x4, .int ((1 : Int32))]) (rest := []) X G hl.1 cr_L_25 (c_X10_assign l hst hz_7) rfl rfl rfl (by decide) hc_5 rfl ⟨(Nat.le_of_ble_eq_true rfl), (Nat.le_of_ble_eq_true rfl)⟩ (Nat.le_of_ble_eq_true rfl) dL_does_89 ⟨(Nat.le_of_ble_eq_true rfl), (Nat.le_of_ble_eq_true rfl)⟩ (fun e0 ce q9 H locs hz1 G hce hcv hcl => ?_) (fun v_8 H locs hz1 G => ?_)
    · have hf := aw_ct_l hz1 hf
      by_cases he : e0 = 1
      · have hf := aw_ite_t he hf
        subst he
        refine vx_catch (name := "java/lang/IndexOutOfBoundsException") hown [] (⟨0, 227, 228, 59⟩ : ExceptionTableEntry) [(⟨0, 227, 233, 62⟩ : ExceptionTableEntry), (⟨0, 227, 238, 65⟩ : ExceptionTableEntry)] (hT.trans rfl) (aw_hpass G.1 (fun _ h => nomatch h)) (by decide) (by decide) (G.1.hts _ m_310) (aw_cast G.1 (by decide)) hce hcv hcl ?_
        refine W.eq (g2 := F0 m 228 ls [.ref q9]) rfl ?_
        refine lv_astore (lv' := [(7, .ref q9), (0, .ref (ad x0)), (1, .int ((4 : Int32))), (2, .int x2), (3, .int x3), (4, .int x4), (5, .int x5), (6, .int x6)]) hx hb dL_does_228 hl (by decide) rfl (fun ls hl => ?_)
        refine lv_ldc (v := (-3000000 : Int32)) hx hb hown (G.1.hts _ m_759) dL_does_230 ?_
        exact aw_retj X G hf dL_does_232 (Nat.le_of_ble_eq_true rfl) (Nat.le_of_ble_eq_true rfl)
      have hf := aw_ite_f he hf
      by_cases he : e0 = 2
      · have hf := aw_ite_t he hf
        subst he
        refine vx_catch (name := "java/lang/IllegalArgumentException") hown [(⟨0, 227, 228, 59⟩ : ExceptionTableEntry)] (⟨0, 227, 233, 62⟩ : ExceptionTableEntry) [(⟨0, 227, 238, 65⟩ : ExceptionTableEntry)] (hT.trans rfl) (aw_hpass G.1 (List.forall_mem_cons.mpr ⟨⟨by decide, "java/lang/IndexOutOfBoundsException", by decide, m_310, by decide, by decide⟩, (fun _ h => nomatch h)⟩)) (by decide) (by decide) (G.1.hts _ m_311) (aw_cast G.1 (by decide)) hce hcv hcl ?_
        refine W.eq (g2 := F0 m 233 ls [.ref q9]) rfl ?_
        refine lv_astore (lv' := [(7, .ref q9), (0, .ref (ad x0)), (1, .int ((4 : Int32))), (2, .int x2), (3, .int x3), (4, .int x4), (5, .int x5), (6, .int x6)]) hx hb dL_does_233 hl (by decide) rfl (fun ls hl => ?_)
        refine lv_ldc (v := (-2000000 : Int32)) hx hb hown (G.1.hts _ m_760) dL_does_235 ?_
        exact aw_retj X G hf dL_does_237 (Nat.le_of_ble_eq_true rfl) (Nat.le_of_ble_eq_true rfl)
      have hf := aw_ite_f he hf
      by_cases he : e0 = 3
      · have hf := aw_ite_t he hf
        subst he
        refine vx_catch (name := "java/lang/IllegalStateException") hown [(⟨0, 227, 228, 59⟩ : ExceptionTableEntry), (⟨0, 227, 233, 62⟩ : ExceptionTableEntry)] (⟨0, 227, 238, 65⟩ : ExceptionTableEntry) [] (hT.trans rfl) (aw_hpass G.1 (List.forall_mem_cons.mpr ⟨⟨by decide, "java/lang/IndexOutOfBoundsException", by decide, m_310, by decide, by decide⟩, (List.forall_mem_cons.mpr ⟨⟨by decide, "java/lang/IllegalArgumentException", by decide, m_311, by decide, by decide⟩, (fun _ h => nomatch h)⟩)⟩)) (by decide) (by decide) (G.1.hts _ m_312) (aw_cast G.1 (by decide)) hce hcv hcl ?_
        refine W.eq (g2 := F0 m 238 ls [.ref q9]) rfl ?_
        refine lv_astore (lv' := [(7, .ref q9), (0, .ref (ad x0)), (1, .int ((4 : Int32))), (2, .int x2), (3, .int x3), (4, .int x4), (5, .int x5), (6, .int x6)]) hx hb dL_does_238 hl (by decide) rfl (fun ls hl => ?_)
        refine lv_ldc (v := (-1000000 : Int32)) hx hb hown (G.1.hts _ m_761) dL_does_240 ?_
        exact aw_retj X G hf dL_does_242 (Nat.le_of_ble_eq_true rfl) (Nat.le_of_ble_eq_true rfl)
      have hf := aw_ite_f he hf
      cases hf
    have hf := aw_ct_r hz1 hf
    refine lv_goto (tgt := 227) hx hb dL_does_92 (by decide) ?_
    exact aw_retj X G hf dL_does_227 (Nat.le_of_ble_eq_true rfl) (Nat.le_of_ble_eq_true rfl)
def rm_L_does_5 : Room := { frames := 8, cells := 2, slots := 12, locals := 134 }
def f_L_does_5 (σ : Sg) (x0 : Nat) (x2 : Int32) (x3 : Int32) (x4 : Int32) (x5 : Int32) (x6 : Int32) (d : Dt) : Option (Int32 × Dt) :=
  aw_chk (aw_O σ 10 13 x0) ((f_X10_shape σ x0 x2 x3 d).bind (fun z_2 => aw_ct z_2 (fun e0 => if e0 = 1 then some ((-3000000 : Int32), z_2.2) else if e0 = 2 then some ((-2000000 : Int32), z_2.2) else if e0 = 3 then some ((-1000000 : Int32), z_2.2) else none) (fun v_4 => some (v_4, z_2.2))))
set_option maxHeartbeats 4000000 in
set_option maxRecDepth 100000 in
theorem c_L_does_5 (l : Launch) (hst : l.stackTraces = false) {σ : Sg} {x0 : Nat} {x2 : Int32} {x3 : Int32} {x4 : Int32} {x5 : Int32} {x6 : Int32} {d : Dt} {z : Int32 × Dt} (hf : f_L_does_5 σ x0 x2 x3 x4 x5 x6 d = some z) : aw_Mi l yL_does (Cond.codeWith yL_does cL_does 8 (some .int) [(0, 227, 228, 59), (0, 227, 233, 62), (0, 227, 238, 65)]) rm_L_does_5 (fun ad => [.ref (ad x0), .int ((5 : Int32)), .int x2, .int x3, .int x4, .int x5, .int x6]) σ d z := by
  intro D cA base ad
  refine aw_ofCW (own := RL) (cc := cL_does) (nL := 8) (ret := some .int) [(0, 227, 228, 59), (0, 227, 233, 62), (0, 227, 238, 65)] (by decide) rfl rfl ?_
  intro p e s m below meth c X hT G
  have hx := X.1; have hb := X.2.1; have hml := X.2.2.1; have hown := X.2.2.2.1
  refine aw_ls (lv := [(0, .ref (ad x0)), (1, .int ((5 : Int32))), (2, .int x2), (3, .int x3), (4, .int x4), (5, .int x5), (6, .int x6)]) (Nat.le_of_ble_eq_true rfl) rfl (fun ls hl => ?_)
  unfold f_L_does_5 at hf
  refine lv_iload_n hx hb dL_does_0 rfl (lv_at hl 1 rfl) ?_
  refine lv_if_ne (tgt := 12) hx hb dL_does_1 (by decide) (fun hc => ?_) (fun hc => ?_)
  rotate_left
  · exact absurd hc (by decide)
  refine lv_iload_n hx hb dL_does_12 rfl (lv_at hl 1 rfl) ?_
  refine lv_iconst (v := (1 : Int32)) hx hb dL_does_13 (by decide) ?_
  refine lv_icmp_ne (tgt := 25) hx hb dL_does_14 (by decide) (fun hc => ?_) (fun hc => ?_)
  rotate_left
  · exact absurd hc (by decide)
  refine lv_iload_n hx hb dL_does_25 rfl (lv_at hl 1 rfl) ?_
  refine lv_iconst (v := (2 : Int32)) hx hb dL_does_26 (by decide) ?_
  refine lv_icmp_ne (tgt := 54) hx hb dL_does_27 (by decide) (fun hc => ?_) (fun hc => ?_)
  rotate_left
  · exact absurd hc (by decide)
  refine lv_iload_n hx hb dL_does_54 rfl (lv_at hl 1 rfl) ?_
  refine lv_iconst (v := (3 : Int32)) hx hb dL_does_55 (by decide) ?_
  refine lv_icmp_ne (tgt := 68) hx hb dL_does_56 (by decide) (fun hc => ?_) (fun hc => ?_)
  rotate_left
  · exact absurd hc (by decide)
  refine lv_iload_n hx hb dL_does_68 rfl (lv_at hl 1 rfl) ?_
  refine lv_iconst (v := (4 : Int32)) hx hb dL_does_69 (by decide) ?_
  refine lv_icmp_ne (tgt := 95) hx hb dL_does_70 (by decide) (fun hc => ?_) (fun hc => ?_)
  rotate_left
  · exact absurd hc (by decide)
  refine lv_iload_n hx hb dL_does_95 rfl (lv_at hl 1 rfl) ?_
  refine lv_iconst (v := (5 : Int32)) hx hb dL_does_96 (by decide) ?_
  refine lv_icmp_ne (tgt := 109) hx hb dL_does_97 (by decide) (fun hc => ?_) (fun hc => ?_)
  · exact absurd hc (by decide)
  refine lv_aload_n hx hb dL_does_100 rfl (lv_at hl 0 rfl) ?_
  refine lv_iload_n hx hb dL_does_101 rfl (lv_at hl 2 rfl) ?_
  refine lv_iload_n hx hb dL_does_102 rfl (lv_at hl 3 rfl) ?_
  obtain ⟨hc_1, hf⟩ := aw_chk_some hf
  obtain ⟨z_2, hz_3, hf⟩ := aw_bind_some hf
  refine aw_CVI (As := [.int x2, .int x3]) (rest := []) X G hl.1 cr_L_29 (c_X10_shape l hst hz_3) rfl rfl rfl (by decide) hc_1 rfl ⟨(Nat.le_of_ble_eq_true rfl), (Nat.le_of_ble_eq_true rfl)⟩ (Nat.le_of_ble_eq_true rfl) dL_does_103 ⟨(Nat.le_of_ble_eq_true rfl), (Nat.le_of_ble_eq_true rfl)⟩ (fun e0 ce q9 H locs hz1 G hce hcv hcl => ?_) (fun v_4 H locs hz1 G => ?_)
  · have hf := aw_ct_l hz1 hf
    by_cases he : e0 = 1
    · have hf := aw_ite_t he hf
      subst he
      refine vx_catch (name := "java/lang/IndexOutOfBoundsException") hown [] (⟨0, 227, 228, 59⟩ : ExceptionTableEntry) [(⟨0, 227, 233, 62⟩ : ExceptionTableEntry), (⟨0, 227, 238, 65⟩ : ExceptionTableEntry)] (hT.trans rfl) (aw_hpass G.1 (fun _ h => nomatch h)) (by decide) (by decide) (G.1.hts _ m_310) (aw_cast G.1 (by decide)) hce hcv hcl ?_
      refine W.eq (g2 := F0 m 228 ls [.ref q9]) rfl ?_
      refine lv_astore (lv' := [(7, .ref q9), (0, .ref (ad x0)), (1, .int ((5 : Int32))), (2, .int x2), (3, .int x3), (4, .int x4), (5, .int x5), (6, .int x6)]) hx hb dL_does_228 hl (by decide) rfl (fun ls hl => ?_)
      refine lv_ldc (v := (-3000000 : Int32)) hx hb hown (G.1.hts _ m_759) dL_does_230 ?_
      exact aw_retj X G hf dL_does_232 (Nat.le_of_ble_eq_true rfl) (Nat.le_of_ble_eq_true rfl)
    have hf := aw_ite_f he hf
    by_cases he : e0 = 2
    · have hf := aw_ite_t he hf
      subst he
      refine vx_catch (name := "java/lang/IllegalArgumentException") hown [(⟨0, 227, 228, 59⟩ : ExceptionTableEntry)] (⟨0, 227, 233, 62⟩ : ExceptionTableEntry) [(⟨0, 227, 238, 65⟩ : ExceptionTableEntry)] (hT.trans rfl) (aw_hpass G.1 (List.forall_mem_cons.mpr ⟨⟨by decide, "java/lang/IndexOutOfBoundsException", by decide, m_310, by decide, by decide⟩, (fun _ h => nomatch h)⟩)) (by decide) (by decide) (G.1.hts _ m_311) (aw_cast G.1 (by decide)) hce hcv hcl ?_
      refine W.eq (g2 := F0 m 233 ls [.ref q9]) rfl ?_
      refine lv_astore (lv' := [(7, .ref q9), (0, .ref (ad x0)), (1, .int ((5 : Int32))), (2, .int x2), (3, .int x3), (4, .int x4), (5, .int x5), (6, .int x6)]) hx hb dL_does_233 hl (by decide) rfl (fun ls hl => ?_)
      refine lv_ldc (v := (-2000000 : Int32)) hx hb hown (G.1.hts _ m_760) dL_does_235 ?_
      exact aw_retj X G hf dL_does_237 (Nat.le_of_ble_eq_true rfl) (Nat.le_of_ble_eq_true rfl)
    have hf := aw_ite_f he hf
    by_cases he : e0 = 3
    · have hf := aw_ite_t he hf
      subst he
      refine vx_catch (name := "java/lang/IllegalStateException") hown [(⟨0, 227, 228, 59⟩ : ExceptionTableEntry), (⟨0, 227, 233, 62⟩ : ExceptionTableEntry)] (⟨0, 227, 238, 65⟩ : ExceptionTableEntry) [] (hT.trans rfl) (aw_hpass G.1 (List.forall_mem_cons.mpr ⟨⟨by decide, "java/lang/IndexOutOfBoundsException", by decide, m_310, by decide, by decide⟩, (List.forall_mem_cons.mpr ⟨⟨by decide, "java/lang/IllegalArgumentException", by decide, m_311, by decide, by decide⟩, (fun _ h => nomatch h)⟩)⟩)) (by decide) (by decide) (G.1.hts _ m_312) (aw_cast G.1 (by decide)) hce hcv hcl ?_
      refine W.eq (g2 := F0 m 238 ls [.ref q9]) rfl ?_
      refine lv_astore (lv' := [(7, .ref q9), (0, .ref (ad x0)), (1, .int ((5 : Int32))), (2, .int x2), (3, .int x3), (4, .int x4), (5, .int x5), (6, .int x6)]) hx hb dL_does_238 hl (by decide) rfl (fun ls hl => ?_)
      refine lv_ldc (v := (-1000000 : Int32)) hx hb hown (G.1.hts _ m_761) dL_does_240 ?_
      exact aw_retj X G hf dL_does_242 (Nat.le_of_ble_eq_true rfl) (Nat.le_of_ble_eq_true rfl)
    have hf := aw_ite_f he hf
    cases hf
  have hf := aw_ct_r hz1 hf
  refine lv_goto (tgt := 227) hx hb dL_does_106 (by decide) ?_
  exact aw_retj X G hf dL_does_227 (Nat.le_of_ble_eq_true rfl) (Nat.le_of_ble_eq_true rfl)
def rm_L_does_6 : Room := { frames := 8, cells := 3, slots := 18, locals := 134 }
def f_L_does_6 (σ : Sg) (x0 : Nat) (x2 : Int32) (x3 : Int32) (x4 : Int32) (x5 : Int32) (x6 : Int32) (d : Dt) : Option (Int32 × Dt) :=
  aw_chk (aw_O σ 10 13 x0) ((f_X10_key σ x0 x2 x3 x4 d).bind (fun z_2 => aw_ct z_2 (fun e0 => if e0 = 1 then some ((-3000000 : Int32), z_2.2) else if e0 = 2 then some ((-2000000 : Int32), z_2.2) else if e0 = 3 then some ((-1000000 : Int32), z_2.2) else none) (fun v_4 => some (v_4, z_2.2))))
set_option maxHeartbeats 4000000 in
set_option maxRecDepth 100000 in
theorem c_L_does_6 (l : Launch) (hst : l.stackTraces = false) {σ : Sg} {x0 : Nat} {x2 : Int32} {x3 : Int32} {x4 : Int32} {x5 : Int32} {x6 : Int32} {d : Dt} {z : Int32 × Dt} (hf : f_L_does_6 σ x0 x2 x3 x4 x5 x6 d = some z) : aw_Mi l yL_does (Cond.codeWith yL_does cL_does 8 (some .int) [(0, 227, 228, 59), (0, 227, 233, 62), (0, 227, 238, 65)]) rm_L_does_6 (fun ad => [.ref (ad x0), .int ((6 : Int32)), .int x2, .int x3, .int x4, .int x5, .int x6]) σ d z := by
  intro D cA base ad
  refine aw_ofCW (own := RL) (cc := cL_does) (nL := 8) (ret := some .int) [(0, 227, 228, 59), (0, 227, 233, 62), (0, 227, 238, 65)] (by decide) rfl rfl ?_
  intro p e s m below meth c X hT G
  have hx := X.1; have hb := X.2.1; have hml := X.2.2.1; have hown := X.2.2.2.1
  refine aw_ls (lv := [(0, .ref (ad x0)), (1, .int ((6 : Int32))), (2, .int x2), (3, .int x3), (4, .int x4), (5, .int x5), (6, .int x6)]) (Nat.le_of_ble_eq_true rfl) rfl (fun ls hl => ?_)
  unfold f_L_does_6 at hf
  refine lv_iload_n hx hb dL_does_0 rfl (lv_at hl 1 rfl) ?_
  refine lv_if_ne (tgt := 12) hx hb dL_does_1 (by decide) (fun hc => ?_) (fun hc => ?_)
  rotate_left
  · exact absurd hc (by decide)
  refine lv_iload_n hx hb dL_does_12 rfl (lv_at hl 1 rfl) ?_
  refine lv_iconst (v := (1 : Int32)) hx hb dL_does_13 (by decide) ?_
  refine lv_icmp_ne (tgt := 25) hx hb dL_does_14 (by decide) (fun hc => ?_) (fun hc => ?_)
  rotate_left
  · exact absurd hc (by decide)
  refine lv_iload_n hx hb dL_does_25 rfl (lv_at hl 1 rfl) ?_
  refine lv_iconst (v := (2 : Int32)) hx hb dL_does_26 (by decide) ?_
  refine lv_icmp_ne (tgt := 54) hx hb dL_does_27 (by decide) (fun hc => ?_) (fun hc => ?_)
  rotate_left
  · exact absurd hc (by decide)
  refine lv_iload_n hx hb dL_does_54 rfl (lv_at hl 1 rfl) ?_
  refine lv_iconst (v := (3 : Int32)) hx hb dL_does_55 (by decide) ?_
  refine lv_icmp_ne (tgt := 68) hx hb dL_does_56 (by decide) (fun hc => ?_) (fun hc => ?_)
  rotate_left
  · exact absurd hc (by decide)
  refine lv_iload_n hx hb dL_does_68 rfl (lv_at hl 1 rfl) ?_
  refine lv_iconst (v := (4 : Int32)) hx hb dL_does_69 (by decide) ?_
  refine lv_icmp_ne (tgt := 95) hx hb dL_does_70 (by decide) (fun hc => ?_) (fun hc => ?_)
  rotate_left
  · exact absurd hc (by decide)
  refine lv_iload_n hx hb dL_does_95 rfl (lv_at hl 1 rfl) ?_
  refine lv_iconst (v := (5 : Int32)) hx hb dL_does_96 (by decide) ?_
  refine lv_icmp_ne (tgt := 109) hx hb dL_does_97 (by decide) (fun hc => ?_) (fun hc => ?_)
  rotate_left
  · exact absurd hc (by decide)
  refine lv_iload_n hx hb dL_does_109 rfl (lv_at hl 1 rfl) ?_
  refine lv_bipush (v := (6 : Int32)) hx hb dL_does_110 (by decide) ?_
  refine lv_icmp_ne (tgt := 126) hx hb dL_does_112 (by decide) (fun hc => ?_) (fun hc => ?_)
  · exact absurd hc (by decide)
  refine lv_aload_n hx hb dL_does_115 rfl (lv_at hl 0 rfl) ?_
  refine lv_iload_n hx hb dL_does_116 rfl (lv_at hl 2 rfl) ?_
  refine lv_iload_n hx hb dL_does_117 rfl (lv_at hl 3 rfl) ?_
  refine lv_iload hx hb dL_does_118 (lv_at hl 4 rfl) ?_
  obtain ⟨hc_1, hf⟩ := aw_chk_some hf
  obtain ⟨z_2, hz_3, hf⟩ := aw_bind_some hf
  refine aw_CVI (As := [.int x2, .int x3, .int x4]) (rest := []) X G hl.1 cr_L_32 (c_X10_key l hst hz_3) rfl rfl rfl (by decide) hc_1 rfl ⟨(Nat.le_of_ble_eq_true rfl), (Nat.le_of_ble_eq_true rfl)⟩ (Nat.le_of_ble_eq_true rfl) dL_does_120 ⟨(Nat.le_of_ble_eq_true rfl), (Nat.le_of_ble_eq_true rfl)⟩ (fun e0 ce q9 H locs hz1 G hce hcv hcl => ?_) (fun v_4 H locs hz1 G => ?_)
  · have hf := aw_ct_l hz1 hf
    by_cases he : e0 = 1
    · have hf := aw_ite_t he hf
      subst he
      refine vx_catch (name := "java/lang/IndexOutOfBoundsException") hown [] (⟨0, 227, 228, 59⟩ : ExceptionTableEntry) [(⟨0, 227, 233, 62⟩ : ExceptionTableEntry), (⟨0, 227, 238, 65⟩ : ExceptionTableEntry)] (hT.trans rfl) (aw_hpass G.1 (fun _ h => nomatch h)) (by decide) (by decide) (G.1.hts _ m_310) (aw_cast G.1 (by decide)) hce hcv hcl ?_
      refine W.eq (g2 := F0 m 228 ls [.ref q9]) rfl ?_
      refine lv_astore (lv' := [(7, .ref q9), (0, .ref (ad x0)), (1, .int ((6 : Int32))), (2, .int x2), (3, .int x3), (4, .int x4), (5, .int x5), (6, .int x6)]) hx hb dL_does_228 hl (by decide) rfl (fun ls hl => ?_)
      refine lv_ldc (v := (-3000000 : Int32)) hx hb hown (G.1.hts _ m_759) dL_does_230 ?_
      exact aw_retj X G hf dL_does_232 (Nat.le_of_ble_eq_true rfl) (Nat.le_of_ble_eq_true rfl)
    have hf := aw_ite_f he hf
    by_cases he : e0 = 2
    · have hf := aw_ite_t he hf
      subst he
      refine vx_catch (name := "java/lang/IllegalArgumentException") hown [(⟨0, 227, 228, 59⟩ : ExceptionTableEntry)] (⟨0, 227, 233, 62⟩ : ExceptionTableEntry) [(⟨0, 227, 238, 65⟩ : ExceptionTableEntry)] (hT.trans rfl) (aw_hpass G.1 (List.forall_mem_cons.mpr ⟨⟨by decide, "java/lang/IndexOutOfBoundsException", by decide, m_310, by decide, by decide⟩, (fun _ h => nomatch h)⟩)) (by decide) (by decide) (G.1.hts _ m_311) (aw_cast G.1 (by decide)) hce hcv hcl ?_
      refine W.eq (g2 := F0 m 233 ls [.ref q9]) rfl ?_
      refine lv_astore (lv' := [(7, .ref q9), (0, .ref (ad x0)), (1, .int ((6 : Int32))), (2, .int x2), (3, .int x3), (4, .int x4), (5, .int x5), (6, .int x6)]) hx hb dL_does_233 hl (by decide) rfl (fun ls hl => ?_)
      refine lv_ldc (v := (-2000000 : Int32)) hx hb hown (G.1.hts _ m_760) dL_does_235 ?_
      exact aw_retj X G hf dL_does_237 (Nat.le_of_ble_eq_true rfl) (Nat.le_of_ble_eq_true rfl)
    have hf := aw_ite_f he hf
    by_cases he : e0 = 3
    · have hf := aw_ite_t he hf
      subst he
      refine vx_catch (name := "java/lang/IllegalStateException") hown [(⟨0, 227, 228, 59⟩ : ExceptionTableEntry), (⟨0, 227, 233, 62⟩ : ExceptionTableEntry)] (⟨0, 227, 238, 65⟩ : ExceptionTableEntry) [] (hT.trans rfl) (aw_hpass G.1 (List.forall_mem_cons.mpr ⟨⟨by decide, "java/lang/IndexOutOfBoundsException", by decide, m_310, by decide, by decide⟩, (List.forall_mem_cons.mpr ⟨⟨by decide, "java/lang/IllegalArgumentException", by decide, m_311, by decide, by decide⟩, (fun _ h => nomatch h)⟩)⟩)) (by decide) (by decide) (G.1.hts _ m_312) (aw_cast G.1 (by decide)) hce hcv hcl ?_
      refine W.eq (g2 := F0 m 238 ls [.ref q9]) rfl ?_
      refine lv_astore (lv' := [(7, .ref q9), (0, .ref (ad x0)), (1, .int ((6 : Int32))), (2, .int x2), (3, .int x3), (4, .int x4), (5, .int x5), (6, .int x6)]) hx hb dL_does_238 hl (by decide) rfl (fun ls hl => ?_)
      refine lv_ldc (v := (-1000000 : Int32)) hx hb hown (G.1.hts _ m_761) dL_does_240 ?_
      exact aw_retj X G hf dL_does_242 (Nat.le_of_ble_eq_true rfl) (Nat.le_of_ble_eq_true rfl)
    have hf := aw_ite_f he hf
    cases hf
  have hf := aw_ct_r hz1 hf
  refine lv_goto (tgt := 227) hx hb dL_does_123 (by decide) ?_
  exact aw_retj X G hf dL_does_227 (Nat.le_of_ble_eq_true rfl) (Nat.le_of_ble_eq_true rfl)
def rm_L_does_7 : Room := { frames := 8, cells := 3, slots := 18, locals := 136 }
def f_L_does_7 (σ : Sg) (x0 : Nat) (x2 : Int32) (x3 : Int32) (x4 : Int32) (x5 : Int32) (x6 : Int32) (d : Dt) : Option (Int32 × Dt) :=
  aw_chk (aw_O σ 10 13 x0) ((f_X10_group σ x0 x2 x3 x4 x5 d).bind (fun z_2 => aw_ct z_2 (fun e0 => if e0 = 1 then some ((-3000000 : Int32), z_2.2) else if e0 = 2 then some ((-2000000 : Int32), z_2.2) else if e0 = 3 then some ((-1000000 : Int32), z_2.2) else none) (fun v_4 => some (v_4, z_2.2))))
set_option maxHeartbeats 4000000 in
set_option maxRecDepth 100000 in
theorem c_L_does_7 (l : Launch) (hst : l.stackTraces = false) {σ : Sg} {x0 : Nat} {x2 : Int32} {x3 : Int32} {x4 : Int32} {x5 : Int32} {x6 : Int32} {d : Dt} {z : Int32 × Dt} (hf : f_L_does_7 σ x0 x2 x3 x4 x5 x6 d = some z) : aw_Mi l yL_does (Cond.codeWith yL_does cL_does 8 (some .int) [(0, 227, 228, 59), (0, 227, 233, 62), (0, 227, 238, 65)]) rm_L_does_7 (fun ad => [.ref (ad x0), .int ((7 : Int32)), .int x2, .int x3, .int x4, .int x5, .int x6]) σ d z := by
  intro D cA base ad
  refine aw_ofCW (own := RL) (cc := cL_does) (nL := 8) (ret := some .int) [(0, 227, 228, 59), (0, 227, 233, 62), (0, 227, 238, 65)] (by decide) rfl rfl ?_
  intro p e s m below meth c X hT G
  have hx := X.1; have hb := X.2.1; have hml := X.2.2.1; have hown := X.2.2.2.1
  refine aw_ls (lv := [(0, .ref (ad x0)), (1, .int ((7 : Int32))), (2, .int x2), (3, .int x3), (4, .int x4), (5, .int x5), (6, .int x6)]) (Nat.le_of_ble_eq_true rfl) rfl (fun ls hl => ?_)
  unfold f_L_does_7 at hf
  refine lv_iload_n hx hb dL_does_0 rfl (lv_at hl 1 rfl) ?_
  refine lv_if_ne (tgt := 12) hx hb dL_does_1 (by decide) (fun hc => ?_) (fun hc => ?_)
  rotate_left
  · exact absurd hc (by decide)
  refine lv_iload_n hx hb dL_does_12 rfl (lv_at hl 1 rfl) ?_
  refine lv_iconst (v := (1 : Int32)) hx hb dL_does_13 (by decide) ?_
  refine lv_icmp_ne (tgt := 25) hx hb dL_does_14 (by decide) (fun hc => ?_) (fun hc => ?_)
  rotate_left
  · exact absurd hc (by decide)
  refine lv_iload_n hx hb dL_does_25 rfl (lv_at hl 1 rfl) ?_
  refine lv_iconst (v := (2 : Int32)) hx hb dL_does_26 (by decide) ?_
  refine lv_icmp_ne (tgt := 54) hx hb dL_does_27 (by decide) (fun hc => ?_) (fun hc => ?_)
  rotate_left
  · exact absurd hc (by decide)
  refine lv_iload_n hx hb dL_does_54 rfl (lv_at hl 1 rfl) ?_
  refine lv_iconst (v := (3 : Int32)) hx hb dL_does_55 (by decide) ?_
  refine lv_icmp_ne (tgt := 68) hx hb dL_does_56 (by decide) (fun hc => ?_) (fun hc => ?_)
  rotate_left
  · exact absurd hc (by decide)
  refine lv_iload_n hx hb dL_does_68 rfl (lv_at hl 1 rfl) ?_
  refine lv_iconst (v := (4 : Int32)) hx hb dL_does_69 (by decide) ?_
  refine lv_icmp_ne (tgt := 95) hx hb dL_does_70 (by decide) (fun hc => ?_) (fun hc => ?_)
  rotate_left
  · exact absurd hc (by decide)
  refine lv_iload_n hx hb dL_does_95 rfl (lv_at hl 1 rfl) ?_
  refine lv_iconst (v := (5 : Int32)) hx hb dL_does_96 (by decide) ?_
  refine lv_icmp_ne (tgt := 109) hx hb dL_does_97 (by decide) (fun hc => ?_) (fun hc => ?_)
  rotate_left
  · exact absurd hc (by decide)
  refine lv_iload_n hx hb dL_does_109 rfl (lv_at hl 1 rfl) ?_
  refine lv_bipush (v := (6 : Int32)) hx hb dL_does_110 (by decide) ?_
  refine lv_icmp_ne (tgt := 126) hx hb dL_does_112 (by decide) (fun hc => ?_) (fun hc => ?_)
  rotate_left
  · exact absurd hc (by decide)
  refine lv_iload_n hx hb dL_does_126 rfl (lv_at hl 1 rfl) ?_
  refine lv_bipush (v := (7 : Int32)) hx hb dL_does_127 (by decide) ?_
  refine lv_icmp_ne (tgt := 145) hx hb dL_does_129 (by decide) (fun hc => ?_) (fun hc => ?_)
  · exact absurd hc (by decide)
  refine lv_aload_n hx hb dL_does_132 rfl (lv_at hl 0 rfl) ?_
  refine lv_iload_n hx hb dL_does_133 rfl (lv_at hl 2 rfl) ?_
  refine lv_iload_n hx hb dL_does_134 rfl (lv_at hl 3 rfl) ?_
  refine lv_iload hx hb dL_does_135 (lv_at hl 4 rfl) ?_
  refine lv_iload hx hb dL_does_137 (lv_at hl 5 rfl) ?_
  obtain ⟨hc_1, hf⟩ := aw_chk_some hf
  obtain ⟨z_2, hz_3, hf⟩ := aw_bind_some hf
  refine aw_CVI (As := [.int x2, .int x3, .int x4, .int x5]) (rest := []) X G hl.1 cr_L_36 (c_X10_group l hst hz_3) rfl rfl rfl (by decide) hc_1 rfl ⟨(Nat.le_of_ble_eq_true rfl), (Nat.le_of_ble_eq_true rfl)⟩ (Nat.le_of_ble_eq_true rfl) dL_does_139 ⟨(Nat.le_of_ble_eq_true rfl), (Nat.le_of_ble_eq_true rfl)⟩ (fun e0 ce q9 H locs hz1 G hce hcv hcl => ?_) (fun v_4 H locs hz1 G => ?_)
  · have hf := aw_ct_l hz1 hf
    by_cases he : e0 = 1
    · have hf := aw_ite_t he hf
      subst he
      refine vx_catch (name := "java/lang/IndexOutOfBoundsException") hown [] (⟨0, 227, 228, 59⟩ : ExceptionTableEntry) [(⟨0, 227, 233, 62⟩ : ExceptionTableEntry), (⟨0, 227, 238, 65⟩ : ExceptionTableEntry)] (hT.trans rfl) (aw_hpass G.1 (fun _ h => nomatch h)) (by decide) (by decide) (G.1.hts _ m_310) (aw_cast G.1 (by decide)) hce hcv hcl ?_
      refine W.eq (g2 := F0 m 228 ls [.ref q9]) rfl ?_
      refine lv_astore (lv' := [(7, .ref q9), (0, .ref (ad x0)), (1, .int ((7 : Int32))), (2, .int x2), (3, .int x3), (4, .int x4), (5, .int x5), (6, .int x6)]) hx hb dL_does_228 hl (by decide) rfl (fun ls hl => ?_)
      refine lv_ldc (v := (-3000000 : Int32)) hx hb hown (G.1.hts _ m_759) dL_does_230 ?_
      exact aw_retj X G hf dL_does_232 (Nat.le_of_ble_eq_true rfl) (Nat.le_of_ble_eq_true rfl)
    have hf := aw_ite_f he hf
    by_cases he : e0 = 2
    · have hf := aw_ite_t he hf
      subst he
      refine vx_catch (name := "java/lang/IllegalArgumentException") hown [(⟨0, 227, 228, 59⟩ : ExceptionTableEntry)] (⟨0, 227, 233, 62⟩ : ExceptionTableEntry) [(⟨0, 227, 238, 65⟩ : ExceptionTableEntry)] (hT.trans rfl) (aw_hpass G.1 (List.forall_mem_cons.mpr ⟨⟨by decide, "java/lang/IndexOutOfBoundsException", by decide, m_310, by decide, by decide⟩, (fun _ h => nomatch h)⟩)) (by decide) (by decide) (G.1.hts _ m_311) (aw_cast G.1 (by decide)) hce hcv hcl ?_
      refine W.eq (g2 := F0 m 233 ls [.ref q9]) rfl ?_
      refine lv_astore (lv' := [(7, .ref q9), (0, .ref (ad x0)), (1, .int ((7 : Int32))), (2, .int x2), (3, .int x3), (4, .int x4), (5, .int x5), (6, .int x6)]) hx hb dL_does_233 hl (by decide) rfl (fun ls hl => ?_)
      refine lv_ldc (v := (-2000000 : Int32)) hx hb hown (G.1.hts _ m_760) dL_does_235 ?_
      exact aw_retj X G hf dL_does_237 (Nat.le_of_ble_eq_true rfl) (Nat.le_of_ble_eq_true rfl)
    have hf := aw_ite_f he hf
    by_cases he : e0 = 3
    · have hf := aw_ite_t he hf
      subst he
      refine vx_catch (name := "java/lang/IllegalStateException") hown [(⟨0, 227, 228, 59⟩ : ExceptionTableEntry), (⟨0, 227, 233, 62⟩ : ExceptionTableEntry)] (⟨0, 227, 238, 65⟩ : ExceptionTableEntry) [] (hT.trans rfl) (aw_hpass G.1 (List.forall_mem_cons.mpr ⟨⟨by decide, "java/lang/IndexOutOfBoundsException", by decide, m_310, by decide, by decide⟩, (List.forall_mem_cons.mpr ⟨⟨by decide, "java/lang/IllegalArgumentException", by decide, m_311, by decide, by decide⟩, (fun _ h => nomatch h)⟩)⟩)) (by decide) (by decide) (G.1.hts _ m_312) (aw_cast G.1 (by decide)) hce hcv hcl ?_
      refine W.eq (g2 := F0 m 238 ls [.ref q9]) rfl ?_
      refine lv_astore (lv' := [(7, .ref q9), (0, .ref (ad x0)), (1, .int ((7 : Int32))), (2, .int x2), (3, .int x3), (4, .int x4), (5, .int x5), (6, .int x6)]) hx hb dL_does_238 hl (by decide) rfl (fun ls hl => ?_)
      refine lv_ldc (v := (-1000000 : Int32)) hx hb hown (G.1.hts _ m_761) dL_does_240 ?_
      exact aw_retj X G hf dL_does_242 (Nat.le_of_ble_eq_true rfl) (Nat.le_of_ble_eq_true rfl)
    have hf := aw_ite_f he hf
    cases hf
  have hf := aw_ct_r hz1 hf
  refine lv_goto (tgt := 227) hx hb dL_does_142 (by decide) ?_
  exact aw_retj X G hf dL_does_227 (Nat.le_of_ble_eq_true rfl) (Nat.le_of_ble_eq_true rfl)
def rm_L_does_8 : Room := { frames := 8, cells := 3, slots := 18, locals := 135 }
def f_L_does_8 (σ : Sg) (x0 : Nat) (x2 : Int32) (x3 : Int32) (x4 : Int32) (x5 : Int32) (x6 : Int32) (d : Dt) : Option (Int32 × Dt) :=
  aw_chk (aw_O σ 10 13 x0) ((f_X10_spoken σ x0 x2 x3 x4 d).bind (fun z_2 => aw_ct z_2 (fun e0 => if e0 = 1 then some ((-3000000 : Int32), z_2.2) else if e0 = 2 then some ((-2000000 : Int32), z_2.2) else if e0 = 3 then some ((-1000000 : Int32), z_2.2) else none) (fun v_4 => some (v_4, z_2.2))))
set_option maxHeartbeats 4000000 in
set_option maxRecDepth 100000 in
theorem c_L_does_8 (l : Launch) (hst : l.stackTraces = false) {σ : Sg} {x0 : Nat} {x2 : Int32} {x3 : Int32} {x4 : Int32} {x5 : Int32} {x6 : Int32} {d : Dt} {z : Int32 × Dt} (hf : f_L_does_8 σ x0 x2 x3 x4 x5 x6 d = some z) : aw_Mi l yL_does (Cond.codeWith yL_does cL_does 8 (some .int) [(0, 227, 228, 59), (0, 227, 233, 62), (0, 227, 238, 65)]) rm_L_does_8 (fun ad => [.ref (ad x0), .int ((8 : Int32)), .int x2, .int x3, .int x4, .int x5, .int x6]) σ d z := by
  intro D cA base ad
  refine aw_ofCW (own := RL) (cc := cL_does) (nL := 8) (ret := some .int) [(0, 227, 228, 59), (0, 227, 233, 62), (0, 227, 238, 65)] (by decide) rfl rfl ?_
  intro p e s m below meth c X hT G
  have hx := X.1; have hb := X.2.1; have hml := X.2.2.1; have hown := X.2.2.2.1
  refine aw_ls (lv := [(0, .ref (ad x0)), (1, .int ((8 : Int32))), (2, .int x2), (3, .int x3), (4, .int x4), (5, .int x5), (6, .int x6)]) (Nat.le_of_ble_eq_true rfl) rfl (fun ls hl => ?_)
  unfold f_L_does_8 at hf
  refine lv_iload_n hx hb dL_does_0 rfl (lv_at hl 1 rfl) ?_
  refine lv_if_ne (tgt := 12) hx hb dL_does_1 (by decide) (fun hc => ?_) (fun hc => ?_)
  rotate_left
  · exact absurd hc (by decide)
  refine lv_iload_n hx hb dL_does_12 rfl (lv_at hl 1 rfl) ?_
  refine lv_iconst (v := (1 : Int32)) hx hb dL_does_13 (by decide) ?_
  refine lv_icmp_ne (tgt := 25) hx hb dL_does_14 (by decide) (fun hc => ?_) (fun hc => ?_)
  rotate_left
  · exact absurd hc (by decide)
  refine lv_iload_n hx hb dL_does_25 rfl (lv_at hl 1 rfl) ?_
  refine lv_iconst (v := (2 : Int32)) hx hb dL_does_26 (by decide) ?_
  refine lv_icmp_ne (tgt := 54) hx hb dL_does_27 (by decide) (fun hc => ?_) (fun hc => ?_)
  rotate_left
  · exact absurd hc (by decide)
  refine lv_iload_n hx hb dL_does_54 rfl (lv_at hl 1 rfl) ?_
  refine lv_iconst (v := (3 : Int32)) hx hb dL_does_55 (by decide) ?_
  refine lv_icmp_ne (tgt := 68) hx hb dL_does_56 (by decide) (fun hc => ?_) (fun hc => ?_)
  rotate_left
  · exact absurd hc (by decide)
  refine lv_iload_n hx hb dL_does_68 rfl (lv_at hl 1 rfl) ?_
  refine lv_iconst (v := (4 : Int32)) hx hb dL_does_69 (by decide) ?_
  refine lv_icmp_ne (tgt := 95) hx hb dL_does_70 (by decide) (fun hc => ?_) (fun hc => ?_)
  rotate_left
  · exact absurd hc (by decide)
  refine lv_iload_n hx hb dL_does_95 rfl (lv_at hl 1 rfl) ?_
  refine lv_iconst (v := (5 : Int32)) hx hb dL_does_96 (by decide) ?_
  refine lv_icmp_ne (tgt := 109) hx hb dL_does_97 (by decide) (fun hc => ?_) (fun hc => ?_)
  rotate_left
  · exact absurd hc (by decide)
  refine lv_iload_n hx hb dL_does_109 rfl (lv_at hl 1 rfl) ?_
  refine lv_bipush (v := (6 : Int32)) hx hb dL_does_110 (by decide) ?_
  refine lv_icmp_ne (tgt := 126) hx hb dL_does_112 (by decide) (fun hc => ?_) (fun hc => ?_)
  rotate_left
  · exact absurd hc (by decide)
  refine lv_iload_n hx hb dL_does_126 rfl (lv_at hl 1 rfl) ?_
  refine lv_bipush (v := (7 : Int32)) hx hb dL_does_127 (by decide) ?_
  refine lv_icmp_ne (tgt := 145) hx hb dL_does_129 (by decide) (fun hc => ?_) (fun hc => ?_)
  rotate_left
  · exact absurd hc (by decide)
  refine lv_iload_n hx hb dL_does_145 rfl (lv_at hl 1 rfl) ?_
  refine lv_bipush (v := (8 : Int32)) hx hb dL_does_146 (by decide) ?_
  refine lv_icmp_ne (tgt := 162) hx hb dL_does_148 (by decide) (fun hc => ?_) (fun hc => ?_)
  · exact absurd hc (by decide)
  refine lv_aload_n hx hb dL_does_151 rfl (lv_at hl 0 rfl) ?_
  refine lv_iload_n hx hb dL_does_152 rfl (lv_at hl 2 rfl) ?_
  refine lv_iload_n hx hb dL_does_153 rfl (lv_at hl 3 rfl) ?_
  refine lv_iload hx hb dL_does_154 (lv_at hl 4 rfl) ?_
  obtain ⟨hc_1, hf⟩ := aw_chk_some hf
  obtain ⟨z_2, hz_3, hf⟩ := aw_bind_some hf
  refine aw_CVI (As := [.int x2, .int x3, .int x4]) (rest := []) X G hl.1 cr_L_40 (c_X10_spoken l hst hz_3) rfl rfl rfl (by decide) hc_1 rfl ⟨(Nat.le_of_ble_eq_true rfl), (Nat.le_of_ble_eq_true rfl)⟩ (Nat.le_of_ble_eq_true rfl) dL_does_156 ⟨(Nat.le_of_ble_eq_true rfl), (Nat.le_of_ble_eq_true rfl)⟩ (fun e0 ce q9 H locs hz1 G hce hcv hcl => ?_) (fun v_4 H locs hz1 G => ?_)
  · have hf := aw_ct_l hz1 hf
    by_cases he : e0 = 1
    · have hf := aw_ite_t he hf
      subst he
      refine vx_catch (name := "java/lang/IndexOutOfBoundsException") hown [] (⟨0, 227, 228, 59⟩ : ExceptionTableEntry) [(⟨0, 227, 233, 62⟩ : ExceptionTableEntry), (⟨0, 227, 238, 65⟩ : ExceptionTableEntry)] (hT.trans rfl) (aw_hpass G.1 (fun _ h => nomatch h)) (by decide) (by decide) (G.1.hts _ m_310) (aw_cast G.1 (by decide)) hce hcv hcl ?_
      refine W.eq (g2 := F0 m 228 ls [.ref q9]) rfl ?_
      refine lv_astore (lv' := [(7, .ref q9), (0, .ref (ad x0)), (1, .int ((8 : Int32))), (2, .int x2), (3, .int x3), (4, .int x4), (5, .int x5), (6, .int x6)]) hx hb dL_does_228 hl (by decide) rfl (fun ls hl => ?_)
      refine lv_ldc (v := (-3000000 : Int32)) hx hb hown (G.1.hts _ m_759) dL_does_230 ?_
      exact aw_retj X G hf dL_does_232 (Nat.le_of_ble_eq_true rfl) (Nat.le_of_ble_eq_true rfl)
    have hf := aw_ite_f he hf
    by_cases he : e0 = 2
    · have hf := aw_ite_t he hf
      subst he
      refine vx_catch (name := "java/lang/IllegalArgumentException") hown [(⟨0, 227, 228, 59⟩ : ExceptionTableEntry)] (⟨0, 227, 233, 62⟩ : ExceptionTableEntry) [(⟨0, 227, 238, 65⟩ : ExceptionTableEntry)] (hT.trans rfl) (aw_hpass G.1 (List.forall_mem_cons.mpr ⟨⟨by decide, "java/lang/IndexOutOfBoundsException", by decide, m_310, by decide, by decide⟩, (fun _ h => nomatch h)⟩)) (by decide) (by decide) (G.1.hts _ m_311) (aw_cast G.1 (by decide)) hce hcv hcl ?_
      refine W.eq (g2 := F0 m 233 ls [.ref q9]) rfl ?_
      refine lv_astore (lv' := [(7, .ref q9), (0, .ref (ad x0)), (1, .int ((8 : Int32))), (2, .int x2), (3, .int x3), (4, .int x4), (5, .int x5), (6, .int x6)]) hx hb dL_does_233 hl (by decide) rfl (fun ls hl => ?_)
      refine lv_ldc (v := (-2000000 : Int32)) hx hb hown (G.1.hts _ m_760) dL_does_235 ?_
      exact aw_retj X G hf dL_does_237 (Nat.le_of_ble_eq_true rfl) (Nat.le_of_ble_eq_true rfl)
    have hf := aw_ite_f he hf
    by_cases he : e0 = 3
    · have hf := aw_ite_t he hf
      subst he
      refine vx_catch (name := "java/lang/IllegalStateException") hown [(⟨0, 227, 228, 59⟩ : ExceptionTableEntry), (⟨0, 227, 233, 62⟩ : ExceptionTableEntry)] (⟨0, 227, 238, 65⟩ : ExceptionTableEntry) [] (hT.trans rfl) (aw_hpass G.1 (List.forall_mem_cons.mpr ⟨⟨by decide, "java/lang/IndexOutOfBoundsException", by decide, m_310, by decide, by decide⟩, (List.forall_mem_cons.mpr ⟨⟨by decide, "java/lang/IllegalArgumentException", by decide, m_311, by decide, by decide⟩, (fun _ h => nomatch h)⟩)⟩)) (by decide) (by decide) (G.1.hts _ m_312) (aw_cast G.1 (by decide)) hce hcv hcl ?_
      refine W.eq (g2 := F0 m 238 ls [.ref q9]) rfl ?_
      refine lv_astore (lv' := [(7, .ref q9), (0, .ref (ad x0)), (1, .int ((8 : Int32))), (2, .int x2), (3, .int x3), (4, .int x4), (5, .int x5), (6, .int x6)]) hx hb dL_does_238 hl (by decide) rfl (fun ls hl => ?_)
      refine lv_ldc (v := (-1000000 : Int32)) hx hb hown (G.1.hts _ m_761) dL_does_240 ?_
      exact aw_retj X G hf dL_does_242 (Nat.le_of_ble_eq_true rfl) (Nat.le_of_ble_eq_true rfl)
    have hf := aw_ite_f he hf
    cases hf
  have hf := aw_ct_r hz1 hf
  refine lv_goto (tgt := 227) hx hb dL_does_159 (by decide) ?_
  exact aw_retj X G hf dL_does_227 (Nat.le_of_ble_eq_true rfl) (Nat.le_of_ble_eq_true rfl)
def rm_L_does_9 : Room := { frames := 8, cells := 3, slots := 18, locals := 134 }
def f_L_does_9 (σ : Sg) (x0 : Nat) (x2 : Int32) (x3 : Int32) (x4 : Int32) (x5 : Int32) (x6 : Int32) (d : Dt) : Option (Int32 × Dt) :=
  aw_chk (aw_O σ 10 13 x0) ((f_X10_spelled σ x0 x2 x3 x4 d).bind (fun z_2 => aw_ct z_2 (fun e0 => if e0 = 1 then some ((-3000000 : Int32), z_2.2) else if e0 = 2 then some ((-2000000 : Int32), z_2.2) else if e0 = 3 then some ((-1000000 : Int32), z_2.2) else none) (fun v_4 => some (v_4, z_2.2))))
set_option maxHeartbeats 4000000 in
set_option maxRecDepth 100000 in
theorem c_L_does_9 (l : Launch) (hst : l.stackTraces = false) {σ : Sg} {x0 : Nat} {x2 : Int32} {x3 : Int32} {x4 : Int32} {x5 : Int32} {x6 : Int32} {d : Dt} {z : Int32 × Dt} (hf : f_L_does_9 σ x0 x2 x3 x4 x5 x6 d = some z) : aw_Mi l yL_does (Cond.codeWith yL_does cL_does 8 (some .int) [(0, 227, 228, 59), (0, 227, 233, 62), (0, 227, 238, 65)]) rm_L_does_9 (fun ad => [.ref (ad x0), .int ((9 : Int32)), .int x2, .int x3, .int x4, .int x5, .int x6]) σ d z := by
  intro D cA base ad
  refine aw_ofCW (own := RL) (cc := cL_does) (nL := 8) (ret := some .int) [(0, 227, 228, 59), (0, 227, 233, 62), (0, 227, 238, 65)] (by decide) rfl rfl ?_
  intro p e s m below meth c X hT G
  have hx := X.1; have hb := X.2.1; have hml := X.2.2.1; have hown := X.2.2.2.1
  refine aw_ls (lv := [(0, .ref (ad x0)), (1, .int ((9 : Int32))), (2, .int x2), (3, .int x3), (4, .int x4), (5, .int x5), (6, .int x6)]) (Nat.le_of_ble_eq_true rfl) rfl (fun ls hl => ?_)
  unfold f_L_does_9 at hf
  refine lv_iload_n hx hb dL_does_0 rfl (lv_at hl 1 rfl) ?_
  refine lv_if_ne (tgt := 12) hx hb dL_does_1 (by decide) (fun hc => ?_) (fun hc => ?_)
  rotate_left
  · exact absurd hc (by decide)
  refine lv_iload_n hx hb dL_does_12 rfl (lv_at hl 1 rfl) ?_
  refine lv_iconst (v := (1 : Int32)) hx hb dL_does_13 (by decide) ?_
  refine lv_icmp_ne (tgt := 25) hx hb dL_does_14 (by decide) (fun hc => ?_) (fun hc => ?_)
  rotate_left
  · exact absurd hc (by decide)
  refine lv_iload_n hx hb dL_does_25 rfl (lv_at hl 1 rfl) ?_
  refine lv_iconst (v := (2 : Int32)) hx hb dL_does_26 (by decide) ?_
  refine lv_icmp_ne (tgt := 54) hx hb dL_does_27 (by decide) (fun hc => ?_) (fun hc => ?_)
  rotate_left
  · exact absurd hc (by decide)
  refine lv_iload_n hx hb dL_does_54 rfl (lv_at hl 1 rfl) ?_
  refine lv_iconst (v := (3 : Int32)) hx hb dL_does_55 (by decide) ?_
  refine lv_icmp_ne (tgt := 68) hx hb dL_does_56 (by decide) (fun hc => ?_) (fun hc => ?_)
  rotate_left
  · exact absurd hc (by decide)
  refine lv_iload_n hx hb dL_does_68 rfl (lv_at hl 1 rfl) ?_
  refine lv_iconst (v := (4 : Int32)) hx hb dL_does_69 (by decide) ?_
  refine lv_icmp_ne (tgt := 95) hx hb dL_does_70 (by decide) (fun hc => ?_) (fun hc => ?_)
  rotate_left
  · exact absurd hc (by decide)
  refine lv_iload_n hx hb dL_does_95 rfl (lv_at hl 1 rfl) ?_
  refine lv_iconst (v := (5 : Int32)) hx hb dL_does_96 (by decide) ?_
  refine lv_icmp_ne (tgt := 109) hx hb dL_does_97 (by decide) (fun hc => ?_) (fun hc => ?_)
  rotate_left
  · exact absurd hc (by decide)
  refine lv_iload_n hx hb dL_does_109 rfl (lv_at hl 1 rfl) ?_
  refine lv_bipush (v := (6 : Int32)) hx hb dL_does_110 (by decide) ?_
  refine lv_icmp_ne (tgt := 126) hx hb dL_does_112 (by decide) (fun hc => ?_) (fun hc => ?_)
  rotate_left
  · exact absurd hc (by decide)
  refine lv_iload_n hx hb dL_does_126 rfl (lv_at hl 1 rfl) ?_
  refine lv_bipush (v := (7 : Int32)) hx hb dL_does_127 (by decide) ?_
  refine lv_icmp_ne (tgt := 145) hx hb dL_does_129 (by decide) (fun hc => ?_) (fun hc => ?_)
  rotate_left
  · exact absurd hc (by decide)
  refine lv_iload_n hx hb dL_does_145 rfl (lv_at hl 1 rfl) ?_
  refine lv_bipush (v := (8 : Int32)) hx hb dL_does_146 (by decide) ?_
  refine lv_icmp_ne (tgt := 162) hx hb dL_does_148 (by decide) (fun hc => ?_) (fun hc => ?_)
  rotate_left
  · exact absurd hc (by decide)
  refine lv_iload_n hx hb dL_does_162 rfl (lv_at hl 1 rfl) ?_
  refine lv_bipush (v := (9 : Int32)) hx hb dL_does_163 (by decide) ?_
  refine lv_icmp_ne (tgt := 179) hx hb dL_does_165 (by decide) (fun hc => ?_) (fun hc => ?_)
  · exact absurd hc (by decide)
  refine lv_aload_n hx hb dL_does_168 rfl (lv_at hl 0 rfl) ?_
  refine lv_iload_n hx hb dL_does_169 rfl (lv_at hl 2 rfl) ?_
  refine lv_iload_n hx hb dL_does_170 rfl (lv_at hl 3 rfl) ?_
  refine lv_iload hx hb dL_does_171 (lv_at hl 4 rfl) ?_
  obtain ⟨hc_1, hf⟩ := aw_chk_some hf
  obtain ⟨z_2, hz_3, hf⟩ := aw_bind_some hf
  refine aw_CVI (As := [.int x2, .int x3, .int x4]) (rest := []) X G hl.1 cr_L_43 (c_X10_spelled l hst hz_3) rfl rfl rfl (by decide) hc_1 rfl ⟨(Nat.le_of_ble_eq_true rfl), (Nat.le_of_ble_eq_true rfl)⟩ (Nat.le_of_ble_eq_true rfl) dL_does_173 ⟨(Nat.le_of_ble_eq_true rfl), (Nat.le_of_ble_eq_true rfl)⟩ (fun e0 ce q9 H locs hz1 G hce hcv hcl => ?_) (fun v_4 H locs hz1 G => ?_)
  · have hf := aw_ct_l hz1 hf
    by_cases he : e0 = 1
    · have hf := aw_ite_t he hf
      subst he
      refine vx_catch (name := "java/lang/IndexOutOfBoundsException") hown [] (⟨0, 227, 228, 59⟩ : ExceptionTableEntry) [(⟨0, 227, 233, 62⟩ : ExceptionTableEntry), (⟨0, 227, 238, 65⟩ : ExceptionTableEntry)] (hT.trans rfl) (aw_hpass G.1 (fun _ h => nomatch h)) (by decide) (by decide) (G.1.hts _ m_310) (aw_cast G.1 (by decide)) hce hcv hcl ?_
      refine W.eq (g2 := F0 m 228 ls [.ref q9]) rfl ?_
      refine lv_astore (lv' := [(7, .ref q9), (0, .ref (ad x0)), (1, .int ((9 : Int32))), (2, .int x2), (3, .int x3), (4, .int x4), (5, .int x5), (6, .int x6)]) hx hb dL_does_228 hl (by decide) rfl (fun ls hl => ?_)
      refine lv_ldc (v := (-3000000 : Int32)) hx hb hown (G.1.hts _ m_759) dL_does_230 ?_
      exact aw_retj X G hf dL_does_232 (Nat.le_of_ble_eq_true rfl) (Nat.le_of_ble_eq_true rfl)
    have hf := aw_ite_f he hf
    by_cases he : e0 = 2
    · have hf := aw_ite_t he hf
      subst he
      refine vx_catch (name := "java/lang/IllegalArgumentException") hown [(⟨0, 227, 228, 59⟩ : ExceptionTableEntry)] (⟨0, 227, 233, 62⟩ : ExceptionTableEntry) [(⟨0, 227, 238, 65⟩ : ExceptionTableEntry)] (hT.trans rfl) (aw_hpass G.1 (List.forall_mem_cons.mpr ⟨⟨by decide, "java/lang/IndexOutOfBoundsException", by decide, m_310, by decide, by decide⟩, (fun _ h => nomatch h)⟩)) (by decide) (by decide) (G.1.hts _ m_311) (aw_cast G.1 (by decide)) hce hcv hcl ?_
      refine W.eq (g2 := F0 m 233 ls [.ref q9]) rfl ?_
      refine lv_astore (lv' := [(7, .ref q9), (0, .ref (ad x0)), (1, .int ((9 : Int32))), (2, .int x2), (3, .int x3), (4, .int x4), (5, .int x5), (6, .int x6)]) hx hb dL_does_233 hl (by decide) rfl (fun ls hl => ?_)
      refine lv_ldc (v := (-2000000 : Int32)) hx hb hown (G.1.hts _ m_760) dL_does_235 ?_
      exact aw_retj X G hf dL_does_237 (Nat.le_of_ble_eq_true rfl) (Nat.le_of_ble_eq_true rfl)
    have hf := aw_ite_f he hf
    by_cases he : e0 = 3
    · have hf := aw_ite_t he hf
      subst he
      refine vx_catch (name := "java/lang/IllegalStateException") hown [(⟨0, 227, 228, 59⟩ : ExceptionTableEntry), (⟨0, 227, 233, 62⟩ : ExceptionTableEntry)] (⟨0, 227, 238, 65⟩ : ExceptionTableEntry) [] (hT.trans rfl) (aw_hpass G.1 (List.forall_mem_cons.mpr ⟨⟨by decide, "java/lang/IndexOutOfBoundsException", by decide, m_310, by decide, by decide⟩, (List.forall_mem_cons.mpr ⟨⟨by decide, "java/lang/IllegalArgumentException", by decide, m_311, by decide, by decide⟩, (fun _ h => nomatch h)⟩)⟩)) (by decide) (by decide) (G.1.hts _ m_312) (aw_cast G.1 (by decide)) hce hcv hcl ?_
      refine W.eq (g2 := F0 m 238 ls [.ref q9]) rfl ?_
      refine lv_astore (lv' := [(7, .ref q9), (0, .ref (ad x0)), (1, .int ((9 : Int32))), (2, .int x2), (3, .int x3), (4, .int x4), (5, .int x5), (6, .int x6)]) hx hb dL_does_238 hl (by decide) rfl (fun ls hl => ?_)
      refine lv_ldc (v := (-1000000 : Int32)) hx hb hown (G.1.hts _ m_761) dL_does_240 ?_
      exact aw_retj X G hf dL_does_242 (Nat.le_of_ble_eq_true rfl) (Nat.le_of_ble_eq_true rfl)
    have hf := aw_ite_f he hf
    cases hf
  have hf := aw_ct_r hz1 hf
  refine lv_goto (tgt := 227) hx hb dL_does_176 (by decide) ?_
  exact aw_retj X G hf dL_does_227 (Nat.le_of_ble_eq_true rfl) (Nat.le_of_ble_eq_true rfl)
def rm_L_does_10 : Room := { frames := 8, cells := 2, slots := 12, locals := 132 }
def f_L_does_10 (σ : Sg) (x0 : Nat) (x2 : Int32) (x3 : Int32) (x4 : Int32) (x5 : Int32) (x6 : Int32) (d : Dt) : Option (Int32 × Dt) :=
  aw_chk (aw_O σ 10 13 x0) ((f_X10_leastCost σ x0 x2 d).bind (fun z_2 => aw_ct z_2 (fun e0 => if e0 = 1 then some ((-3000000 : Int32), z_2.2) else if e0 = 2 then some ((-2000000 : Int32), z_2.2) else if e0 = 3 then some ((-1000000 : Int32), z_2.2) else none) (fun v_4 => some (v_4, z_2.2))))
set_option maxHeartbeats 4000000 in
set_option maxRecDepth 100000 in
theorem c_L_does_10 (l : Launch) (hst : l.stackTraces = false) {σ : Sg} {x0 : Nat} {x2 : Int32} {x3 : Int32} {x4 : Int32} {x5 : Int32} {x6 : Int32} {d : Dt} {z : Int32 × Dt} (hf : f_L_does_10 σ x0 x2 x3 x4 x5 x6 d = some z) : aw_Mi l yL_does (Cond.codeWith yL_does cL_does 8 (some .int) [(0, 227, 228, 59), (0, 227, 233, 62), (0, 227, 238, 65)]) rm_L_does_10 (fun ad => [.ref (ad x0), .int ((10 : Int32)), .int x2, .int x3, .int x4, .int x5, .int x6]) σ d z := by
  intro D cA base ad
  refine aw_ofCW (own := RL) (cc := cL_does) (nL := 8) (ret := some .int) [(0, 227, 228, 59), (0, 227, 233, 62), (0, 227, 238, 65)] (by decide) rfl rfl ?_
  intro p e s m below meth c X hT G
  have hx := X.1; have hb := X.2.1; have hml := X.2.2.1; have hown := X.2.2.2.1
  refine aw_ls (lv := [(0, .ref (ad x0)), (1, .int ((10 : Int32))), (2, .int x2), (3, .int x3), (4, .int x4), (5, .int x5), (6, .int x6)]) (Nat.le_of_ble_eq_true rfl) rfl (fun ls hl => ?_)
  unfold f_L_does_10 at hf
  refine lv_iload_n hx hb dL_does_0 rfl (lv_at hl 1 rfl) ?_
  refine lv_if_ne (tgt := 12) hx hb dL_does_1 (by decide) (fun hc => ?_) (fun hc => ?_)
  rotate_left
  · exact absurd hc (by decide)
  refine lv_iload_n hx hb dL_does_12 rfl (lv_at hl 1 rfl) ?_
  refine lv_iconst (v := (1 : Int32)) hx hb dL_does_13 (by decide) ?_
  refine lv_icmp_ne (tgt := 25) hx hb dL_does_14 (by decide) (fun hc => ?_) (fun hc => ?_)
  rotate_left
  · exact absurd hc (by decide)
  refine lv_iload_n hx hb dL_does_25 rfl (lv_at hl 1 rfl) ?_
  refine lv_iconst (v := (2 : Int32)) hx hb dL_does_26 (by decide) ?_
  refine lv_icmp_ne (tgt := 54) hx hb dL_does_27 (by decide) (fun hc => ?_) (fun hc => ?_)
  rotate_left
  · exact absurd hc (by decide)
  refine lv_iload_n hx hb dL_does_54 rfl (lv_at hl 1 rfl) ?_
  refine lv_iconst (v := (3 : Int32)) hx hb dL_does_55 (by decide) ?_
  refine lv_icmp_ne (tgt := 68) hx hb dL_does_56 (by decide) (fun hc => ?_) (fun hc => ?_)
  rotate_left
  · exact absurd hc (by decide)
  refine lv_iload_n hx hb dL_does_68 rfl (lv_at hl 1 rfl) ?_
  refine lv_iconst (v := (4 : Int32)) hx hb dL_does_69 (by decide) ?_
  refine lv_icmp_ne (tgt := 95) hx hb dL_does_70 (by decide) (fun hc => ?_) (fun hc => ?_)
  rotate_left
  · exact absurd hc (by decide)
  refine lv_iload_n hx hb dL_does_95 rfl (lv_at hl 1 rfl) ?_
  refine lv_iconst (v := (5 : Int32)) hx hb dL_does_96 (by decide) ?_
  refine lv_icmp_ne (tgt := 109) hx hb dL_does_97 (by decide) (fun hc => ?_) (fun hc => ?_)
  rotate_left
  · exact absurd hc (by decide)
  refine lv_iload_n hx hb dL_does_109 rfl (lv_at hl 1 rfl) ?_
  refine lv_bipush (v := (6 : Int32)) hx hb dL_does_110 (by decide) ?_
  refine lv_icmp_ne (tgt := 126) hx hb dL_does_112 (by decide) (fun hc => ?_) (fun hc => ?_)
  rotate_left
  · exact absurd hc (by decide)
  refine lv_iload_n hx hb dL_does_126 rfl (lv_at hl 1 rfl) ?_
  refine lv_bipush (v := (7 : Int32)) hx hb dL_does_127 (by decide) ?_
  refine lv_icmp_ne (tgt := 145) hx hb dL_does_129 (by decide) (fun hc => ?_) (fun hc => ?_)
  rotate_left
  · exact absurd hc (by decide)
  refine lv_iload_n hx hb dL_does_145 rfl (lv_at hl 1 rfl) ?_
  refine lv_bipush (v := (8 : Int32)) hx hb dL_does_146 (by decide) ?_
  refine lv_icmp_ne (tgt := 162) hx hb dL_does_148 (by decide) (fun hc => ?_) (fun hc => ?_)
  rotate_left
  · exact absurd hc (by decide)
  refine lv_iload_n hx hb dL_does_162 rfl (lv_at hl 1 rfl) ?_
  refine lv_bipush (v := (9 : Int32)) hx hb dL_does_163 (by decide) ?_
  refine lv_icmp_ne (tgt := 179) hx hb dL_does_165 (by decide) (fun hc => ?_) (fun hc => ?_)
  rotate_left
  · exact absurd hc (by decide)
  refine lv_iload_n hx hb dL_does_179 rfl (lv_at hl 1 rfl) ?_
  refine lv_bipush (v := (10 : Int32)) hx hb dL_does_180 (by decide) ?_
  refine lv_icmp_ne (tgt := 193) hx hb dL_does_182 (by decide) (fun hc => ?_) (fun hc => ?_)
  · exact absurd hc (by decide)
  refine lv_aload_n hx hb dL_does_185 rfl (lv_at hl 0 rfl) ?_
  refine lv_iload_n hx hb dL_does_186 rfl (lv_at hl 2 rfl) ?_
  obtain ⟨hc_1, hf⟩ := aw_chk_some hf
  obtain ⟨z_2, hz_3, hf⟩ := aw_bind_some hf
  refine aw_CVI (As := [.int x2]) (rest := []) X G hl.1 cr_L_46 (c_X10_leastCost l hst hz_3) rfl rfl rfl (by decide) hc_1 rfl ⟨(Nat.le_of_ble_eq_true rfl), (Nat.le_of_ble_eq_true rfl)⟩ (Nat.le_of_ble_eq_true rfl) dL_does_187 ⟨(Nat.le_of_ble_eq_true rfl), (Nat.le_of_ble_eq_true rfl)⟩ (fun e0 ce q9 H locs hz1 G hce hcv hcl => ?_) (fun v_4 H locs hz1 G => ?_)
  · have hf := aw_ct_l hz1 hf
    by_cases he : e0 = 1
    · have hf := aw_ite_t he hf
      subst he
      refine vx_catch (name := "java/lang/IndexOutOfBoundsException") hown [] (⟨0, 227, 228, 59⟩ : ExceptionTableEntry) [(⟨0, 227, 233, 62⟩ : ExceptionTableEntry), (⟨0, 227, 238, 65⟩ : ExceptionTableEntry)] (hT.trans rfl) (aw_hpass G.1 (fun _ h => nomatch h)) (by decide) (by decide) (G.1.hts _ m_310) (aw_cast G.1 (by decide)) hce hcv hcl ?_
      refine W.eq (g2 := F0 m 228 ls [.ref q9]) rfl ?_
      refine lv_astore (lv' := [(7, .ref q9), (0, .ref (ad x0)), (1, .int ((10 : Int32))), (2, .int x2), (3, .int x3), (4, .int x4), (5, .int x5), (6, .int x6)]) hx hb dL_does_228 hl (by decide) rfl (fun ls hl => ?_)
      refine lv_ldc (v := (-3000000 : Int32)) hx hb hown (G.1.hts _ m_759) dL_does_230 ?_
      exact aw_retj X G hf dL_does_232 (Nat.le_of_ble_eq_true rfl) (Nat.le_of_ble_eq_true rfl)
    have hf := aw_ite_f he hf
    by_cases he : e0 = 2
    · have hf := aw_ite_t he hf
      subst he
      refine vx_catch (name := "java/lang/IllegalArgumentException") hown [(⟨0, 227, 228, 59⟩ : ExceptionTableEntry)] (⟨0, 227, 233, 62⟩ : ExceptionTableEntry) [(⟨0, 227, 238, 65⟩ : ExceptionTableEntry)] (hT.trans rfl) (aw_hpass G.1 (List.forall_mem_cons.mpr ⟨⟨by decide, "java/lang/IndexOutOfBoundsException", by decide, m_310, by decide, by decide⟩, (fun _ h => nomatch h)⟩)) (by decide) (by decide) (G.1.hts _ m_311) (aw_cast G.1 (by decide)) hce hcv hcl ?_
      refine W.eq (g2 := F0 m 233 ls [.ref q9]) rfl ?_
      refine lv_astore (lv' := [(7, .ref q9), (0, .ref (ad x0)), (1, .int ((10 : Int32))), (2, .int x2), (3, .int x3), (4, .int x4), (5, .int x5), (6, .int x6)]) hx hb dL_does_233 hl (by decide) rfl (fun ls hl => ?_)
      refine lv_ldc (v := (-2000000 : Int32)) hx hb hown (G.1.hts _ m_760) dL_does_235 ?_
      exact aw_retj X G hf dL_does_237 (Nat.le_of_ble_eq_true rfl) (Nat.le_of_ble_eq_true rfl)
    have hf := aw_ite_f he hf
    by_cases he : e0 = 3
    · have hf := aw_ite_t he hf
      subst he
      refine vx_catch (name := "java/lang/IllegalStateException") hown [(⟨0, 227, 228, 59⟩ : ExceptionTableEntry), (⟨0, 227, 233, 62⟩ : ExceptionTableEntry)] (⟨0, 227, 238, 65⟩ : ExceptionTableEntry) [] (hT.trans rfl) (aw_hpass G.1 (List.forall_mem_cons.mpr ⟨⟨by decide, "java/lang/IndexOutOfBoundsException", by decide, m_310, by decide, by decide⟩, (List.forall_mem_cons.mpr ⟨⟨by decide, "java/lang/IllegalArgumentException", by decide, m_311, by decide, by decide⟩, (fun _ h => nomatch h)⟩)⟩)) (by decide) (by decide) (G.1.hts _ m_312) (aw_cast G.1 (by decide)) hce hcv hcl ?_
      refine W.eq (g2 := F0 m 238 ls [.ref q9]) rfl ?_
      refine lv_astore (lv' := [(7, .ref q9), (0, .ref (ad x0)), (1, .int ((10 : Int32))), (2, .int x2), (3, .int x3), (4, .int x4), (5, .int x5), (6, .int x6)]) hx hb dL_does_238 hl (by decide) rfl (fun ls hl => ?_)
      refine lv_ldc (v := (-1000000 : Int32)) hx hb hown (G.1.hts _ m_761) dL_does_240 ?_
      exact aw_retj X G hf dL_does_242 (Nat.le_of_ble_eq_true rfl) (Nat.le_of_ble_eq_true rfl)
    have hf := aw_ite_f he hf
    cases hf
  have hf := aw_ct_r hz1 hf
  refine lv_goto (tgt := 227) hx hb dL_does_190 (by decide) ?_
  exact aw_retj X G hf dL_does_227 (Nat.le_of_ble_eq_true rfl) (Nat.le_of_ble_eq_true rfl)
def rm_L_does_11 : Room := { frames := 8, cells := 2, slots := 12, locals := 150 }
def f_L_does_11 (σ : Sg) (x0 : Nat) (x2 : Int32) (x3 : Int32) (x4 : Int32) (x5 : Int32) (x6 : Int32) (d : Dt) : Option (Int32 × Dt) :=
  aw_chk (aw_O σ 10 13 x0) ((f_X10_errors σ x0 x2 x3 d).bind (fun z_2 => aw_ct z_2 (fun e0 => if e0 = 1 then some ((-3000000 : Int32), z_2.2) else if e0 = 2 then some ((-2000000 : Int32), z_2.2) else if e0 = 3 then some ((-1000000 : Int32), z_2.2) else none) (fun v_4 => some (v_4, z_2.2))))
set_option maxHeartbeats 4000000 in
set_option maxRecDepth 100000 in
theorem c_L_does_11 (l : Launch) (hst : l.stackTraces = false) {σ : Sg} {x0 : Nat} {x2 : Int32} {x3 : Int32} {x4 : Int32} {x5 : Int32} {x6 : Int32} {d : Dt} {z : Int32 × Dt} (hf : f_L_does_11 σ x0 x2 x3 x4 x5 x6 d = some z) : aw_Mi l yL_does (Cond.codeWith yL_does cL_does 8 (some .int) [(0, 227, 228, 59), (0, 227, 233, 62), (0, 227, 238, 65)]) rm_L_does_11 (fun ad => [.ref (ad x0), .int ((11 : Int32)), .int x2, .int x3, .int x4, .int x5, .int x6]) σ d z := by
  intro D cA base ad
  refine aw_ofCW (own := RL) (cc := cL_does) (nL := 8) (ret := some .int) [(0, 227, 228, 59), (0, 227, 233, 62), (0, 227, 238, 65)] (by decide) rfl rfl ?_
  intro p e s m below meth c X hT G
  have hx := X.1; have hb := X.2.1; have hml := X.2.2.1; have hown := X.2.2.2.1
  refine aw_ls (lv := [(0, .ref (ad x0)), (1, .int ((11 : Int32))), (2, .int x2), (3, .int x3), (4, .int x4), (5, .int x5), (6, .int x6)]) (Nat.le_of_ble_eq_true rfl) rfl (fun ls hl => ?_)
  unfold f_L_does_11 at hf
  refine lv_iload_n hx hb dL_does_0 rfl (lv_at hl 1 rfl) ?_
  refine lv_if_ne (tgt := 12) hx hb dL_does_1 (by decide) (fun hc => ?_) (fun hc => ?_)
  rotate_left
  · exact absurd hc (by decide)
  refine lv_iload_n hx hb dL_does_12 rfl (lv_at hl 1 rfl) ?_
  refine lv_iconst (v := (1 : Int32)) hx hb dL_does_13 (by decide) ?_
  refine lv_icmp_ne (tgt := 25) hx hb dL_does_14 (by decide) (fun hc => ?_) (fun hc => ?_)
  rotate_left
  · exact absurd hc (by decide)
  refine lv_iload_n hx hb dL_does_25 rfl (lv_at hl 1 rfl) ?_
  refine lv_iconst (v := (2 : Int32)) hx hb dL_does_26 (by decide) ?_
  refine lv_icmp_ne (tgt := 54) hx hb dL_does_27 (by decide) (fun hc => ?_) (fun hc => ?_)
  rotate_left
  · exact absurd hc (by decide)
  refine lv_iload_n hx hb dL_does_54 rfl (lv_at hl 1 rfl) ?_
  refine lv_iconst (v := (3 : Int32)) hx hb dL_does_55 (by decide) ?_
  refine lv_icmp_ne (tgt := 68) hx hb dL_does_56 (by decide) (fun hc => ?_) (fun hc => ?_)
  rotate_left
  · exact absurd hc (by decide)
  refine lv_iload_n hx hb dL_does_68 rfl (lv_at hl 1 rfl) ?_
  refine lv_iconst (v := (4 : Int32)) hx hb dL_does_69 (by decide) ?_
  refine lv_icmp_ne (tgt := 95) hx hb dL_does_70 (by decide) (fun hc => ?_) (fun hc => ?_)
  rotate_left
  · exact absurd hc (by decide)
  refine lv_iload_n hx hb dL_does_95 rfl (lv_at hl 1 rfl) ?_
  refine lv_iconst (v := (5 : Int32)) hx hb dL_does_96 (by decide) ?_
  refine lv_icmp_ne (tgt := 109) hx hb dL_does_97 (by decide) (fun hc => ?_) (fun hc => ?_)
  rotate_left
  · exact absurd hc (by decide)
  refine lv_iload_n hx hb dL_does_109 rfl (lv_at hl 1 rfl) ?_
  refine lv_bipush (v := (6 : Int32)) hx hb dL_does_110 (by decide) ?_
  refine lv_icmp_ne (tgt := 126) hx hb dL_does_112 (by decide) (fun hc => ?_) (fun hc => ?_)
  rotate_left
  · exact absurd hc (by decide)
  refine lv_iload_n hx hb dL_does_126 rfl (lv_at hl 1 rfl) ?_
  refine lv_bipush (v := (7 : Int32)) hx hb dL_does_127 (by decide) ?_
  refine lv_icmp_ne (tgt := 145) hx hb dL_does_129 (by decide) (fun hc => ?_) (fun hc => ?_)
  rotate_left
  · exact absurd hc (by decide)
  refine lv_iload_n hx hb dL_does_145 rfl (lv_at hl 1 rfl) ?_
  refine lv_bipush (v := (8 : Int32)) hx hb dL_does_146 (by decide) ?_
  refine lv_icmp_ne (tgt := 162) hx hb dL_does_148 (by decide) (fun hc => ?_) (fun hc => ?_)
  rotate_left
  · exact absurd hc (by decide)
  refine lv_iload_n hx hb dL_does_162 rfl (lv_at hl 1 rfl) ?_
  refine lv_bipush (v := (9 : Int32)) hx hb dL_does_163 (by decide) ?_
  refine lv_icmp_ne (tgt := 179) hx hb dL_does_165 (by decide) (fun hc => ?_) (fun hc => ?_)
  rotate_left
  · exact absurd hc (by decide)
  refine lv_iload_n hx hb dL_does_179 rfl (lv_at hl 1 rfl) ?_
  refine lv_bipush (v := (10 : Int32)) hx hb dL_does_180 (by decide) ?_
  refine lv_icmp_ne (tgt := 193) hx hb dL_does_182 (by decide) (fun hc => ?_) (fun hc => ?_)
  rotate_left
  · exact absurd hc (by decide)
  refine lv_iload_n hx hb dL_does_193 rfl (lv_at hl 1 rfl) ?_
  refine lv_bipush (v := (11 : Int32)) hx hb dL_does_194 (by decide) ?_
  refine lv_icmp_ne (tgt := 208) hx hb dL_does_196 (by decide) (fun hc => ?_) (fun hc => ?_)
  · exact absurd hc (by decide)
  refine lv_aload_n hx hb dL_does_199 rfl (lv_at hl 0 rfl) ?_
  refine lv_iload_n hx hb dL_does_200 rfl (lv_at hl 2 rfl) ?_
  refine lv_iload_n hx hb dL_does_201 rfl (lv_at hl 3 rfl) ?_
  obtain ⟨hc_1, hf⟩ := aw_chk_some hf
  obtain ⟨z_2, hz_3, hf⟩ := aw_bind_some hf
  refine aw_CVI (As := [.int x2, .int x3]) (rest := []) X G hl.1 cr_L_49 (c_X10_errors l hst hz_3) rfl rfl rfl (by decide) hc_1 rfl ⟨(Nat.le_of_ble_eq_true rfl), (Nat.le_of_ble_eq_true rfl)⟩ (Nat.le_of_ble_eq_true rfl) dL_does_202 ⟨(Nat.le_of_ble_eq_true rfl), (Nat.le_of_ble_eq_true rfl)⟩ (fun e0 ce q9 H locs hz1 G hce hcv hcl => ?_) (fun v_4 H locs hz1 G => ?_)
  · have hf := aw_ct_l hz1 hf
    by_cases he : e0 = 1
    · have hf := aw_ite_t he hf
      subst he
      refine vx_catch (name := "java/lang/IndexOutOfBoundsException") hown [] (⟨0, 227, 228, 59⟩ : ExceptionTableEntry) [(⟨0, 227, 233, 62⟩ : ExceptionTableEntry), (⟨0, 227, 238, 65⟩ : ExceptionTableEntry)] (hT.trans rfl) (aw_hpass G.1 (fun _ h => nomatch h)) (by decide) (by decide) (G.1.hts _ m_310) (aw_cast G.1 (by decide)) hce hcv hcl ?_
      refine W.eq (g2 := F0 m 228 ls [.ref q9]) rfl ?_
      refine lv_astore (lv' := [(7, .ref q9), (0, .ref (ad x0)), (1, .int ((11 : Int32))), (2, .int x2), (3, .int x3), (4, .int x4), (5, .int x5), (6, .int x6)]) hx hb dL_does_228 hl (by decide) rfl (fun ls hl => ?_)
      refine lv_ldc (v := (-3000000 : Int32)) hx hb hown (G.1.hts _ m_759) dL_does_230 ?_
      exact aw_retj X G hf dL_does_232 (Nat.le_of_ble_eq_true rfl) (Nat.le_of_ble_eq_true rfl)
    have hf := aw_ite_f he hf
    by_cases he : e0 = 2
    · have hf := aw_ite_t he hf
      subst he
      refine vx_catch (name := "java/lang/IllegalArgumentException") hown [(⟨0, 227, 228, 59⟩ : ExceptionTableEntry)] (⟨0, 227, 233, 62⟩ : ExceptionTableEntry) [(⟨0, 227, 238, 65⟩ : ExceptionTableEntry)] (hT.trans rfl) (aw_hpass G.1 (List.forall_mem_cons.mpr ⟨⟨by decide, "java/lang/IndexOutOfBoundsException", by decide, m_310, by decide, by decide⟩, (fun _ h => nomatch h)⟩)) (by decide) (by decide) (G.1.hts _ m_311) (aw_cast G.1 (by decide)) hce hcv hcl ?_
      refine W.eq (g2 := F0 m 233 ls [.ref q9]) rfl ?_
      refine lv_astore (lv' := [(7, .ref q9), (0, .ref (ad x0)), (1, .int ((11 : Int32))), (2, .int x2), (3, .int x3), (4, .int x4), (5, .int x5), (6, .int x6)]) hx hb dL_does_233 hl (by decide) rfl (fun ls hl => ?_)
      refine lv_ldc (v := (-2000000 : Int32)) hx hb hown (G.1.hts _ m_760) dL_does_235 ?_
      exact aw_retj X G hf dL_does_237 (Nat.le_of_ble_eq_true rfl) (Nat.le_of_ble_eq_true rfl)
    have hf := aw_ite_f he hf
    by_cases he : e0 = 3
    · have hf := aw_ite_t he hf
      subst he
      refine vx_catch (name := "java/lang/IllegalStateException") hown [(⟨0, 227, 228, 59⟩ : ExceptionTableEntry), (⟨0, 227, 233, 62⟩ : ExceptionTableEntry)] (⟨0, 227, 238, 65⟩ : ExceptionTableEntry) [] (hT.trans rfl) (aw_hpass G.1 (List.forall_mem_cons.mpr ⟨⟨by decide, "java/lang/IndexOutOfBoundsException", by decide, m_310, by decide, by decide⟩, (List.forall_mem_cons.mpr ⟨⟨by decide, "java/lang/IllegalArgumentException", by decide, m_311, by decide, by decide⟩, (fun _ h => nomatch h)⟩)⟩)) (by decide) (by decide) (G.1.hts _ m_312) (aw_cast G.1 (by decide)) hce hcv hcl ?_
      refine W.eq (g2 := F0 m 238 ls [.ref q9]) rfl ?_
      refine lv_astore (lv' := [(7, .ref q9), (0, .ref (ad x0)), (1, .int ((11 : Int32))), (2, .int x2), (3, .int x3), (4, .int x4), (5, .int x5), (6, .int x6)]) hx hb dL_does_238 hl (by decide) rfl (fun ls hl => ?_)
      refine lv_ldc (v := (-1000000 : Int32)) hx hb hown (G.1.hts _ m_761) dL_does_240 ?_
      exact aw_retj X G hf dL_does_242 (Nat.le_of_ble_eq_true rfl) (Nat.le_of_ble_eq_true rfl)
    have hf := aw_ite_f he hf
    cases hf
  have hf := aw_ct_r hz1 hf
  refine lv_goto (tgt := 227) hx hb dL_does_205 (by decide) ?_
  exact aw_retj X G hf dL_does_227 (Nat.le_of_ble_eq_true rfl) (Nat.le_of_ble_eq_true rfl)
def rm_L_does_12 : Room := { frames := 7, cells := 1, slots := 6, locals := 167 }
def f_L_does_12 (σ : Sg) (x0 : Nat) (x2 : Int32) (x3 : Int32) (x4 : Int32) (x5 : Int32) (x6 : Int32) (d : Dt) : Option (Int32 × Dt) :=
  aw_chk (aw_O σ 10 13 x0) ((f_X10_elected σ x0 d).bind (fun z_2 => aw_ct z_2 (fun e0 => if e0 = 1 then some ((-3000000 : Int32), z_2.2) else if e0 = 2 then some ((-2000000 : Int32), z_2.2) else if e0 = 3 then some ((-1000000 : Int32), z_2.2) else none) (fun v_4 => some (v_4, z_2.2))))
set_option maxHeartbeats 4000000 in
set_option maxRecDepth 100000 in
theorem c_L_does_12 (l : Launch) (hst : l.stackTraces = false) {σ : Sg} {x0 : Nat} {x2 : Int32} {x3 : Int32} {x4 : Int32} {x5 : Int32} {x6 : Int32} {d : Dt} {z : Int32 × Dt} (hf : f_L_does_12 σ x0 x2 x3 x4 x5 x6 d = some z) : aw_Mi l yL_does (Cond.codeWith yL_does cL_does 8 (some .int) [(0, 227, 228, 59), (0, 227, 233, 62), (0, 227, 238, 65)]) rm_L_does_12 (fun ad => [.ref (ad x0), .int ((12 : Int32)), .int x2, .int x3, .int x4, .int x5, .int x6]) σ d z := by
  intro D cA base ad
  refine aw_ofCW (own := RL) (cc := cL_does) (nL := 8) (ret := some .int) [(0, 227, 228, 59), (0, 227, 233, 62), (0, 227, 238, 65)] (by decide) rfl rfl ?_
  intro p e s m below meth c X hT G
  have hx := X.1; have hb := X.2.1; have hml := X.2.2.1; have hown := X.2.2.2.1
  refine aw_ls (lv := [(0, .ref (ad x0)), (1, .int ((12 : Int32))), (2, .int x2), (3, .int x3), (4, .int x4), (5, .int x5), (6, .int x6)]) (Nat.le_of_ble_eq_true rfl) rfl (fun ls hl => ?_)
  unfold f_L_does_12 at hf
  refine lv_iload_n hx hb dL_does_0 rfl (lv_at hl 1 rfl) ?_
  refine lv_if_ne (tgt := 12) hx hb dL_does_1 (by decide) (fun hc => ?_) (fun hc => ?_)
  rotate_left
  · exact absurd hc (by decide)
  refine lv_iload_n hx hb dL_does_12 rfl (lv_at hl 1 rfl) ?_
  refine lv_iconst (v := (1 : Int32)) hx hb dL_does_13 (by decide) ?_
  refine lv_icmp_ne (tgt := 25) hx hb dL_does_14 (by decide) (fun hc => ?_) (fun hc => ?_)
  rotate_left
  · exact absurd hc (by decide)
  refine lv_iload_n hx hb dL_does_25 rfl (lv_at hl 1 rfl) ?_
  refine lv_iconst (v := (2 : Int32)) hx hb dL_does_26 (by decide) ?_
  refine lv_icmp_ne (tgt := 54) hx hb dL_does_27 (by decide) (fun hc => ?_) (fun hc => ?_)
  rotate_left
  · exact absurd hc (by decide)
  refine lv_iload_n hx hb dL_does_54 rfl (lv_at hl 1 rfl) ?_
  refine lv_iconst (v := (3 : Int32)) hx hb dL_does_55 (by decide) ?_
  refine lv_icmp_ne (tgt := 68) hx hb dL_does_56 (by decide) (fun hc => ?_) (fun hc => ?_)
  rotate_left
  · exact absurd hc (by decide)
  refine lv_iload_n hx hb dL_does_68 rfl (lv_at hl 1 rfl) ?_
  refine lv_iconst (v := (4 : Int32)) hx hb dL_does_69 (by decide) ?_
  refine lv_icmp_ne (tgt := 95) hx hb dL_does_70 (by decide) (fun hc => ?_) (fun hc => ?_)
  rotate_left
  · exact absurd hc (by decide)
  refine lv_iload_n hx hb dL_does_95 rfl (lv_at hl 1 rfl) ?_
  refine lv_iconst (v := (5 : Int32)) hx hb dL_does_96 (by decide) ?_
  refine lv_icmp_ne (tgt := 109) hx hb dL_does_97 (by decide) (fun hc => ?_) (fun hc => ?_)
  rotate_left
  · exact absurd hc (by decide)
  refine lv_iload_n hx hb dL_does_109 rfl (lv_at hl 1 rfl) ?_
  refine lv_bipush (v := (6 : Int32)) hx hb dL_does_110 (by decide) ?_
  refine lv_icmp_ne (tgt := 126) hx hb dL_does_112 (by decide) (fun hc => ?_) (fun hc => ?_)
  rotate_left
  · exact absurd hc (by decide)
  refine lv_iload_n hx hb dL_does_126 rfl (lv_at hl 1 rfl) ?_
  refine lv_bipush (v := (7 : Int32)) hx hb dL_does_127 (by decide) ?_
  refine lv_icmp_ne (tgt := 145) hx hb dL_does_129 (by decide) (fun hc => ?_) (fun hc => ?_)
  rotate_left
  · exact absurd hc (by decide)
  refine lv_iload_n hx hb dL_does_145 rfl (lv_at hl 1 rfl) ?_
  refine lv_bipush (v := (8 : Int32)) hx hb dL_does_146 (by decide) ?_
  refine lv_icmp_ne (tgt := 162) hx hb dL_does_148 (by decide) (fun hc => ?_) (fun hc => ?_)
  rotate_left
  · exact absurd hc (by decide)
  refine lv_iload_n hx hb dL_does_162 rfl (lv_at hl 1 rfl) ?_
  refine lv_bipush (v := (9 : Int32)) hx hb dL_does_163 (by decide) ?_
  refine lv_icmp_ne (tgt := 179) hx hb dL_does_165 (by decide) (fun hc => ?_) (fun hc => ?_)
  rotate_left
  · exact absurd hc (by decide)
  refine lv_iload_n hx hb dL_does_179 rfl (lv_at hl 1 rfl) ?_
  refine lv_bipush (v := (10 : Int32)) hx hb dL_does_180 (by decide) ?_
  refine lv_icmp_ne (tgt := 193) hx hb dL_does_182 (by decide) (fun hc => ?_) (fun hc => ?_)
  rotate_left
  · exact absurd hc (by decide)
  refine lv_iload_n hx hb dL_does_193 rfl (lv_at hl 1 rfl) ?_
  refine lv_bipush (v := (11 : Int32)) hx hb dL_does_194 (by decide) ?_
  refine lv_icmp_ne (tgt := 208) hx hb dL_does_196 (by decide) (fun hc => ?_) (fun hc => ?_)
  rotate_left
  · exact absurd hc (by decide)
  refine lv_iload_n hx hb dL_does_208 rfl (lv_at hl 1 rfl) ?_
  refine lv_bipush (v := (12 : Int32)) hx hb dL_does_209 (by decide) ?_
  refine lv_icmp_ne (tgt := 221) hx hb dL_does_211 (by decide) (fun hc => ?_) (fun hc => ?_)
  · exact absurd hc (by decide)
  refine lv_aload_n hx hb dL_does_214 rfl (lv_at hl 0 rfl) ?_
  obtain ⟨hc_1, hf⟩ := aw_chk_some hf
  obtain ⟨z_2, hz_3, hf⟩ := aw_bind_some hf
  refine aw_CVI (As := []) (rest := []) X G hl.1 cr_L_52 (c_X10_elected l hst hz_3) rfl rfl rfl (by decide) hc_1 rfl ⟨(Nat.le_of_ble_eq_true rfl), (Nat.le_of_ble_eq_true rfl)⟩ (Nat.le_of_ble_eq_true rfl) dL_does_215 ⟨(Nat.le_of_ble_eq_true rfl), (Nat.le_of_ble_eq_true rfl)⟩ (fun e0 ce q9 H locs hz1 G hce hcv hcl => ?_) (fun v_4 H locs hz1 G => ?_)
  · have hf := aw_ct_l hz1 hf
    by_cases he : e0 = 1
    · have hf := aw_ite_t he hf
      subst he
      refine vx_catch (name := "java/lang/IndexOutOfBoundsException") hown [] (⟨0, 227, 228, 59⟩ : ExceptionTableEntry) [(⟨0, 227, 233, 62⟩ : ExceptionTableEntry), (⟨0, 227, 238, 65⟩ : ExceptionTableEntry)] (hT.trans rfl) (aw_hpass G.1 (fun _ h => nomatch h)) (by decide) (by decide) (G.1.hts _ m_310) (aw_cast G.1 (by decide)) hce hcv hcl ?_
      refine W.eq (g2 := F0 m 228 ls [.ref q9]) rfl ?_
      refine lv_astore (lv' := [(7, .ref q9), (0, .ref (ad x0)), (1, .int ((12 : Int32))), (2, .int x2), (3, .int x3), (4, .int x4), (5, .int x5), (6, .int x6)]) hx hb dL_does_228 hl (by decide) rfl (fun ls hl => ?_)
      refine lv_ldc (v := (-3000000 : Int32)) hx hb hown (G.1.hts _ m_759) dL_does_230 ?_
      exact aw_retj X G hf dL_does_232 (Nat.le_of_ble_eq_true rfl) (Nat.le_of_ble_eq_true rfl)
    have hf := aw_ite_f he hf
    by_cases he : e0 = 2
    · have hf := aw_ite_t he hf
      subst he
      refine vx_catch (name := "java/lang/IllegalArgumentException") hown [(⟨0, 227, 228, 59⟩ : ExceptionTableEntry)] (⟨0, 227, 233, 62⟩ : ExceptionTableEntry) [(⟨0, 227, 238, 65⟩ : ExceptionTableEntry)] (hT.trans rfl) (aw_hpass G.1 (List.forall_mem_cons.mpr ⟨⟨by decide, "java/lang/IndexOutOfBoundsException", by decide, m_310, by decide, by decide⟩, (fun _ h => nomatch h)⟩)) (by decide) (by decide) (G.1.hts _ m_311) (aw_cast G.1 (by decide)) hce hcv hcl ?_
      refine W.eq (g2 := F0 m 233 ls [.ref q9]) rfl ?_
      refine lv_astore (lv' := [(7, .ref q9), (0, .ref (ad x0)), (1, .int ((12 : Int32))), (2, .int x2), (3, .int x3), (4, .int x4), (5, .int x5), (6, .int x6)]) hx hb dL_does_233 hl (by decide) rfl (fun ls hl => ?_)
      refine lv_ldc (v := (-2000000 : Int32)) hx hb hown (G.1.hts _ m_760) dL_does_235 ?_
      exact aw_retj X G hf dL_does_237 (Nat.le_of_ble_eq_true rfl) (Nat.le_of_ble_eq_true rfl)
    have hf := aw_ite_f he hf
    by_cases he : e0 = 3
    · have hf := aw_ite_t he hf
      subst he
      refine vx_catch (name := "java/lang/IllegalStateException") hown [(⟨0, 227, 228, 59⟩ : ExceptionTableEntry), (⟨0, 227, 233, 62⟩ : ExceptionTableEntry)] (⟨0, 227, 238, 65⟩ : ExceptionTableEntry) [] (hT.trans rfl) (aw_hpass G.1 (List.forall_mem_cons.mpr ⟨⟨by decide, "java/lang/IndexOutOfBoundsException", by decide, m_310, by decide, by decide⟩, (List.forall_mem_cons.mpr ⟨⟨by decide, "java/lang/IllegalArgumentException", by decide, m_311, by decide, by decide⟩, (fun _ h => nomatch h)⟩)⟩)) (by decide) (by decide) (G.1.hts _ m_312) (aw_cast G.1 (by decide)) hce hcv hcl ?_
      refine W.eq (g2 := F0 m 238 ls [.ref q9]) rfl ?_
      refine lv_astore (lv' := [(7, .ref q9), (0, .ref (ad x0)), (1, .int ((12 : Int32))), (2, .int x2), (3, .int x3), (4, .int x4), (5, .int x5), (6, .int x6)]) hx hb dL_does_238 hl (by decide) rfl (fun ls hl => ?_)
      refine lv_ldc (v := (-1000000 : Int32)) hx hb hown (G.1.hts _ m_761) dL_does_240 ?_
      exact aw_retj X G hf dL_does_242 (Nat.le_of_ble_eq_true rfl) (Nat.le_of_ble_eq_true rfl)
    have hf := aw_ite_f he hf
    cases hf
  have hf := aw_ct_r hz1 hf
  refine lv_goto (tgt := 227) hx hb dL_does_218 (by decide) ?_
  exact aw_retj X G hf dL_does_227 (Nat.le_of_ble_eq_true rfl) (Nat.le_of_ble_eq_true rfl)
def rm_L_does_13 : Room := { frames := 8, cells := 2, slots := 12, locals := 142 }
def f_L_does_13 (σ : Sg) (x0 : Nat) (x2 : Int32) (x3 : Int32) (x4 : Int32) (x5 : Int32) (x6 : Int32) (d : Dt) : Option (Int32 × Dt) :=
  aw_chk (aw_O σ 10 13 x0) ((f_X10_primer σ x0 x2 x3 d).bind (fun z_2 => aw_ct z_2 (fun e0 => if e0 = 1 then some ((-3000000 : Int32), z_2.2) else if e0 = 2 then some ((-2000000 : Int32), z_2.2) else if e0 = 3 then some ((-1000000 : Int32), z_2.2) else none) (fun v_4 => some (v_4, z_2.2))))
set_option maxHeartbeats 4000000 in
set_option maxRecDepth 100000 in
theorem c_L_does_13 (l : Launch) (hst : l.stackTraces = false) {σ : Sg} {x0 : Nat} {x2 : Int32} {x3 : Int32} {x4 : Int32} {x5 : Int32} {x6 : Int32} {d : Dt} {z : Int32 × Dt} (hf : f_L_does_13 σ x0 x2 x3 x4 x5 x6 d = some z) : aw_Mi l yL_does (Cond.codeWith yL_does cL_does 8 (some .int) [(0, 227, 228, 59), (0, 227, 233, 62), (0, 227, 238, 65)]) rm_L_does_13 (fun ad => [.ref (ad x0), .int ((13 : Int32)), .int x2, .int x3, .int x4, .int x5, .int x6]) σ d z := by
  intro D cA base ad
  refine aw_ofCW (own := RL) (cc := cL_does) (nL := 8) (ret := some .int) [(0, 227, 228, 59), (0, 227, 233, 62), (0, 227, 238, 65)] (by decide) rfl rfl ?_
  intro p e s m below meth c X hT G
  have hx := X.1; have hb := X.2.1; have hml := X.2.2.1; have hown := X.2.2.2.1
  refine aw_ls (lv := [(0, .ref (ad x0)), (1, .int ((13 : Int32))), (2, .int x2), (3, .int x3), (4, .int x4), (5, .int x5), (6, .int x6)]) (Nat.le_of_ble_eq_true rfl) rfl (fun ls hl => ?_)
  unfold f_L_does_13 at hf
  refine lv_iload_n hx hb dL_does_0 rfl (lv_at hl 1 rfl) ?_
  refine lv_if_ne (tgt := 12) hx hb dL_does_1 (by decide) (fun hc => ?_) (fun hc => ?_)
  rotate_left
  · exact absurd hc (by decide)
  refine lv_iload_n hx hb dL_does_12 rfl (lv_at hl 1 rfl) ?_
  refine lv_iconst (v := (1 : Int32)) hx hb dL_does_13 (by decide) ?_
  refine lv_icmp_ne (tgt := 25) hx hb dL_does_14 (by decide) (fun hc => ?_) (fun hc => ?_)
  rotate_left
  · exact absurd hc (by decide)
  refine lv_iload_n hx hb dL_does_25 rfl (lv_at hl 1 rfl) ?_
  refine lv_iconst (v := (2 : Int32)) hx hb dL_does_26 (by decide) ?_
  refine lv_icmp_ne (tgt := 54) hx hb dL_does_27 (by decide) (fun hc => ?_) (fun hc => ?_)
  rotate_left
  · exact absurd hc (by decide)
  refine lv_iload_n hx hb dL_does_54 rfl (lv_at hl 1 rfl) ?_
  refine lv_iconst (v := (3 : Int32)) hx hb dL_does_55 (by decide) ?_
  refine lv_icmp_ne (tgt := 68) hx hb dL_does_56 (by decide) (fun hc => ?_) (fun hc => ?_)
  rotate_left
  · exact absurd hc (by decide)
  refine lv_iload_n hx hb dL_does_68 rfl (lv_at hl 1 rfl) ?_
  refine lv_iconst (v := (4 : Int32)) hx hb dL_does_69 (by decide) ?_
  refine lv_icmp_ne (tgt := 95) hx hb dL_does_70 (by decide) (fun hc => ?_) (fun hc => ?_)
  rotate_left
  · exact absurd hc (by decide)
  refine lv_iload_n hx hb dL_does_95 rfl (lv_at hl 1 rfl) ?_
  refine lv_iconst (v := (5 : Int32)) hx hb dL_does_96 (by decide) ?_
  refine lv_icmp_ne (tgt := 109) hx hb dL_does_97 (by decide) (fun hc => ?_) (fun hc => ?_)
  rotate_left
  · exact absurd hc (by decide)
  refine lv_iload_n hx hb dL_does_109 rfl (lv_at hl 1 rfl) ?_
  refine lv_bipush (v := (6 : Int32)) hx hb dL_does_110 (by decide) ?_
  refine lv_icmp_ne (tgt := 126) hx hb dL_does_112 (by decide) (fun hc => ?_) (fun hc => ?_)
  rotate_left
  · exact absurd hc (by decide)
  refine lv_iload_n hx hb dL_does_126 rfl (lv_at hl 1 rfl) ?_
  refine lv_bipush (v := (7 : Int32)) hx hb dL_does_127 (by decide) ?_
  refine lv_icmp_ne (tgt := 145) hx hb dL_does_129 (by decide) (fun hc => ?_) (fun hc => ?_)
  rotate_left
  · exact absurd hc (by decide)
  refine lv_iload_n hx hb dL_does_145 rfl (lv_at hl 1 rfl) ?_
  refine lv_bipush (v := (8 : Int32)) hx hb dL_does_146 (by decide) ?_
  refine lv_icmp_ne (tgt := 162) hx hb dL_does_148 (by decide) (fun hc => ?_) (fun hc => ?_)
  rotate_left
  · exact absurd hc (by decide)
  refine lv_iload_n hx hb dL_does_162 rfl (lv_at hl 1 rfl) ?_
  refine lv_bipush (v := (9 : Int32)) hx hb dL_does_163 (by decide) ?_
  refine lv_icmp_ne (tgt := 179) hx hb dL_does_165 (by decide) (fun hc => ?_) (fun hc => ?_)
  rotate_left
  · exact absurd hc (by decide)
  refine lv_iload_n hx hb dL_does_179 rfl (lv_at hl 1 rfl) ?_
  refine lv_bipush (v := (10 : Int32)) hx hb dL_does_180 (by decide) ?_
  refine lv_icmp_ne (tgt := 193) hx hb dL_does_182 (by decide) (fun hc => ?_) (fun hc => ?_)
  rotate_left
  · exact absurd hc (by decide)
  refine lv_iload_n hx hb dL_does_193 rfl (lv_at hl 1 rfl) ?_
  refine lv_bipush (v := (11 : Int32)) hx hb dL_does_194 (by decide) ?_
  refine lv_icmp_ne (tgt := 208) hx hb dL_does_196 (by decide) (fun hc => ?_) (fun hc => ?_)
  rotate_left
  · exact absurd hc (by decide)
  refine lv_iload_n hx hb dL_does_208 rfl (lv_at hl 1 rfl) ?_
  refine lv_bipush (v := (12 : Int32)) hx hb dL_does_209 (by decide) ?_
  refine lv_icmp_ne (tgt := 221) hx hb dL_does_211 (by decide) (fun hc => ?_) (fun hc => ?_)
  rotate_left
  · exact absurd hc (by decide)
  refine lv_aload_n hx hb dL_does_221 rfl (lv_at hl 0 rfl) ?_
  refine lv_iload_n hx hb dL_does_222 rfl (lv_at hl 2 rfl) ?_
  refine lv_iload_n hx hb dL_does_223 rfl (lv_at hl 3 rfl) ?_
  obtain ⟨hc_1, hf⟩ := aw_chk_some hf
  obtain ⟨z_2, hz_3, hf⟩ := aw_bind_some hf
  refine aw_CVI (As := [.int x2, .int x3]) (rest := []) X G hl.1 cr_L_56 (c_X10_primer l hst hz_3) rfl rfl rfl (by decide) hc_1 rfl ⟨(Nat.le_of_ble_eq_true rfl), (Nat.le_of_ble_eq_true rfl)⟩ (Nat.le_of_ble_eq_true rfl) dL_does_224 ⟨(Nat.le_of_ble_eq_true rfl), (Nat.le_of_ble_eq_true rfl)⟩ (fun e0 ce q9 H locs hz1 G hce hcv hcl => ?_) (fun v_4 H locs hz1 G => ?_)
  · have hf := aw_ct_l hz1 hf
    by_cases he : e0 = 1
    · have hf := aw_ite_t he hf
      subst he
      refine vx_catch (name := "java/lang/IndexOutOfBoundsException") hown [] (⟨0, 227, 228, 59⟩ : ExceptionTableEntry) [(⟨0, 227, 233, 62⟩ : ExceptionTableEntry), (⟨0, 227, 238, 65⟩ : ExceptionTableEntry)] (hT.trans rfl) (aw_hpass G.1 (fun _ h => nomatch h)) (by decide) (by decide) (G.1.hts _ m_310) (aw_cast G.1 (by decide)) hce hcv hcl ?_
      refine W.eq (g2 := F0 m 228 ls [.ref q9]) rfl ?_
      refine lv_astore (lv' := [(7, .ref q9), (0, .ref (ad x0)), (1, .int ((13 : Int32))), (2, .int x2), (3, .int x3), (4, .int x4), (5, .int x5), (6, .int x6)]) hx hb dL_does_228 hl (by decide) rfl (fun ls hl => ?_)
      refine lv_ldc (v := (-3000000 : Int32)) hx hb hown (G.1.hts _ m_759) dL_does_230 ?_
      exact aw_retj X G hf dL_does_232 (Nat.le_of_ble_eq_true rfl) (Nat.le_of_ble_eq_true rfl)
    have hf := aw_ite_f he hf
    by_cases he : e0 = 2
    · have hf := aw_ite_t he hf
      subst he
      refine vx_catch (name := "java/lang/IllegalArgumentException") hown [(⟨0, 227, 228, 59⟩ : ExceptionTableEntry)] (⟨0, 227, 233, 62⟩ : ExceptionTableEntry) [(⟨0, 227, 238, 65⟩ : ExceptionTableEntry)] (hT.trans rfl) (aw_hpass G.1 (List.forall_mem_cons.mpr ⟨⟨by decide, "java/lang/IndexOutOfBoundsException", by decide, m_310, by decide, by decide⟩, (fun _ h => nomatch h)⟩)) (by decide) (by decide) (G.1.hts _ m_311) (aw_cast G.1 (by decide)) hce hcv hcl ?_
      refine W.eq (g2 := F0 m 233 ls [.ref q9]) rfl ?_
      refine lv_astore (lv' := [(7, .ref q9), (0, .ref (ad x0)), (1, .int ((13 : Int32))), (2, .int x2), (3, .int x3), (4, .int x4), (5, .int x5), (6, .int x6)]) hx hb dL_does_233 hl (by decide) rfl (fun ls hl => ?_)
      refine lv_ldc (v := (-2000000 : Int32)) hx hb hown (G.1.hts _ m_760) dL_does_235 ?_
      exact aw_retj X G hf dL_does_237 (Nat.le_of_ble_eq_true rfl) (Nat.le_of_ble_eq_true rfl)
    have hf := aw_ite_f he hf
    by_cases he : e0 = 3
    · have hf := aw_ite_t he hf
      subst he
      refine vx_catch (name := "java/lang/IllegalStateException") hown [(⟨0, 227, 228, 59⟩ : ExceptionTableEntry), (⟨0, 227, 233, 62⟩ : ExceptionTableEntry)] (⟨0, 227, 238, 65⟩ : ExceptionTableEntry) [] (hT.trans rfl) (aw_hpass G.1 (List.forall_mem_cons.mpr ⟨⟨by decide, "java/lang/IndexOutOfBoundsException", by decide, m_310, by decide, by decide⟩, (List.forall_mem_cons.mpr ⟨⟨by decide, "java/lang/IllegalArgumentException", by decide, m_311, by decide, by decide⟩, (fun _ h => nomatch h)⟩)⟩)) (by decide) (by decide) (G.1.hts _ m_312) (aw_cast G.1 (by decide)) hce hcv hcl ?_
      refine W.eq (g2 := F0 m 238 ls [.ref q9]) rfl ?_
      refine lv_astore (lv' := [(7, .ref q9), (0, .ref (ad x0)), (1, .int ((13 : Int32))), (2, .int x2), (3, .int x3), (4, .int x4), (5, .int x5), (6, .int x6)]) hx hb dL_does_238 hl (by decide) rfl (fun ls hl => ?_)
      refine lv_ldc (v := (-1000000 : Int32)) hx hb hown (G.1.hts _ m_761) dL_does_240 ?_
      exact aw_retj X G hf dL_does_242 (Nat.le_of_ble_eq_true rfl) (Nat.le_of_ble_eq_true rfl)
    have hf := aw_ite_f he hf
    cases hf
  have hf := aw_ct_r hz1 hf
  exact aw_retj X G hf dL_does_227 (Nat.le_of_ble_eq_true rfl) (Nat.le_of_ble_eq_true rfl)
