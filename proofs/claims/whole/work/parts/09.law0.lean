/-! L_syllable L_word L_change L_spoken L_assign L_mark L_spelled L_doubts L_load L_loadIf L_readings L_readingsAnew L_fit L_shape L_apart L_clear L_errors L_primer L_cost L_leastCost L_key L_travel L_exchange L_group L_score L_votes L_elected L_reform L_lost -/
def rm_L_syllable : Room := { frames := 7, cells := 1, slots := 6, locals := 111 }
def f_L_syllable (σ : Sg) (x0 : Nat) (x1 : Int32) (x2 : Nat) (d : Dt) : Option (Int32 × Dt) :=
  aw_chk (aw_O σ 10 13 x0) ((f_X10_syllable σ x0 x1 d).bind (fun z_2 => aw_ct z_2 (fun e0 => if e0 = 2 then some ((1 : Int32), z_2.2) else if e0 = 3 then some ((2 : Int32), z_2.2) else none) (fun v_4 => aw_chk (aw_I σ 21 x2 ((0 : Int32))) (some ((0 : Int32), aw_sL z_2.2 x2 ((0 : Int32)).toNatClampNeg v_4.toInt64)))))
section W_L_syllable
variable {p : Program} {l : Launch} {e : Env} {s : State} {m : MethodId} {args : Array Value} {below : List Frame} {meth : Method} {c : Code}
variable {D : va_G} {cA : Nat → ClassId} {base : Nat} {ad : Nat → Nat} {σ : Sg}
end W_L_syllable
set_option maxHeartbeats 4000000 in
set_option maxRecDepth 100000 in
theorem c_L_syllable (l : Launch) (hst : l.stackTraces = false) {σ : Sg} {x0 : Nat} {x1 : Int32} {x2 : Nat} {d : Dt} {z : Int32 × Dt} (hf : f_L_syllable σ x0 x1 x2 d = some z) : aw_Mi l yL_syllable (Cond.codeWith yL_syllable cL_syllable 4 (some .int) [(0, 9, 12, 13), (0, 9, 15, 15)]) rm_L_syllable (fun ad => [.ref (ad x0), .int x1, .ref (ad x2)]) σ d z := by
  intro D cA base ad
  refine aw_ofCW (own := RL) (cc := cL_syllable) (nL := 4) (ret := some .int) [(0, 9, 12, 13), (0, 9, 15, 15)] (by decide) rfl rfl ?_
  intro p e s m below meth c X hT G
  have hx := X.1; have hb := X.2.1; have hml := X.2.2.1; have hown := X.2.2.2.1
  refine aw_ls (lv := [(0, .ref (ad x0)), (1, .int x1), (2, .ref (ad x2))]) (Nat.le_of_ble_eq_true rfl) rfl (fun ls hl => ?_)
  unfold f_L_syllable at hf
  refine lv_aload_n hx hb dL_syllable_0 rfl (lv_at hl 2 rfl) ?_
  refine lv_iconst (v := (0 : Int32)) hx hb dL_syllable_1 (by decide) ?_
  refine lv_aload_n hx hb dL_syllable_2 rfl (lv_at hl 0 rfl) ?_
  refine lv_iload_n hx hb dL_syllable_3 rfl (lv_at hl 1 rfl) ?_
  obtain ⟨hc_1, hf⟩ := aw_chk_some hf
  obtain ⟨z_2, hz_3, hf⟩ := aw_bind_some hf
  refine aw_CVI (As := [.int x1]) (rest := [.int ((0 : Int32)), .ref (ad x2)]) X G hl.1 cr_L_7 (c_X10_syllable l hst hz_3) rfl rfl rfl (by decide) hc_1 rfl ⟨(Nat.le_of_ble_eq_true rfl), (Nat.le_of_ble_eq_true rfl)⟩ (Nat.le_of_ble_eq_true rfl) dL_syllable_4 ⟨(Nat.le_of_ble_eq_true rfl), (Nat.le_of_ble_eq_true rfl)⟩ (fun e0 ce q9 H locs hz1 G hce hcv hcl => ?_) (fun v_4 H locs hz1 G => ?_)
  · have hf := aw_ct_l hz1 hf
    by_cases he : e0 = 2
    · have hf := aw_ite_t he hf
      subst he
      refine vx_catch (name := "java/lang/IllegalArgumentException") hown [] (⟨0, 9, 12, 13⟩ : ExceptionTableEntry) [(⟨0, 9, 15, 15⟩ : ExceptionTableEntry)] (hT.trans rfl) (aw_hpass G.1 (fun _ h => nomatch h)) (by decide) (by decide) (G.1.hts _ m_310) (aw_cast G.1 (by decide)) hce hcv hcl ?_
      refine W.eq (g2 := F0 m 12 ls [.ref q9]) rfl ?_
      refine lv_astore_n (lv' := [(3, .ref q9), (0, .ref (ad x0)), (1, .int x1), (2, .ref (ad x2))]) hx hb dL_syllable_12 rfl hl (by decide) rfl (fun ls hl => ?_)
      refine lv_iconst (v := (1 : Int32)) hx hb dL_syllable_13 (by decide) ?_
      exact aw_retj X G hf dL_syllable_14 (Nat.le_of_ble_eq_true rfl) (Nat.le_of_ble_eq_true rfl)
    have hf := aw_ite_f he hf
    by_cases he : e0 = 3
    · have hf := aw_ite_t he hf
      subst he
      refine vx_catch (name := "java/lang/IllegalStateException") hown [(⟨0, 9, 12, 13⟩ : ExceptionTableEntry)] (⟨0, 9, 15, 15⟩ : ExceptionTableEntry) [] (hT.trans rfl) (aw_hpass G.1 (List.forall_mem_cons.mpr ⟨⟨by decide, "java/lang/IllegalArgumentException", by decide, m_310, by decide, by decide⟩, (fun _ h => nomatch h)⟩)) (by decide) (by decide) (G.1.hts _ m_311) (aw_cast G.1 (by decide)) hce hcv hcl ?_
      refine W.eq (g2 := F0 m 15 ls [.ref q9]) rfl ?_
      refine lv_astore_n (lv' := [(3, .ref q9), (0, .ref (ad x0)), (1, .int x1), (2, .ref (ad x2))]) hx hb dL_syllable_15 rfl hl (by decide) rfl (fun ls hl => ?_)
      refine lv_iconst (v := (2 : Int32)) hx hb dL_syllable_16 (by decide) ?_
      exact aw_retj X G hf dL_syllable_17 (Nat.le_of_ble_eq_true rfl) (Nat.le_of_ble_eq_true rfl)
    have hf := aw_ite_f he hf
    cases hf
  have hf := aw_ct_r hz1 hf
  refine lv_i2l hx hb dL_syllable_7 rfl ?_
  obtain ⟨hc_5, hf⟩ := aw_chk_some hf
  refine aw_las hx hb G hc_5 dL_syllable_8 (fun H locs G => ?_)
  refine lv_goto (tgt := 18) hx hb dL_syllable_9 (by decide) ?_
  refine lv_iconst (v := (0 : Int32)) hx hb dL_syllable_18 (by decide) ?_
  exact aw_retj X G hf dL_syllable_19 (Nat.le_of_ble_eq_true rfl) (Nat.le_of_ble_eq_true rfl)
def rm_L_word : Room := { frames := 7, cells := 1, slots := 6, locals := 112 }
def f_L_word (σ : Sg) (x0 : Nat) (x1 : Int32) (x2 : Nat) (d : Dt) : Option (Int32 × Dt) :=
  aw_chk (aw_O σ 10 13 x0) ((f_X10_word σ x0 x1 d).bind (fun z_2 => aw_ct z_2 (fun e0 => if e0 = 2 then some ((1 : Int32), z_2.2) else if e0 = 3 then some ((2 : Int32), z_2.2) else none) (fun v_4 => aw_chk (aw_I σ 21 x2 ((0 : Int32))) (some ((0 : Int32), aw_sL z_2.2 x2 ((0 : Int32)).toNatClampNeg v_4.toInt64)))))
section W_L_word
variable {p : Program} {l : Launch} {e : Env} {s : State} {m : MethodId} {args : Array Value} {below : List Frame} {meth : Method} {c : Code}
variable {D : va_G} {cA : Nat → ClassId} {base : Nat} {ad : Nat → Nat} {σ : Sg}
end W_L_word
set_option maxHeartbeats 4000000 in
set_option maxRecDepth 100000 in
theorem c_L_word (l : Launch) (hst : l.stackTraces = false) {σ : Sg} {x0 : Nat} {x1 : Int32} {x2 : Nat} {d : Dt} {z : Int32 × Dt} (hf : f_L_word σ x0 x1 x2 d = some z) : aw_Mi l yL_word (Cond.codeWith yL_word cL_word 4 (some .int) [(0, 9, 12, 13), (0, 9, 15, 15)]) rm_L_word (fun ad => [.ref (ad x0), .int x1, .ref (ad x2)]) σ d z := by
  intro D cA base ad
  refine aw_ofCW (own := RL) (cc := cL_word) (nL := 4) (ret := some .int) [(0, 9, 12, 13), (0, 9, 15, 15)] (by decide) rfl rfl ?_
  intro p e s m below meth c X hT G
  have hx := X.1; have hb := X.2.1; have hml := X.2.2.1; have hown := X.2.2.2.1
  refine aw_ls (lv := [(0, .ref (ad x0)), (1, .int x1), (2, .ref (ad x2))]) (Nat.le_of_ble_eq_true rfl) rfl (fun ls hl => ?_)
  unfold f_L_word at hf
  refine lv_aload_n hx hb dL_word_0 rfl (lv_at hl 2 rfl) ?_
  refine lv_iconst (v := (0 : Int32)) hx hb dL_word_1 (by decide) ?_
  refine lv_aload_n hx hb dL_word_2 rfl (lv_at hl 0 rfl) ?_
  refine lv_iload_n hx hb dL_word_3 rfl (lv_at hl 1 rfl) ?_
  obtain ⟨hc_1, hf⟩ := aw_chk_some hf
  obtain ⟨z_2, hz_3, hf⟩ := aw_bind_some hf
  refine aw_CVI (As := [.int x1]) (rest := [.int ((0 : Int32)), .ref (ad x2)]) X G hl.1 cr_L_17 (c_X10_word l hst hz_3) rfl rfl rfl (by decide) hc_1 rfl ⟨(Nat.le_of_ble_eq_true rfl), (Nat.le_of_ble_eq_true rfl)⟩ (Nat.le_of_ble_eq_true rfl) dL_word_4 ⟨(Nat.le_of_ble_eq_true rfl), (Nat.le_of_ble_eq_true rfl)⟩ (fun e0 ce q9 H locs hz1 G hce hcv hcl => ?_) (fun v_4 H locs hz1 G => ?_)
  · have hf := aw_ct_l hz1 hf
    by_cases he : e0 = 2
    · have hf := aw_ite_t he hf
      subst he
      refine vx_catch (name := "java/lang/IllegalArgumentException") hown [] (⟨0, 9, 12, 13⟩ : ExceptionTableEntry) [(⟨0, 9, 15, 15⟩ : ExceptionTableEntry)] (hT.trans rfl) (aw_hpass G.1 (fun _ h => nomatch h)) (by decide) (by decide) (G.1.hts _ m_310) (aw_cast G.1 (by decide)) hce hcv hcl ?_
      refine W.eq (g2 := F0 m 12 ls [.ref q9]) rfl ?_
      refine lv_astore_n (lv' := [(3, .ref q9), (0, .ref (ad x0)), (1, .int x1), (2, .ref (ad x2))]) hx hb dL_word_12 rfl hl (by decide) rfl (fun ls hl => ?_)
      refine lv_iconst (v := (1 : Int32)) hx hb dL_word_13 (by decide) ?_
      exact aw_retj X G hf dL_word_14 (Nat.le_of_ble_eq_true rfl) (Nat.le_of_ble_eq_true rfl)
    have hf := aw_ite_f he hf
    by_cases he : e0 = 3
    · have hf := aw_ite_t he hf
      subst he
      refine vx_catch (name := "java/lang/IllegalStateException") hown [(⟨0, 9, 12, 13⟩ : ExceptionTableEntry)] (⟨0, 9, 15, 15⟩ : ExceptionTableEntry) [] (hT.trans rfl) (aw_hpass G.1 (List.forall_mem_cons.mpr ⟨⟨by decide, "java/lang/IllegalArgumentException", by decide, m_310, by decide, by decide⟩, (fun _ h => nomatch h)⟩)) (by decide) (by decide) (G.1.hts _ m_311) (aw_cast G.1 (by decide)) hce hcv hcl ?_
      refine W.eq (g2 := F0 m 15 ls [.ref q9]) rfl ?_
      refine lv_astore_n (lv' := [(3, .ref q9), (0, .ref (ad x0)), (1, .int x1), (2, .ref (ad x2))]) hx hb dL_word_15 rfl hl (by decide) rfl (fun ls hl => ?_)
      refine lv_iconst (v := (2 : Int32)) hx hb dL_word_16 (by decide) ?_
      exact aw_retj X G hf dL_word_17 (Nat.le_of_ble_eq_true rfl) (Nat.le_of_ble_eq_true rfl)
    have hf := aw_ite_f he hf
    cases hf
  have hf := aw_ct_r hz1 hf
  refine lv_i2l hx hb dL_word_7 rfl ?_
  obtain ⟨hc_5, hf⟩ := aw_chk_some hf
  refine aw_las hx hb G hc_5 dL_word_8 (fun H locs G => ?_)
  refine lv_goto (tgt := 18) hx hb dL_word_9 (by decide) ?_
  refine lv_iconst (v := (0 : Int32)) hx hb dL_word_18 (by decide) ?_
  exact aw_retj X G hf dL_word_19 (Nat.le_of_ble_eq_true rfl) (Nat.le_of_ble_eq_true rfl)
def rm_L_change : Room := { frames := 8, cells := 2, slots := 12, locals := 137 }
def f_L_change (σ : Sg) (x0 : Nat) (x1 : Int32) (x2 : Int32) (x3 : Int32) (x4 : Int32) (x5 : Int32) (x6 : Nat) (d : Dt) : Option (Int32 × Dt) :=
  aw_chk (aw_O σ 10 13 x0) ((f_X10_change σ x0 x1 x2 x3 x4 x5 d).bind (fun z_2 => aw_ct z_2 (fun e0 => if e0 = 1 then some ((1 : Int32), z_2.2) else if e0 = 2 then some ((2 : Int32), z_2.2) else if e0 = 3 then some ((3 : Int32), z_2.2) else none) (fun v_4 => aw_chk (aw_I σ 21 x6 ((0 : Int32))) (some ((0 : Int32), aw_sL z_2.2 x6 ((0 : Int32)).toNatClampNeg v_4.toInt64)))))
section W_L_change
variable {p : Program} {l : Launch} {e : Env} {s : State} {m : MethodId} {args : Array Value} {below : List Frame} {meth : Method} {c : Code}
variable {D : va_G} {cA : Nat → ClassId} {base : Nat} {ad : Nat → Nat} {σ : Sg}
end W_L_change
set_option maxHeartbeats 4000000 in
set_option maxRecDepth 100000 in
theorem c_L_change (l : Launch) (hst : l.stackTraces = false) {σ : Sg} {x0 : Nat} {x1 : Int32} {x2 : Int32} {x3 : Int32} {x4 : Int32} {x5 : Int32} {x6 : Nat} {d : Dt} {z : Int32 × Dt} (hf : f_L_change σ x0 x1 x2 x3 x4 x5 x6 d = some z) : aw_Mi l yL_change (Cond.codeWith yL_change cL_change 8 (some .int) [(0, 16, 19, 24), (0, 16, 23, 13), (0, 16, 27, 15)]) rm_L_change (fun ad => [.ref (ad x0), .int x1, .int x2, .int x3, .int x4, .int x5, .ref (ad x6)]) σ d z := by
  intro D cA base ad
  refine aw_ofCW (own := RL) (cc := cL_change) (nL := 8) (ret := some .int) [(0, 16, 19, 24), (0, 16, 23, 13), (0, 16, 27, 15)] (by decide) rfl rfl ?_
  intro p e s m below meth c X hT G
  have hx := X.1; have hb := X.2.1; have hml := X.2.2.1; have hown := X.2.2.2.1
  refine aw_ls (lv := [(0, .ref (ad x0)), (1, .int x1), (2, .int x2), (3, .int x3), (4, .int x4), (5, .int x5), (6, .ref (ad x6))]) (Nat.le_of_ble_eq_true rfl) rfl (fun ls hl => ?_)
  unfold f_L_change at hf
  refine lv_aload hx hb dL_change_0 (lv_at hl 6 rfl) ?_
  refine lv_iconst (v := (0 : Int32)) hx hb dL_change_2 (by decide) ?_
  refine lv_aload_n hx hb dL_change_3 rfl (lv_at hl 0 rfl) ?_
  refine lv_iload_n hx hb dL_change_4 rfl (lv_at hl 1 rfl) ?_
  refine lv_iload_n hx hb dL_change_5 rfl (lv_at hl 2 rfl) ?_
  refine lv_iload_n hx hb dL_change_6 rfl (lv_at hl 3 rfl) ?_
  refine lv_iload hx hb dL_change_7 (lv_at hl 4 rfl) ?_
  refine lv_iload hx hb dL_change_9 (lv_at hl 5 rfl) ?_
  obtain ⟨hc_1, hf⟩ := aw_chk_some hf
  obtain ⟨z_2, hz_3, hf⟩ := aw_bind_some hf
  refine aw_CVI (As := [.int x1, .int x2, .int x3, .int x4, .int x5]) (rest := [.int ((0 : Int32)), .ref (ad x6)]) X G hl.1 cr_L_20 (c_X10_change l hst hz_3) rfl rfl rfl (by decide) hc_1 rfl ⟨(Nat.le_of_ble_eq_true rfl), (Nat.le_of_ble_eq_true rfl)⟩ (Nat.le_of_ble_eq_true rfl) dL_change_11 ⟨(Nat.le_of_ble_eq_true rfl), (Nat.le_of_ble_eq_true rfl)⟩ (fun e0 ce q9 H locs hz1 G hce hcv hcl => ?_) (fun v_4 H locs hz1 G => ?_)
  · have hf := aw_ct_l hz1 hf
    by_cases he : e0 = 1
    · have hf := aw_ite_t he hf
      subst he
      refine vx_catch (name := "java/lang/IndexOutOfBoundsException") hown [] (⟨0, 16, 19, 24⟩ : ExceptionTableEntry) [(⟨0, 16, 23, 13⟩ : ExceptionTableEntry), (⟨0, 16, 27, 15⟩ : ExceptionTableEntry)] (hT.trans rfl) (aw_hpass G.1 (fun _ h => nomatch h)) (by decide) (by decide) (G.1.hts _ m_435) (aw_cast G.1 (by decide)) hce hcv hcl ?_
      refine W.eq (g2 := F0 m 19 ls [.ref q9]) rfl ?_
      refine lv_astore (lv' := [(7, .ref q9), (0, .ref (ad x0)), (1, .int x1), (2, .int x2), (3, .int x3), (4, .int x4), (5, .int x5), (6, .ref (ad x6))]) hx hb dL_change_19 hl (by decide) rfl (fun ls hl => ?_)
      refine lv_iconst (v := (1 : Int32)) hx hb dL_change_21 (by decide) ?_
      exact aw_retj X G hf dL_change_22 (Nat.le_of_ble_eq_true rfl) (Nat.le_of_ble_eq_true rfl)
    have hf := aw_ite_f he hf
    by_cases he : e0 = 2
    · have hf := aw_ite_t he hf
      subst he
      refine vx_catch (name := "java/lang/IllegalArgumentException") hown [(⟨0, 16, 19, 24⟩ : ExceptionTableEntry)] (⟨0, 16, 23, 13⟩ : ExceptionTableEntry) [(⟨0, 16, 27, 15⟩ : ExceptionTableEntry)] (hT.trans rfl) (aw_hpass G.1 (List.forall_mem_cons.mpr ⟨⟨by decide, "java/lang/IndexOutOfBoundsException", by decide, m_435, by decide, by decide⟩, (fun _ h => nomatch h)⟩)) (by decide) (by decide) (G.1.hts _ m_310) (aw_cast G.1 (by decide)) hce hcv hcl ?_
      refine W.eq (g2 := F0 m 23 ls [.ref q9]) rfl ?_
      refine lv_astore (lv' := [(7, .ref q9), (0, .ref (ad x0)), (1, .int x1), (2, .int x2), (3, .int x3), (4, .int x4), (5, .int x5), (6, .ref (ad x6))]) hx hb dL_change_23 hl (by decide) rfl (fun ls hl => ?_)
      refine lv_iconst (v := (2 : Int32)) hx hb dL_change_25 (by decide) ?_
      exact aw_retj X G hf dL_change_26 (Nat.le_of_ble_eq_true rfl) (Nat.le_of_ble_eq_true rfl)
    have hf := aw_ite_f he hf
    by_cases he : e0 = 3
    · have hf := aw_ite_t he hf
      subst he
      refine vx_catch (name := "java/lang/IllegalStateException") hown [(⟨0, 16, 19, 24⟩ : ExceptionTableEntry), (⟨0, 16, 23, 13⟩ : ExceptionTableEntry)] (⟨0, 16, 27, 15⟩ : ExceptionTableEntry) [] (hT.trans rfl) (aw_hpass G.1 (List.forall_mem_cons.mpr ⟨⟨by decide, "java/lang/IndexOutOfBoundsException", by decide, m_435, by decide, by decide⟩, (List.forall_mem_cons.mpr ⟨⟨by decide, "java/lang/IllegalArgumentException", by decide, m_310, by decide, by decide⟩, (fun _ h => nomatch h)⟩)⟩)) (by decide) (by decide) (G.1.hts _ m_311) (aw_cast G.1 (by decide)) hce hcv hcl ?_
      refine W.eq (g2 := F0 m 27 ls [.ref q9]) rfl ?_
      refine lv_astore (lv' := [(7, .ref q9), (0, .ref (ad x0)), (1, .int x1), (2, .int x2), (3, .int x3), (4, .int x4), (5, .int x5), (6, .ref (ad x6))]) hx hb dL_change_27 hl (by decide) rfl (fun ls hl => ?_)
      refine lv_iconst (v := (3 : Int32)) hx hb dL_change_29 (by decide) ?_
      exact aw_retj X G hf dL_change_30 (Nat.le_of_ble_eq_true rfl) (Nat.le_of_ble_eq_true rfl)
    have hf := aw_ite_f he hf
    cases hf
  have hf := aw_ct_r hz1 hf
  refine lv_i2l hx hb dL_change_14 rfl ?_
  obtain ⟨hc_5, hf⟩ := aw_chk_some hf
  refine aw_las hx hb G hc_5 dL_change_15 (fun H locs G => ?_)
  refine lv_goto (tgt := 31) hx hb dL_change_16 (by decide) ?_
  refine lv_iconst (v := (0 : Int32)) hx hb dL_change_31 (by decide) ?_
  exact aw_retj X G hf dL_change_32 (Nat.le_of_ble_eq_true rfl) (Nat.le_of_ble_eq_true rfl)
def rm_L_spoken : Room := { frames := 8, cells := 3, slots := 18, locals := 135 }
def f_L_spoken (σ : Sg) (x0 : Nat) (x1 : Int32) (x2 : Int32) (x3 : Int32) (x4 : Nat) (d : Dt) : Option (Int32 × Dt) :=
  aw_chk (aw_O σ 10 13 x0) ((f_X10_spoken σ x0 x1 x2 x3 d).bind (fun z_2 => aw_ct z_2 (fun e0 => if e0 = 1 then some ((1 : Int32), z_2.2) else none) (fun v_4 => aw_chk (aw_I σ 21 x4 ((0 : Int32))) (some ((0 : Int32), aw_sL z_2.2 x4 ((0 : Int32)).toNatClampNeg v_4.toInt64)))))
section W_L_spoken
variable {p : Program} {l : Launch} {e : Env} {s : State} {m : MethodId} {args : Array Value} {below : List Frame} {meth : Method} {c : Code}
variable {D : va_G} {cA : Nat → ClassId} {base : Nat} {ad : Nat → Nat} {σ : Sg}
end W_L_spoken
set_option maxHeartbeats 4000000 in
set_option maxRecDepth 100000 in
theorem c_L_spoken (l : Launch) (hst : l.stackTraces = false) {σ : Sg} {x0 : Nat} {x1 : Int32} {x2 : Int32} {x3 : Int32} {x4 : Nat} {d : Dt} {z : Int32 × Dt} (hf : f_L_spoken σ x0 x1 x2 x3 x4 d = some z) : aw_Mi l yL_spoken (Cond.codeWith yL_spoken cL_spoken 6 (some .int) [(0, 12, 15, 24)]) rm_L_spoken (fun ad => [.ref (ad x0), .int x1, .int x2, .int x3, .ref (ad x4)]) σ d z := by
  intro D cA base ad
  refine aw_ofCW (own := RL) (cc := cL_spoken) (nL := 6) (ret := some .int) [(0, 12, 15, 24)] (by decide) rfl rfl ?_
  intro p e s m below meth c X hT G
  have hx := X.1; have hb := X.2.1; have hml := X.2.2.1; have hown := X.2.2.2.1
  refine aw_ls (lv := [(0, .ref (ad x0)), (1, .int x1), (2, .int x2), (3, .int x3), (4, .ref (ad x4))]) (Nat.le_of_ble_eq_true rfl) rfl (fun ls hl => ?_)
  unfold f_L_spoken at hf
  refine lv_aload hx hb dL_spoken_0 (lv_at hl 4 rfl) ?_
  refine lv_iconst (v := (0 : Int32)) hx hb dL_spoken_2 (by decide) ?_
  refine lv_aload_n hx hb dL_spoken_3 rfl (lv_at hl 0 rfl) ?_
  refine lv_iload_n hx hb dL_spoken_4 rfl (lv_at hl 1 rfl) ?_
  refine lv_iload_n hx hb dL_spoken_5 rfl (lv_at hl 2 rfl) ?_
  refine lv_iload_n hx hb dL_spoken_6 rfl (lv_at hl 3 rfl) ?_
  obtain ⟨hc_1, hf⟩ := aw_chk_some hf
  obtain ⟨z_2, hz_3, hf⟩ := aw_bind_some hf
  refine aw_CVI (As := [.int x1, .int x2, .int x3]) (rest := [.int ((0 : Int32)), .ref (ad x4)]) X G hl.1 cr_L_26 (c_X10_spoken l hst hz_3) rfl rfl rfl (by decide) hc_1 rfl ⟨(Nat.le_of_ble_eq_true rfl), (Nat.le_of_ble_eq_true rfl)⟩ (Nat.le_of_ble_eq_true rfl) dL_spoken_7 ⟨(Nat.le_of_ble_eq_true rfl), (Nat.le_of_ble_eq_true rfl)⟩ (fun e0 ce q9 H locs hz1 G hce hcv hcl => ?_) (fun v_4 H locs hz1 G => ?_)
  · have hf := aw_ct_l hz1 hf
    by_cases he : e0 = 1
    · have hf := aw_ite_t he hf
      subst he
      refine vx_catch (name := "java/lang/IndexOutOfBoundsException") hown [] (⟨0, 12, 15, 24⟩ : ExceptionTableEntry) [] (hT.trans rfl) (aw_hpass G.1 (fun _ h => nomatch h)) (by decide) (by decide) (G.1.hts _ m_435) (aw_cast G.1 (by decide)) hce hcv hcl ?_
      refine W.eq (g2 := F0 m 15 ls [.ref q9]) rfl ?_
      refine lv_astore (lv' := [(5, .ref q9), (0, .ref (ad x0)), (1, .int x1), (2, .int x2), (3, .int x3), (4, .ref (ad x4))]) hx hb dL_spoken_15 hl (by decide) rfl (fun ls hl => ?_)
      refine lv_iconst (v := (1 : Int32)) hx hb dL_spoken_17 (by decide) ?_
      exact aw_retj X G hf dL_spoken_18 (Nat.le_of_ble_eq_true rfl) (Nat.le_of_ble_eq_true rfl)
    have hf := aw_ite_f he hf
    cases hf
  have hf := aw_ct_r hz1 hf
  refine lv_i2l hx hb dL_spoken_10 rfl ?_
  obtain ⟨hc_5, hf⟩ := aw_chk_some hf
  refine aw_las hx hb G hc_5 dL_spoken_11 (fun H locs G => ?_)
  refine lv_goto (tgt := 19) hx hb dL_spoken_12 (by decide) ?_
  refine lv_iconst (v := (0 : Int32)) hx hb dL_spoken_19 (by decide) ?_
  exact aw_retj X G hf dL_spoken_20 (Nat.le_of_ble_eq_true rfl) (Nat.le_of_ble_eq_true rfl)
def rm_L_assign : Room := { frames := 8, cells := 2, slots := 12, locals := 136 }
def f_L_assign (σ : Sg) (x0 : Nat) (x1 : Int32) (x2 : Int32) (x3 : Int32) (x4 : Int32) (x5 : Nat) (d : Dt) : Option (Int32 × Dt) :=
  aw_chk (aw_O σ 10 13 x0) ((f_X10_assign σ x0 x1 x2 x3 x4 d).bind (fun z_2 => aw_ct z_2 (fun e0 => if e0 = 1 then some ((1 : Int32), z_2.2) else if e0 = 2 then some ((2 : Int32), z_2.2) else if e0 = 3 then some ((3 : Int32), z_2.2) else none) (fun v_4 => aw_chk (aw_I σ 21 x5 ((0 : Int32))) (some ((0 : Int32), aw_sL z_2.2 x5 ((0 : Int32)).toNatClampNeg v_4.toInt64)))))
section W_L_assign
variable {p : Program} {l : Launch} {e : Env} {s : State} {m : MethodId} {args : Array Value} {below : List Frame} {meth : Method} {c : Code}
variable {D : va_G} {cA : Nat → ClassId} {base : Nat} {ad : Nat → Nat} {σ : Sg}
end W_L_assign
set_option maxHeartbeats 4000000 in
set_option maxRecDepth 100000 in
theorem c_L_assign (l : Launch) (hst : l.stackTraces = false) {σ : Sg} {x0 : Nat} {x1 : Int32} {x2 : Int32} {x3 : Int32} {x4 : Int32} {x5 : Nat} {d : Dt} {z : Int32 × Dt} (hf : f_L_assign σ x0 x1 x2 x3 x4 x5 d = some z) : aw_Mi l yL_assign (Cond.codeWith yL_assign cL_assign 7 (some .int) [(0, 14, 17, 24), (0, 14, 21, 13), (0, 14, 25, 15)]) rm_L_assign (fun ad => [.ref (ad x0), .int x1, .int x2, .int x3, .int x4, .ref (ad x5)]) σ d z := by
  intro D cA base ad
  refine aw_ofCW (own := RL) (cc := cL_assign) (nL := 7) (ret := some .int) [(0, 14, 17, 24), (0, 14, 21, 13), (0, 14, 25, 15)] (by decide) rfl rfl ?_
  intro p e s m below meth c X hT G
  have hx := X.1; have hb := X.2.1; have hml := X.2.2.1; have hown := X.2.2.2.1
  refine aw_ls (lv := [(0, .ref (ad x0)), (1, .int x1), (2, .int x2), (3, .int x3), (4, .int x4), (5, .ref (ad x5))]) (Nat.le_of_ble_eq_true rfl) rfl (fun ls hl => ?_)
  unfold f_L_assign at hf
  refine lv_aload hx hb dL_assign_0 (lv_at hl 5 rfl) ?_
  refine lv_iconst (v := (0 : Int32)) hx hb dL_assign_2 (by decide) ?_
  refine lv_aload_n hx hb dL_assign_3 rfl (lv_at hl 0 rfl) ?_
  refine lv_iload_n hx hb dL_assign_4 rfl (lv_at hl 1 rfl) ?_
  refine lv_iload_n hx hb dL_assign_5 rfl (lv_at hl 2 rfl) ?_
  refine lv_iload_n hx hb dL_assign_6 rfl (lv_at hl 3 rfl) ?_
  refine lv_iload hx hb dL_assign_7 (lv_at hl 4 rfl) ?_
  obtain ⟨hc_1, hf⟩ := aw_chk_some hf
  obtain ⟨z_2, hz_3, hf⟩ := aw_bind_some hf
  refine aw_CVI (As := [.int x1, .int x2, .int x3, .int x4]) (rest := [.int ((0 : Int32)), .ref (ad x5)]) X G hl.1 cr_L_34 (c_X10_assign l hst hz_3) rfl rfl rfl (by decide) hc_1 rfl ⟨(Nat.le_of_ble_eq_true rfl), (Nat.le_of_ble_eq_true rfl)⟩ (Nat.le_of_ble_eq_true rfl) dL_assign_9 ⟨(Nat.le_of_ble_eq_true rfl), (Nat.le_of_ble_eq_true rfl)⟩ (fun e0 ce q9 H locs hz1 G hce hcv hcl => ?_) (fun v_4 H locs hz1 G => ?_)
  · have hf := aw_ct_l hz1 hf
    by_cases he : e0 = 1
    · have hf := aw_ite_t he hf
      subst he
      refine vx_catch (name := "java/lang/IndexOutOfBoundsException") hown [] (⟨0, 14, 17, 24⟩ : ExceptionTableEntry) [(⟨0, 14, 21, 13⟩ : ExceptionTableEntry), (⟨0, 14, 25, 15⟩ : ExceptionTableEntry)] (hT.trans rfl) (aw_hpass G.1 (fun _ h => nomatch h)) (by decide) (by decide) (G.1.hts _ m_435) (aw_cast G.1 (by decide)) hce hcv hcl ?_
      refine W.eq (g2 := F0 m 17 ls [.ref q9]) rfl ?_
      refine lv_astore (lv' := [(6, .ref q9), (0, .ref (ad x0)), (1, .int x1), (2, .int x2), (3, .int x3), (4, .int x4), (5, .ref (ad x5))]) hx hb dL_assign_17 hl (by decide) rfl (fun ls hl => ?_)
      refine lv_iconst (v := (1 : Int32)) hx hb dL_assign_19 (by decide) ?_
      exact aw_retj X G hf dL_assign_20 (Nat.le_of_ble_eq_true rfl) (Nat.le_of_ble_eq_true rfl)
    have hf := aw_ite_f he hf
    by_cases he : e0 = 2
    · have hf := aw_ite_t he hf
      subst he
      refine vx_catch (name := "java/lang/IllegalArgumentException") hown [(⟨0, 14, 17, 24⟩ : ExceptionTableEntry)] (⟨0, 14, 21, 13⟩ : ExceptionTableEntry) [(⟨0, 14, 25, 15⟩ : ExceptionTableEntry)] (hT.trans rfl) (aw_hpass G.1 (List.forall_mem_cons.mpr ⟨⟨by decide, "java/lang/IndexOutOfBoundsException", by decide, m_435, by decide, by decide⟩, (fun _ h => nomatch h)⟩)) (by decide) (by decide) (G.1.hts _ m_310) (aw_cast G.1 (by decide)) hce hcv hcl ?_
      refine W.eq (g2 := F0 m 21 ls [.ref q9]) rfl ?_
      refine lv_astore (lv' := [(6, .ref q9), (0, .ref (ad x0)), (1, .int x1), (2, .int x2), (3, .int x3), (4, .int x4), (5, .ref (ad x5))]) hx hb dL_assign_21 hl (by decide) rfl (fun ls hl => ?_)
      refine lv_iconst (v := (2 : Int32)) hx hb dL_assign_23 (by decide) ?_
      exact aw_retj X G hf dL_assign_24 (Nat.le_of_ble_eq_true rfl) (Nat.le_of_ble_eq_true rfl)
    have hf := aw_ite_f he hf
    by_cases he : e0 = 3
    · have hf := aw_ite_t he hf
      subst he
      refine vx_catch (name := "java/lang/IllegalStateException") hown [(⟨0, 14, 17, 24⟩ : ExceptionTableEntry), (⟨0, 14, 21, 13⟩ : ExceptionTableEntry)] (⟨0, 14, 25, 15⟩ : ExceptionTableEntry) [] (hT.trans rfl) (aw_hpass G.1 (List.forall_mem_cons.mpr ⟨⟨by decide, "java/lang/IndexOutOfBoundsException", by decide, m_435, by decide, by decide⟩, (List.forall_mem_cons.mpr ⟨⟨by decide, "java/lang/IllegalArgumentException", by decide, m_310, by decide, by decide⟩, (fun _ h => nomatch h)⟩)⟩)) (by decide) (by decide) (G.1.hts _ m_311) (aw_cast G.1 (by decide)) hce hcv hcl ?_
      refine W.eq (g2 := F0 m 25 ls [.ref q9]) rfl ?_
      refine lv_astore (lv' := [(6, .ref q9), (0, .ref (ad x0)), (1, .int x1), (2, .int x2), (3, .int x3), (4, .int x4), (5, .ref (ad x5))]) hx hb dL_assign_25 hl (by decide) rfl (fun ls hl => ?_)
      refine lv_iconst (v := (3 : Int32)) hx hb dL_assign_27 (by decide) ?_
      exact aw_retj X G hf dL_assign_28 (Nat.le_of_ble_eq_true rfl) (Nat.le_of_ble_eq_true rfl)
    have hf := aw_ite_f he hf
    cases hf
  have hf := aw_ct_r hz1 hf
  refine lv_i2l hx hb dL_assign_12 rfl ?_
  obtain ⟨hc_5, hf⟩ := aw_chk_some hf
  refine aw_las hx hb G hc_5 dL_assign_13 (fun H locs G => ?_)
  refine lv_goto (tgt := 29) hx hb dL_assign_14 (by decide) ?_
  refine lv_iconst (v := (0 : Int32)) hx hb dL_assign_29 (by decide) ?_
  exact aw_retj X G hf dL_assign_30 (Nat.le_of_ble_eq_true rfl) (Nat.le_of_ble_eq_true rfl)
def rm_L_mark : Room := { frames := 8, cells := 2, slots := 12, locals := 135 }
def f_L_mark_J18 (σ : Sg) (t2 : Int64) (t1 : Int32) (t0 : Nat) (d : Dt) : Option (Int32 × Dt) :=
  aw_chk (aw_I σ 21 t0 t1) (some ((0 : Int32), aw_sL d t0 t1.toNatClampNeg t2))
def f_L_mark (σ : Sg) (x0 : Nat) (x1 : Int32) (x2 : Int32) (x3 : Int32) (x4 : Nat) (d : Dt) : Option (Int32 × Dt) :=
  aw_chk (aw_O σ 10 13 x0) ((f_X10_mark σ x0 x1 x2 x3 d).bind (fun z_2 => aw_ct z_2 (fun e0 => if e0 = 1 then some ((1 : Int32), z_2.2) else none) (fun v_4 => if v_4 = 0 then f_L_mark_J18 σ ((0 : Int64)) ((0 : Int32)) x4 z_2.2 else f_L_mark_J18 σ ((1 : Int64)) ((0 : Int32)) x4 z_2.2)))
section W_L_mark
variable {p : Program} {l : Launch} {e : Env} {s : State} {m : MethodId} {args : Array Value} {below : List Frame} {meth : Method} {c : Code}
variable {D : va_G} {cA : Nat → ClassId} {base : Nat} {ad : Nat → Nat} {σ : Sg}
set_option maxHeartbeats 4000000 in
set_option maxRecDepth 100000 in
theorem w_L_mark_J18 {z : Int32 × Dt} (X : aw_X p c cL_mark 6 s RL m meth (some .int)) {t2 : Int64} {t1 : Int32} {t0 : Nat} {d : Dt} (hf : f_L_mark_J18 σ t2 t1 t0 d = some z)  {H : Heap} {locs : List Loc} {ls : Array Slot} (hl : lv_has ls 6 []) (G : aw_G D cA base ad σ d s H locs) : W p l e rm_L_mark s m args below meth c H locs 2 12 (aw_Ej D cA base ad σ below args s 2 12 z) (F0 m 18 ls [.long t2, .int t1, .ref (ad t0)]) := by
  have hx := X.1; have hb := X.2.1; have hml := X.2.2.1; have hown := X.2.2.2.1
  unfold f_L_mark_J18 at hf
  obtain ⟨hc_5, hf⟩ := aw_chk_some hf
  refine aw_las hx hb G hc_5 dL_mark_18 (fun H locs G => ?_)
  refine lv_goto (tgt := 26) hx hb dL_mark_19 (by decide) ?_
  refine lv_iconst (v := (0 : Int32)) hx hb dL_mark_26 (by decide) ?_
  exact aw_retj X G hf dL_mark_27 (Nat.le_of_ble_eq_true rfl) (Nat.le_of_ble_eq_true rfl)
end W_L_mark
set_option maxHeartbeats 4000000 in
set_option maxRecDepth 100000 in
theorem c_L_mark (l : Launch) (hst : l.stackTraces = false) {σ : Sg} {x0 : Nat} {x1 : Int32} {x2 : Int32} {x3 : Int32} {x4 : Nat} {d : Dt} {z : Int32 × Dt} (hf : f_L_mark σ x0 x1 x2 x3 x4 d = some z) : aw_Mi l yL_mark (Cond.codeWith yL_mark cL_mark 6 (some .int) [(0, 19, 22, 24)]) rm_L_mark (fun ad => [.ref (ad x0), .int x1, .int x2, .int x3, .ref (ad x4)]) σ d z := by
  intro D cA base ad
  refine aw_ofCW (own := RL) (cc := cL_mark) (nL := 6) (ret := some .int) [(0, 19, 22, 24)] (by decide) rfl rfl ?_
  intro p e s m below meth c X hT G
  have hx := X.1; have hb := X.2.1; have hml := X.2.2.1; have hown := X.2.2.2.1
  refine aw_ls (lv := [(0, .ref (ad x0)), (1, .int x1), (2, .int x2), (3, .int x3), (4, .ref (ad x4))]) (Nat.le_of_ble_eq_true rfl) rfl (fun ls hl => ?_)
  unfold f_L_mark at hf
  refine lv_aload hx hb dL_mark_0 (lv_at hl 4 rfl) ?_
  refine lv_iconst (v := (0 : Int32)) hx hb dL_mark_2 (by decide) ?_
  refine lv_aload_n hx hb dL_mark_3 rfl (lv_at hl 0 rfl) ?_
  refine lv_iload_n hx hb dL_mark_4 rfl (lv_at hl 1 rfl) ?_
  refine lv_iload_n hx hb dL_mark_5 rfl (lv_at hl 2 rfl) ?_
  refine lv_iload_n hx hb dL_mark_6 rfl (lv_at hl 3 rfl) ?_
  obtain ⟨hc_1, hf⟩ := aw_chk_some hf
  obtain ⟨z_2, hz_3, hf⟩ := aw_bind_some hf
  refine aw_CVI (As := [.int x1, .int x2, .int x3]) (rest := [.int ((0 : Int32)), .ref (ad x4)]) X G hl.1 cr_L_38 (c_X10_mark l hst hz_3) rfl rfl rfl (by decide) hc_1 rfl ⟨(Nat.le_of_ble_eq_true rfl), (Nat.le_of_ble_eq_true rfl)⟩ (Nat.le_of_ble_eq_true rfl) dL_mark_7 ⟨(Nat.le_of_ble_eq_true rfl), (Nat.le_of_ble_eq_true rfl)⟩ (fun e0 ce q9 H locs hz1 G hce hcv hcl => ?_) (fun v_4 H locs hz1 G => ?_)
  · have hf := aw_ct_l hz1 hf
    by_cases he : e0 = 1
    · have hf := aw_ite_t he hf
      subst he
      refine vx_catch (name := "java/lang/IndexOutOfBoundsException") hown [] (⟨0, 19, 22, 24⟩ : ExceptionTableEntry) [] (hT.trans rfl) (aw_hpass G.1 (fun _ h => nomatch h)) (by decide) (by decide) (G.1.hts _ m_435) (aw_cast G.1 (by decide)) hce hcv hcl ?_
      refine W.eq (g2 := F0 m 22 ls [.ref q9]) rfl ?_
      refine lv_astore (lv' := [(5, .ref q9), (0, .ref (ad x0)), (1, .int x1), (2, .int x2), (3, .int x3), (4, .ref (ad x4))]) hx hb dL_mark_22 hl (by decide) rfl (fun ls hl => ?_)
      refine lv_iconst (v := (1 : Int32)) hx hb dL_mark_24 (by decide) ?_
      exact aw_retj X G hf dL_mark_25 (Nat.le_of_ble_eq_true rfl) (Nat.le_of_ble_eq_true rfl)
    have hf := aw_ite_f he hf
    cases hf
  have hf := aw_ct_r hz1 hf
  refine lv_if_eq (tgt := 17) hx hb dL_mark_10 (by decide) (fun hc => ?_) (fun hc => ?_)
  · have hf := aw_ite_t hc hf
    refine lv_lconst (v := (0 : Int64)) hx hb dL_mark_17 (by decide) ?_
    exact w_L_mark_J18 X hf  (lv_sub hl [] rfl) G
  · have hf := aw_ite_f hc hf
    refine lv_lconst (v := (1 : Int64)) hx hb dL_mark_13 (by decide) ?_
    refine lv_goto (tgt := 18) hx hb dL_mark_14 (by decide) ?_
    exact w_L_mark_J18 X hf  (lv_sub hl [] rfl) G
def rm_L_spelled : Room := { frames := 8, cells := 3, slots := 18, locals := 134 }
def f_L_spelled (σ : Sg) (x0 : Nat) (x1 : Int32) (x2 : Int32) (x3 : Int32) (x4 : Nat) (d : Dt) : Option (Int32 × Dt) :=
  aw_chk (aw_O σ 10 13 x0) ((f_X10_spelled σ x0 x1 x2 x3 d).bind (fun z_2 => aw_ct z_2 (fun e0 => if e0 = 1 then some ((1 : Int32), z_2.2) else none) (fun v_4 => aw_chk (aw_I σ 21 x4 ((0 : Int32))) (some ((0 : Int32), aw_sL z_2.2 x4 ((0 : Int32)).toNatClampNeg v_4.toInt64)))))
section W_L_spelled
variable {p : Program} {l : Launch} {e : Env} {s : State} {m : MethodId} {args : Array Value} {below : List Frame} {meth : Method} {c : Code}
variable {D : va_G} {cA : Nat → ClassId} {base : Nat} {ad : Nat → Nat} {σ : Sg}
end W_L_spelled
set_option maxHeartbeats 4000000 in
set_option maxRecDepth 100000 in
theorem c_L_spelled (l : Launch) (hst : l.stackTraces = false) {σ : Sg} {x0 : Nat} {x1 : Int32} {x2 : Int32} {x3 : Int32} {x4 : Nat} {d : Dt} {z : Int32 × Dt} (hf : f_L_spelled σ x0 x1 x2 x3 x4 d = some z) : aw_Mi l yL_spelled (Cond.codeWith yL_spelled cL_spelled 6 (some .int) [(0, 12, 15, 24)]) rm_L_spelled (fun ad => [.ref (ad x0), .int x1, .int x2, .int x3, .ref (ad x4)]) σ d z := by
  intro D cA base ad
  refine aw_ofCW (own := RL) (cc := cL_spelled) (nL := 6) (ret := some .int) [(0, 12, 15, 24)] (by decide) rfl rfl ?_
  intro p e s m below meth c X hT G
  have hx := X.1; have hb := X.2.1; have hml := X.2.2.1; have hown := X.2.2.2.1
  refine aw_ls (lv := [(0, .ref (ad x0)), (1, .int x1), (2, .int x2), (3, .int x3), (4, .ref (ad x4))]) (Nat.le_of_ble_eq_true rfl) rfl (fun ls hl => ?_)
  unfold f_L_spelled at hf
  refine lv_aload hx hb dL_spelled_0 (lv_at hl 4 rfl) ?_
  refine lv_iconst (v := (0 : Int32)) hx hb dL_spelled_2 (by decide) ?_
  refine lv_aload_n hx hb dL_spelled_3 rfl (lv_at hl 0 rfl) ?_
  refine lv_iload_n hx hb dL_spelled_4 rfl (lv_at hl 1 rfl) ?_
  refine lv_iload_n hx hb dL_spelled_5 rfl (lv_at hl 2 rfl) ?_
  refine lv_iload_n hx hb dL_spelled_6 rfl (lv_at hl 3 rfl) ?_
  obtain ⟨hc_1, hf⟩ := aw_chk_some hf
  obtain ⟨z_2, hz_3, hf⟩ := aw_bind_some hf
  refine aw_CVI (As := [.int x1, .int x2, .int x3]) (rest := [.int ((0 : Int32)), .ref (ad x4)]) X G hl.1 cr_L_42 (c_X10_spelled l hst hz_3) rfl rfl rfl (by decide) hc_1 rfl ⟨(Nat.le_of_ble_eq_true rfl), (Nat.le_of_ble_eq_true rfl)⟩ (Nat.le_of_ble_eq_true rfl) dL_spelled_7 ⟨(Nat.le_of_ble_eq_true rfl), (Nat.le_of_ble_eq_true rfl)⟩ (fun e0 ce q9 H locs hz1 G hce hcv hcl => ?_) (fun v_4 H locs hz1 G => ?_)
  · have hf := aw_ct_l hz1 hf
    by_cases he : e0 = 1
    · have hf := aw_ite_t he hf
      subst he
      refine vx_catch (name := "java/lang/IndexOutOfBoundsException") hown [] (⟨0, 12, 15, 24⟩ : ExceptionTableEntry) [] (hT.trans rfl) (aw_hpass G.1 (fun _ h => nomatch h)) (by decide) (by decide) (G.1.hts _ m_435) (aw_cast G.1 (by decide)) hce hcv hcl ?_
      refine W.eq (g2 := F0 m 15 ls [.ref q9]) rfl ?_
      refine lv_astore (lv' := [(5, .ref q9), (0, .ref (ad x0)), (1, .int x1), (2, .int x2), (3, .int x3), (4, .ref (ad x4))]) hx hb dL_spelled_15 hl (by decide) rfl (fun ls hl => ?_)
      refine lv_iconst (v := (1 : Int32)) hx hb dL_spelled_17 (by decide) ?_
      exact aw_retj X G hf dL_spelled_18 (Nat.le_of_ble_eq_true rfl) (Nat.le_of_ble_eq_true rfl)
    have hf := aw_ite_f he hf
    cases hf
  have hf := aw_ct_r hz1 hf
  refine lv_i2l hx hb dL_spelled_10 rfl ?_
  obtain ⟨hc_5, hf⟩ := aw_chk_some hf
  refine aw_las hx hb G hc_5 dL_spelled_11 (fun H locs G => ?_)
  refine lv_goto (tgt := 19) hx hb dL_spelled_12 (by decide) ?_
  refine lv_iconst (v := (0 : Int32)) hx hb dL_spelled_19 (by decide) ?_
  exact aw_retj X G hf dL_spelled_20 (Nat.le_of_ble_eq_true rfl) (Nat.le_of_ble_eq_true rfl)
def rm_L_doubts : Room := { frames := 8, cells := 1, slots := 6, locals := 135 }
def f_L_doubts (σ : Sg) (x0 : Nat) (x1 : Int32) (x2 : Nat) (d : Dt) : Option (Int32 × Dt) :=
  aw_chk (aw_O σ 10 13 x0) ((f_X10_doubts σ x0 x1 d).bind (fun z_2 => aw_ct z_2 (fun e0 => if e0 = 1 then some ((1 : Int32), z_2.2) else none) (fun v_4 => aw_chk (aw_I σ 21 x2 ((0 : Int32))) (some ((0 : Int32), aw_sL z_2.2 x2 ((0 : Int32)).toNatClampNeg v_4.toInt64)))))
section W_L_doubts
variable {p : Program} {l : Launch} {e : Env} {s : State} {m : MethodId} {args : Array Value} {below : List Frame} {meth : Method} {c : Code}
variable {D : va_G} {cA : Nat → ClassId} {base : Nat} {ad : Nat → Nat} {σ : Sg}
end W_L_doubts
set_option maxHeartbeats 4000000 in
set_option maxRecDepth 100000 in
theorem c_L_doubts (l : Launch) (hst : l.stackTraces = false) {σ : Sg} {x0 : Nat} {x1 : Int32} {x2 : Nat} {d : Dt} {z : Int32 × Dt} (hf : f_L_doubts σ x0 x1 x2 d = some z) : aw_Mi l yL_doubts (Cond.codeWith yL_doubts cL_doubts 4 (some .int) [(0, 9, 12, 24)]) rm_L_doubts (fun ad => [.ref (ad x0), .int x1, .ref (ad x2)]) σ d z := by
  intro D cA base ad
  refine aw_ofCW (own := RL) (cc := cL_doubts) (nL := 4) (ret := some .int) [(0, 9, 12, 24)] (by decide) rfl rfl ?_
  intro p e s m below meth c X hT G
  have hx := X.1; have hb := X.2.1; have hml := X.2.2.1; have hown := X.2.2.2.1
  refine aw_ls (lv := [(0, .ref (ad x0)), (1, .int x1), (2, .ref (ad x2))]) (Nat.le_of_ble_eq_true rfl) rfl (fun ls hl => ?_)
  unfold f_L_doubts at hf
  refine lv_aload_n hx hb dL_doubts_0 rfl (lv_at hl 2 rfl) ?_
  refine lv_iconst (v := (0 : Int32)) hx hb dL_doubts_1 (by decide) ?_
  refine lv_aload_n hx hb dL_doubts_2 rfl (lv_at hl 0 rfl) ?_
  refine lv_iload_n hx hb dL_doubts_3 rfl (lv_at hl 1 rfl) ?_
  obtain ⟨hc_1, hf⟩ := aw_chk_some hf
  obtain ⟨z_2, hz_3, hf⟩ := aw_bind_some hf
  refine aw_CVI (As := [.int x1]) (rest := [.int ((0 : Int32)), .ref (ad x2)]) X G hl.1 cr_L_45 (c_X10_doubts l hst hz_3) rfl rfl rfl (by decide) hc_1 rfl ⟨(Nat.le_of_ble_eq_true rfl), (Nat.le_of_ble_eq_true rfl)⟩ (Nat.le_of_ble_eq_true rfl) dL_doubts_4 ⟨(Nat.le_of_ble_eq_true rfl), (Nat.le_of_ble_eq_true rfl)⟩ (fun e0 ce q9 H locs hz1 G hce hcv hcl => ?_) (fun v_4 H locs hz1 G => ?_)
  · have hf := aw_ct_l hz1 hf
    by_cases he : e0 = 1
    · have hf := aw_ite_t he hf
      subst he
      refine vx_catch (name := "java/lang/IndexOutOfBoundsException") hown [] (⟨0, 9, 12, 24⟩ : ExceptionTableEntry) [] (hT.trans rfl) (aw_hpass G.1 (fun _ h => nomatch h)) (by decide) (by decide) (G.1.hts _ m_435) (aw_cast G.1 (by decide)) hce hcv hcl ?_
      refine W.eq (g2 := F0 m 12 ls [.ref q9]) rfl ?_
      refine lv_astore_n (lv' := [(3, .ref q9), (0, .ref (ad x0)), (1, .int x1), (2, .ref (ad x2))]) hx hb dL_doubts_12 rfl hl (by decide) rfl (fun ls hl => ?_)
      refine lv_iconst (v := (1 : Int32)) hx hb dL_doubts_13 (by decide) ?_
      exact aw_retj X G hf dL_doubts_14 (Nat.le_of_ble_eq_true rfl) (Nat.le_of_ble_eq_true rfl)
    have hf := aw_ite_f he hf
    cases hf
  have hf := aw_ct_r hz1 hf
  refine lv_i2l hx hb dL_doubts_7 rfl ?_
  obtain ⟨hc_5, hf⟩ := aw_chk_some hf
  refine aw_las hx hb G hc_5 dL_doubts_8 (fun H locs G => ?_)
  refine lv_goto (tgt := 15) hx hb dL_doubts_9 (by decide) ?_
  refine lv_iconst (v := (0 : Int32)) hx hb dL_doubts_15 (by decide) ?_
  exact aw_retj X G hf dL_doubts_16 (Nat.le_of_ble_eq_true rfl) (Nat.le_of_ble_eq_true rfl)
def rm_L_load : Room := { frames := 8, cells := 1, slots := 6, locals := 132 }
def f_L_load (σ : Sg) (x0 : Nat) (x1 : Int32) (x2 : Nat) (d : Dt) : Option (Int32 × Dt) :=
  aw_chk (aw_O σ 10 13 x0) ((f_X10_load σ x0 x1 d).bind (fun z_2 => aw_ct z_2 (fun e0 => if e0 = 1 then some ((1 : Int32), z_2.2) else none) (fun v_4 => aw_chk (aw_I σ 21 x2 ((0 : Int32))) (some ((0 : Int32), aw_sL z_2.2 x2 ((0 : Int32)).toNatClampNeg v_4.toInt64)))))
section W_L_load
variable {p : Program} {l : Launch} {e : Env} {s : State} {m : MethodId} {args : Array Value} {below : List Frame} {meth : Method} {c : Code}
variable {D : va_G} {cA : Nat → ClassId} {base : Nat} {ad : Nat → Nat} {σ : Sg}
end W_L_load
set_option maxHeartbeats 4000000 in
set_option maxRecDepth 100000 in
theorem c_L_load (l : Launch) (hst : l.stackTraces = false) {σ : Sg} {x0 : Nat} {x1 : Int32} {x2 : Nat} {d : Dt} {z : Int32 × Dt} (hf : f_L_load σ x0 x1 x2 d = some z) : aw_Mi l yL_load (Cond.codeWith yL_load cL_load 4 (some .int) [(0, 9, 12, 24)]) rm_L_load (fun ad => [.ref (ad x0), .int x1, .ref (ad x2)]) σ d z := by
  intro D cA base ad
  refine aw_ofCW (own := RL) (cc := cL_load) (nL := 4) (ret := some .int) [(0, 9, 12, 24)] (by decide) rfl rfl ?_
  intro p e s m below meth c X hT G
  have hx := X.1; have hb := X.2.1; have hml := X.2.2.1; have hown := X.2.2.2.1
  refine aw_ls (lv := [(0, .ref (ad x0)), (1, .int x1), (2, .ref (ad x2))]) (Nat.le_of_ble_eq_true rfl) rfl (fun ls hl => ?_)
  unfold f_L_load at hf
  refine lv_aload_n hx hb dL_load_0 rfl (lv_at hl 2 rfl) ?_
  refine lv_iconst (v := (0 : Int32)) hx hb dL_load_1 (by decide) ?_
  refine lv_aload_n hx hb dL_load_2 rfl (lv_at hl 0 rfl) ?_
  refine lv_iload_n hx hb dL_load_3 rfl (lv_at hl 1 rfl) ?_
  obtain ⟨hc_1, hf⟩ := aw_chk_some hf
  obtain ⟨z_2, hz_3, hf⟩ := aw_bind_some hf
  refine aw_CVI (As := [.int x1]) (rest := [.int ((0 : Int32)), .ref (ad x2)]) X G hl.1 cr_L_48 (c_X10_load l hst hz_3) rfl rfl rfl (by decide) hc_1 rfl ⟨(Nat.le_of_ble_eq_true rfl), (Nat.le_of_ble_eq_true rfl)⟩ (Nat.le_of_ble_eq_true rfl) dL_load_4 ⟨(Nat.le_of_ble_eq_true rfl), (Nat.le_of_ble_eq_true rfl)⟩ (fun e0 ce q9 H locs hz1 G hce hcv hcl => ?_) (fun v_4 H locs hz1 G => ?_)
  · have hf := aw_ct_l hz1 hf
    by_cases he : e0 = 1
    · have hf := aw_ite_t he hf
      subst he
      refine vx_catch (name := "java/lang/IndexOutOfBoundsException") hown [] (⟨0, 9, 12, 24⟩ : ExceptionTableEntry) [] (hT.trans rfl) (aw_hpass G.1 (fun _ h => nomatch h)) (by decide) (by decide) (G.1.hts _ m_435) (aw_cast G.1 (by decide)) hce hcv hcl ?_
      refine W.eq (g2 := F0 m 12 ls [.ref q9]) rfl ?_
      refine lv_astore_n (lv' := [(3, .ref q9), (0, .ref (ad x0)), (1, .int x1), (2, .ref (ad x2))]) hx hb dL_load_12 rfl hl (by decide) rfl (fun ls hl => ?_)
      refine lv_iconst (v := (1 : Int32)) hx hb dL_load_13 (by decide) ?_
      exact aw_retj X G hf dL_load_14 (Nat.le_of_ble_eq_true rfl) (Nat.le_of_ble_eq_true rfl)
    have hf := aw_ite_f he hf
    cases hf
  have hf := aw_ct_r hz1 hf
  refine lv_i2l hx hb dL_load_7 rfl ?_
  obtain ⟨hc_5, hf⟩ := aw_chk_some hf
  refine aw_las hx hb G hc_5 dL_load_8 (fun H locs G => ?_)
  refine lv_goto (tgt := 15) hx hb dL_load_9 (by decide) ?_
  refine lv_iconst (v := (0 : Int32)) hx hb dL_load_15 (by decide) ?_
  exact aw_retj X G hf dL_load_16 (Nat.le_of_ble_eq_true rfl) (Nat.le_of_ble_eq_true rfl)
def rm_L_loadIf : Room := { frames := 8, cells := 2, slots := 12, locals := 135 }
def f_L_loadIf (σ : Sg) (x0 : Nat) (x1 : Int32) (x2 : Int32) (x3 : Nat) (d : Dt) : Option (Int32 × Dt) :=
  aw_chk (aw_O σ 10 13 x0) ((f_X10_loadIf σ x0 x1 x2 d).bind (fun z_2 => aw_ct z_2 (fun e0 => if e0 = 1 then some ((1 : Int32), z_2.2) else none) (fun v_4 => aw_chk (aw_I σ 21 x3 ((0 : Int32))) (some ((0 : Int32), aw_sL z_2.2 x3 ((0 : Int32)).toNatClampNeg v_4.toInt64)))))
section W_L_loadIf
variable {p : Program} {l : Launch} {e : Env} {s : State} {m : MethodId} {args : Array Value} {below : List Frame} {meth : Method} {c : Code}
variable {D : va_G} {cA : Nat → ClassId} {base : Nat} {ad : Nat → Nat} {σ : Sg}
end W_L_loadIf
set_option maxHeartbeats 4000000 in
set_option maxRecDepth 100000 in
theorem c_L_loadIf (l : Launch) (hst : l.stackTraces = false) {σ : Sg} {x0 : Nat} {x1 : Int32} {x2 : Int32} {x3 : Nat} {d : Dt} {z : Int32 × Dt} (hf : f_L_loadIf σ x0 x1 x2 x3 d = some z) : aw_Mi l yL_loadIf (Cond.codeWith yL_loadIf cL_loadIf 5 (some .int) [(0, 10, 13, 24)]) rm_L_loadIf (fun ad => [.ref (ad x0), .int x1, .int x2, .ref (ad x3)]) σ d z := by
  intro D cA base ad
  refine aw_ofCW (own := RL) (cc := cL_loadIf) (nL := 5) (ret := some .int) [(0, 10, 13, 24)] (by decide) rfl rfl ?_
  intro p e s m below meth c X hT G
  have hx := X.1; have hb := X.2.1; have hml := X.2.2.1; have hown := X.2.2.2.1
  refine aw_ls (lv := [(0, .ref (ad x0)), (1, .int x1), (2, .int x2), (3, .ref (ad x3))]) (Nat.le_of_ble_eq_true rfl) rfl (fun ls hl => ?_)
  unfold f_L_loadIf at hf
  refine lv_aload_n hx hb dL_loadIf_0 rfl (lv_at hl 3 rfl) ?_
  refine lv_iconst (v := (0 : Int32)) hx hb dL_loadIf_1 (by decide) ?_
  refine lv_aload_n hx hb dL_loadIf_2 rfl (lv_at hl 0 rfl) ?_
  refine lv_iload_n hx hb dL_loadIf_3 rfl (lv_at hl 1 rfl) ?_
  refine lv_iload_n hx hb dL_loadIf_4 rfl (lv_at hl 2 rfl) ?_
  obtain ⟨hc_1, hf⟩ := aw_chk_some hf
  obtain ⟨z_2, hz_3, hf⟩ := aw_bind_some hf
  refine aw_CVI (As := [.int x1, .int x2]) (rest := [.int ((0 : Int32)), .ref (ad x3)]) X G hl.1 cr_L_51 (c_X10_loadIf l hst hz_3) rfl rfl rfl (by decide) hc_1 rfl ⟨(Nat.le_of_ble_eq_true rfl), (Nat.le_of_ble_eq_true rfl)⟩ (Nat.le_of_ble_eq_true rfl) dL_loadIf_5 ⟨(Nat.le_of_ble_eq_true rfl), (Nat.le_of_ble_eq_true rfl)⟩ (fun e0 ce q9 H locs hz1 G hce hcv hcl => ?_) (fun v_4 H locs hz1 G => ?_)
  · have hf := aw_ct_l hz1 hf
    by_cases he : e0 = 1
    · have hf := aw_ite_t he hf
      subst he
      refine vx_catch (name := "java/lang/IndexOutOfBoundsException") hown [] (⟨0, 10, 13, 24⟩ : ExceptionTableEntry) [] (hT.trans rfl) (aw_hpass G.1 (fun _ h => nomatch h)) (by decide) (by decide) (G.1.hts _ m_435) (aw_cast G.1 (by decide)) hce hcv hcl ?_
      refine W.eq (g2 := F0 m 13 ls [.ref q9]) rfl ?_
      refine lv_astore (lv' := [(4, .ref q9), (0, .ref (ad x0)), (1, .int x1), (2, .int x2), (3, .ref (ad x3))]) hx hb dL_loadIf_13 hl (by decide) rfl (fun ls hl => ?_)
      refine lv_iconst (v := (1 : Int32)) hx hb dL_loadIf_15 (by decide) ?_
      exact aw_retj X G hf dL_loadIf_16 (Nat.le_of_ble_eq_true rfl) (Nat.le_of_ble_eq_true rfl)
    have hf := aw_ite_f he hf
    cases hf
  have hf := aw_ct_r hz1 hf
  refine lv_i2l hx hb dL_loadIf_8 rfl ?_
  obtain ⟨hc_5, hf⟩ := aw_chk_some hf
  refine aw_las hx hb G hc_5 dL_loadIf_9 (fun H locs G => ?_)
  refine lv_goto (tgt := 17) hx hb dL_loadIf_10 (by decide) ?_
  refine lv_iconst (v := (0 : Int32)) hx hb dL_loadIf_17 (by decide) ?_
  exact aw_retj X G hf dL_loadIf_18 (Nat.le_of_ble_eq_true rfl) (Nat.le_of_ble_eq_true rfl)
def rm_L_readings : Room := { frames := 8, cells := 2, slots := 12, locals := 133 }
def f_L_readings (σ : Sg) (x0 : Nat) (x1 : Int32) (x2 : Int32) (x3 : Nat) (d : Dt) : Option (Int32 × Dt) :=
  aw_chk (aw_O σ 10 13 x0) ((f_X10_readings σ x0 x1 x2 d).bind (fun z_2 => aw_ct z_2 (fun e0 => if e0 = 1 then some ((1 : Int32), z_2.2) else none) (fun v_4 => aw_chk (aw_I σ 21 x3 ((0 : Int32))) (some ((0 : Int32), aw_sL z_2.2 x3 ((0 : Int32)).toNatClampNeg v_4)))))
section W_L_readings
variable {p : Program} {l : Launch} {e : Env} {s : State} {m : MethodId} {args : Array Value} {below : List Frame} {meth : Method} {c : Code}
variable {D : va_G} {cA : Nat → ClassId} {base : Nat} {ad : Nat → Nat} {σ : Sg}
end W_L_readings
set_option maxHeartbeats 4000000 in
set_option maxRecDepth 100000 in
theorem c_L_readings (l : Launch) (hst : l.stackTraces = false) {σ : Sg} {x0 : Nat} {x1 : Int32} {x2 : Int32} {x3 : Nat} {d : Dt} {z : Int32 × Dt} (hf : f_L_readings σ x0 x1 x2 x3 d = some z) : aw_Mi l yL_readings (Cond.codeWith yL_readings cL_readings 5 (some .int) [(0, 9, 12, 24)]) rm_L_readings (fun ad => [.ref (ad x0), .int x1, .int x2, .ref (ad x3)]) σ d z := by
  intro D cA base ad
  refine aw_ofCW (own := RL) (cc := cL_readings) (nL := 5) (ret := some .int) [(0, 9, 12, 24)] (by decide) rfl rfl ?_
  intro p e s m below meth c X hT G
  have hx := X.1; have hb := X.2.1; have hml := X.2.2.1; have hown := X.2.2.2.1
  refine aw_ls (lv := [(0, .ref (ad x0)), (1, .int x1), (2, .int x2), (3, .ref (ad x3))]) (Nat.le_of_ble_eq_true rfl) rfl (fun ls hl => ?_)
  unfold f_L_readings at hf
  refine lv_aload_n hx hb dL_readings_0 rfl (lv_at hl 3 rfl) ?_
  refine lv_iconst (v := (0 : Int32)) hx hb dL_readings_1 (by decide) ?_
  refine lv_aload_n hx hb dL_readings_2 rfl (lv_at hl 0 rfl) ?_
  refine lv_iload_n hx hb dL_readings_3 rfl (lv_at hl 1 rfl) ?_
  refine lv_iload_n hx hb dL_readings_4 rfl (lv_at hl 2 rfl) ?_
  obtain ⟨hc_1, hf⟩ := aw_chk_some hf
  obtain ⟨z_2, hz_3, hf⟩ := aw_bind_some hf
  refine aw_CVL (As := [.int x1, .int x2]) (rest := [.int ((0 : Int32)), .ref (ad x3)]) X G hl.1 cr_L_54 (c_X10_readings l hst hz_3) rfl rfl rfl (by decide) hc_1 rfl ⟨(Nat.le_of_ble_eq_true rfl), (Nat.le_of_ble_eq_true rfl)⟩ (Nat.le_of_ble_eq_true rfl) dL_readings_5 ⟨(Nat.le_of_ble_eq_true rfl), (Nat.le_of_ble_eq_true rfl)⟩ (fun e0 ce q9 H locs hz1 G hce hcv hcl => ?_) (fun v_4 H locs hz1 G => ?_)
  · have hf := aw_ct_l hz1 hf
    by_cases he : e0 = 1
    · have hf := aw_ite_t he hf
      subst he
      refine vx_catch (name := "java/lang/IndexOutOfBoundsException") hown [] (⟨0, 9, 12, 24⟩ : ExceptionTableEntry) [] (hT.trans rfl) (aw_hpass G.1 (fun _ h => nomatch h)) (by decide) (by decide) (G.1.hts _ m_435) (aw_cast G.1 (by decide)) hce hcv hcl ?_
      refine W.eq (g2 := F0 m 12 ls [.ref q9]) rfl ?_
      refine lv_astore (lv' := [(4, .ref q9), (0, .ref (ad x0)), (1, .int x1), (2, .int x2), (3, .ref (ad x3))]) hx hb dL_readings_12 hl (by decide) rfl (fun ls hl => ?_)
      refine lv_iconst (v := (1 : Int32)) hx hb dL_readings_14 (by decide) ?_
      exact aw_retj X G hf dL_readings_15 (Nat.le_of_ble_eq_true rfl) (Nat.le_of_ble_eq_true rfl)
    have hf := aw_ite_f he hf
    cases hf
  have hf := aw_ct_r hz1 hf
  obtain ⟨hc_5, hf⟩ := aw_chk_some hf
  refine aw_las hx hb G hc_5 dL_readings_8 (fun H locs G => ?_)
  refine lv_goto (tgt := 16) hx hb dL_readings_9 (by decide) ?_
  refine lv_iconst (v := (0 : Int32)) hx hb dL_readings_16 (by decide) ?_
  exact aw_retj X G hf dL_readings_17 (Nat.le_of_ble_eq_true rfl) (Nat.le_of_ble_eq_true rfl)
def rm_L_readingsAnew : Room := { frames := 8, cells := 2, slots := 12, locals := 133 }
def f_L_readingsAnew (σ : Sg) (x0 : Nat) (x1 : Int32) (x2 : Int32) (x3 : Nat) (d : Dt) : Option (Int32 × Dt) :=
  aw_chk (aw_O σ 10 13 x0) ((f_X10_readingsAnew σ x0 x1 x2 d).bind (fun z_2 => aw_ct z_2 (fun e0 => if e0 = 1 then some ((1 : Int32), z_2.2) else none) (fun v_4 => aw_chk (aw_I σ 21 x3 ((0 : Int32))) (some ((0 : Int32), aw_sL z_2.2 x3 ((0 : Int32)).toNatClampNeg v_4)))))
section W_L_readingsAnew
variable {p : Program} {l : Launch} {e : Env} {s : State} {m : MethodId} {args : Array Value} {below : List Frame} {meth : Method} {c : Code}
variable {D : va_G} {cA : Nat → ClassId} {base : Nat} {ad : Nat → Nat} {σ : Sg}
end W_L_readingsAnew
set_option maxHeartbeats 4000000 in
set_option maxRecDepth 100000 in
theorem c_L_readingsAnew (l : Launch) (hst : l.stackTraces = false) {σ : Sg} {x0 : Nat} {x1 : Int32} {x2 : Int32} {x3 : Nat} {d : Dt} {z : Int32 × Dt} (hf : f_L_readingsAnew σ x0 x1 x2 x3 d = some z) : aw_Mi l yL_readingsAnew (Cond.codeWith yL_readingsAnew cL_readingsAnew 5 (some .int) [(0, 9, 12, 24)]) rm_L_readingsAnew (fun ad => [.ref (ad x0), .int x1, .int x2, .ref (ad x3)]) σ d z := by
  intro D cA base ad
  refine aw_ofCW (own := RL) (cc := cL_readingsAnew) (nL := 5) (ret := some .int) [(0, 9, 12, 24)] (by decide) rfl rfl ?_
  intro p e s m below meth c X hT G
  have hx := X.1; have hb := X.2.1; have hml := X.2.2.1; have hown := X.2.2.2.1
  refine aw_ls (lv := [(0, .ref (ad x0)), (1, .int x1), (2, .int x2), (3, .ref (ad x3))]) (Nat.le_of_ble_eq_true rfl) rfl (fun ls hl => ?_)
  unfold f_L_readingsAnew at hf
  refine lv_aload_n hx hb dL_readingsAnew_0 rfl (lv_at hl 3 rfl) ?_
  refine lv_iconst (v := (0 : Int32)) hx hb dL_readingsAnew_1 (by decide) ?_
  refine lv_aload_n hx hb dL_readingsAnew_2 rfl (lv_at hl 0 rfl) ?_
  refine lv_iload_n hx hb dL_readingsAnew_3 rfl (lv_at hl 1 rfl) ?_
  refine lv_iload_n hx hb dL_readingsAnew_4 rfl (lv_at hl 2 rfl) ?_
  obtain ⟨hc_1, hf⟩ := aw_chk_some hf
  obtain ⟨z_2, hz_3, hf⟩ := aw_bind_some hf
  refine aw_CVL (As := [.int x1, .int x2]) (rest := [.int ((0 : Int32)), .ref (ad x3)]) X G hl.1 cr_L_58 (c_X10_readingsAnew l hst hz_3) rfl rfl rfl (by decide) hc_1 rfl ⟨(Nat.le_of_ble_eq_true rfl), (Nat.le_of_ble_eq_true rfl)⟩ (Nat.le_of_ble_eq_true rfl) dL_readingsAnew_5 ⟨(Nat.le_of_ble_eq_true rfl), (Nat.le_of_ble_eq_true rfl)⟩ (fun e0 ce q9 H locs hz1 G hce hcv hcl => ?_) (fun v_4 H locs hz1 G => ?_)
  · have hf := aw_ct_l hz1 hf
    by_cases he : e0 = 1
    · have hf := aw_ite_t he hf
      subst he
      refine vx_catch (name := "java/lang/IndexOutOfBoundsException") hown [] (⟨0, 9, 12, 24⟩ : ExceptionTableEntry) [] (hT.trans rfl) (aw_hpass G.1 (fun _ h => nomatch h)) (by decide) (by decide) (G.1.hts _ m_435) (aw_cast G.1 (by decide)) hce hcv hcl ?_
      refine W.eq (g2 := F0 m 12 ls [.ref q9]) rfl ?_
      refine lv_astore (lv' := [(4, .ref q9), (0, .ref (ad x0)), (1, .int x1), (2, .int x2), (3, .ref (ad x3))]) hx hb dL_readingsAnew_12 hl (by decide) rfl (fun ls hl => ?_)
      refine lv_iconst (v := (1 : Int32)) hx hb dL_readingsAnew_14 (by decide) ?_
      exact aw_retj X G hf dL_readingsAnew_15 (Nat.le_of_ble_eq_true rfl) (Nat.le_of_ble_eq_true rfl)
    have hf := aw_ite_f he hf
    cases hf
  have hf := aw_ct_r hz1 hf
  obtain ⟨hc_5, hf⟩ := aw_chk_some hf
  refine aw_las hx hb G hc_5 dL_readingsAnew_8 (fun H locs G => ?_)
  refine lv_goto (tgt := 16) hx hb dL_readingsAnew_9 (by decide) ?_
  refine lv_iconst (v := (0 : Int32)) hx hb dL_readingsAnew_16 (by decide) ?_
  exact aw_retj X G hf dL_readingsAnew_17 (Nat.le_of_ble_eq_true rfl) (Nat.le_of_ble_eq_true rfl)
def rm_L_fit : Room := { frames := 8, cells := 2, slots := 12, locals := 133 }
def f_L_fit (σ : Sg) (x0 : Nat) (x1 : Int32) (x2 : Int32) (x3 : Nat) (d : Dt) : Option (Int32 × Dt) :=
  aw_chk (aw_O σ 10 13 x0) ((f_X10_fit σ x0 x1 x2 d).bind (fun z_2 => aw_ct z_2 (fun e0 => if e0 = 1 then some ((1 : Int32), z_2.2) else none) (fun v_4 => aw_chk (aw_I σ 21 x3 ((0 : Int32))) (some ((0 : Int32), aw_sL z_2.2 x3 ((0 : Int32)).toNatClampNeg v_4.toInt64)))))
section W_L_fit
variable {p : Program} {l : Launch} {e : Env} {s : State} {m : MethodId} {args : Array Value} {below : List Frame} {meth : Method} {c : Code}
variable {D : va_G} {cA : Nat → ClassId} {base : Nat} {ad : Nat → Nat} {σ : Sg}
end W_L_fit
set_option maxHeartbeats 4000000 in
set_option maxRecDepth 100000 in
theorem c_L_fit (l : Launch) (hst : l.stackTraces = false) {σ : Sg} {x0 : Nat} {x1 : Int32} {x2 : Int32} {x3 : Nat} {d : Dt} {z : Int32 × Dt} (hf : f_L_fit σ x0 x1 x2 x3 d = some z) : aw_Mi l yL_fit (Cond.codeWith yL_fit cL_fit 5 (some .int) [(0, 10, 13, 24)]) rm_L_fit (fun ad => [.ref (ad x0), .int x1, .int x2, .ref (ad x3)]) σ d z := by
  intro D cA base ad
  refine aw_ofCW (own := RL) (cc := cL_fit) (nL := 5) (ret := some .int) [(0, 10, 13, 24)] (by decide) rfl rfl ?_
  intro p e s m below meth c X hT G
  have hx := X.1; have hb := X.2.1; have hml := X.2.2.1; have hown := X.2.2.2.1
  refine aw_ls (lv := [(0, .ref (ad x0)), (1, .int x1), (2, .int x2), (3, .ref (ad x3))]) (Nat.le_of_ble_eq_true rfl) rfl (fun ls hl => ?_)
  unfold f_L_fit at hf
  refine lv_aload_n hx hb dL_fit_0 rfl (lv_at hl 3 rfl) ?_
  refine lv_iconst (v := (0 : Int32)) hx hb dL_fit_1 (by decide) ?_
  refine lv_aload_n hx hb dL_fit_2 rfl (lv_at hl 0 rfl) ?_
  refine lv_iload_n hx hb dL_fit_3 rfl (lv_at hl 1 rfl) ?_
  refine lv_iload_n hx hb dL_fit_4 rfl (lv_at hl 2 rfl) ?_
  obtain ⟨hc_1, hf⟩ := aw_chk_some hf
  obtain ⟨z_2, hz_3, hf⟩ := aw_bind_some hf
  refine aw_CVI (As := [.int x1, .int x2]) (rest := [.int ((0 : Int32)), .ref (ad x3)]) X G hl.1 cr_L_61 (c_X10_fit l hst hz_3) rfl rfl rfl (by decide) hc_1 rfl ⟨(Nat.le_of_ble_eq_true rfl), (Nat.le_of_ble_eq_true rfl)⟩ (Nat.le_of_ble_eq_true rfl) dL_fit_5 ⟨(Nat.le_of_ble_eq_true rfl), (Nat.le_of_ble_eq_true rfl)⟩ (fun e0 ce q9 H locs hz1 G hce hcv hcl => ?_) (fun v_4 H locs hz1 G => ?_)
  · have hf := aw_ct_l hz1 hf
    by_cases he : e0 = 1
    · have hf := aw_ite_t he hf
      subst he
      refine vx_catch (name := "java/lang/IndexOutOfBoundsException") hown [] (⟨0, 10, 13, 24⟩ : ExceptionTableEntry) [] (hT.trans rfl) (aw_hpass G.1 (fun _ h => nomatch h)) (by decide) (by decide) (G.1.hts _ m_435) (aw_cast G.1 (by decide)) hce hcv hcl ?_
      refine W.eq (g2 := F0 m 13 ls [.ref q9]) rfl ?_
      refine lv_astore (lv' := [(4, .ref q9), (0, .ref (ad x0)), (1, .int x1), (2, .int x2), (3, .ref (ad x3))]) hx hb dL_fit_13 hl (by decide) rfl (fun ls hl => ?_)
      refine lv_iconst (v := (1 : Int32)) hx hb dL_fit_15 (by decide) ?_
      exact aw_retj X G hf dL_fit_16 (Nat.le_of_ble_eq_true rfl) (Nat.le_of_ble_eq_true rfl)
    have hf := aw_ite_f he hf
    cases hf
  have hf := aw_ct_r hz1 hf
  refine lv_i2l hx hb dL_fit_8 rfl ?_
  obtain ⟨hc_5, hf⟩ := aw_chk_some hf
  refine aw_las hx hb G hc_5 dL_fit_9 (fun H locs G => ?_)
  refine lv_goto (tgt := 17) hx hb dL_fit_10 (by decide) ?_
  refine lv_iconst (v := (0 : Int32)) hx hb dL_fit_17 (by decide) ?_
  exact aw_retj X G hf dL_fit_18 (Nat.le_of_ble_eq_true rfl) (Nat.le_of_ble_eq_true rfl)
def rm_L_shape : Room := { frames := 8, cells := 2, slots := 12, locals := 134 }
def f_L_shape (σ : Sg) (x0 : Nat) (x1 : Int32) (x2 : Int32) (x3 : Nat) (d : Dt) : Option (Int32 × Dt) :=
  aw_chk (aw_O σ 10 13 x0) ((f_X10_shape σ x0 x1 x2 d).bind (fun z_2 => aw_ct z_2 (fun e0 => if e0 = 1 then some ((1 : Int32), z_2.2) else if e0 = 2 then some ((2 : Int32), z_2.2) else none) (fun v_4 => aw_chk (aw_I σ 21 x3 ((0 : Int32))) (some ((0 : Int32), aw_sL z_2.2 x3 ((0 : Int32)).toNatClampNeg v_4.toInt64)))))
section W_L_shape
variable {p : Program} {l : Launch} {e : Env} {s : State} {m : MethodId} {args : Array Value} {below : List Frame} {meth : Method} {c : Code}
variable {D : va_G} {cA : Nat → ClassId} {base : Nat} {ad : Nat → Nat} {σ : Sg}
end W_L_shape
set_option maxHeartbeats 4000000 in
set_option maxRecDepth 100000 in
theorem c_L_shape (l : Launch) (hst : l.stackTraces = false) {σ : Sg} {x0 : Nat} {x1 : Int32} {x2 : Int32} {x3 : Nat} {d : Dt} {z : Int32 × Dt} (hf : f_L_shape σ x0 x1 x2 x3 d = some z) : aw_Mi l yL_shape (Cond.codeWith yL_shape cL_shape 5 (some .int) [(0, 10, 13, 24), (0, 10, 17, 13)]) rm_L_shape (fun ad => [.ref (ad x0), .int x1, .int x2, .ref (ad x3)]) σ d z := by
  intro D cA base ad
  refine aw_ofCW (own := RL) (cc := cL_shape) (nL := 5) (ret := some .int) [(0, 10, 13, 24), (0, 10, 17, 13)] (by decide) rfl rfl ?_
  intro p e s m below meth c X hT G
  have hx := X.1; have hb := X.2.1; have hml := X.2.2.1; have hown := X.2.2.2.1
  refine aw_ls (lv := [(0, .ref (ad x0)), (1, .int x1), (2, .int x2), (3, .ref (ad x3))]) (Nat.le_of_ble_eq_true rfl) rfl (fun ls hl => ?_)
  unfold f_L_shape at hf
  refine lv_aload_n hx hb dL_shape_0 rfl (lv_at hl 3 rfl) ?_
  refine lv_iconst (v := (0 : Int32)) hx hb dL_shape_1 (by decide) ?_
  refine lv_aload_n hx hb dL_shape_2 rfl (lv_at hl 0 rfl) ?_
  refine lv_iload_n hx hb dL_shape_3 rfl (lv_at hl 1 rfl) ?_
  refine lv_iload_n hx hb dL_shape_4 rfl (lv_at hl 2 rfl) ?_
  obtain ⟨hc_1, hf⟩ := aw_chk_some hf
  obtain ⟨z_2, hz_3, hf⟩ := aw_bind_some hf
  refine aw_CVI (As := [.int x1, .int x2]) (rest := [.int ((0 : Int32)), .ref (ad x3)]) X G hl.1 cr_L_64 (c_X10_shape l hst hz_3) rfl rfl rfl (by decide) hc_1 rfl ⟨(Nat.le_of_ble_eq_true rfl), (Nat.le_of_ble_eq_true rfl)⟩ (Nat.le_of_ble_eq_true rfl) dL_shape_5 ⟨(Nat.le_of_ble_eq_true rfl), (Nat.le_of_ble_eq_true rfl)⟩ (fun e0 ce q9 H locs hz1 G hce hcv hcl => ?_) (fun v_4 H locs hz1 G => ?_)
  · have hf := aw_ct_l hz1 hf
    by_cases he : e0 = 1
    · have hf := aw_ite_t he hf
      subst he
      refine vx_catch (name := "java/lang/IndexOutOfBoundsException") hown [] (⟨0, 10, 13, 24⟩ : ExceptionTableEntry) [(⟨0, 10, 17, 13⟩ : ExceptionTableEntry)] (hT.trans rfl) (aw_hpass G.1 (fun _ h => nomatch h)) (by decide) (by decide) (G.1.hts _ m_435) (aw_cast G.1 (by decide)) hce hcv hcl ?_
      refine W.eq (g2 := F0 m 13 ls [.ref q9]) rfl ?_
      refine lv_astore (lv' := [(4, .ref q9), (0, .ref (ad x0)), (1, .int x1), (2, .int x2), (3, .ref (ad x3))]) hx hb dL_shape_13 hl (by decide) rfl (fun ls hl => ?_)
      refine lv_iconst (v := (1 : Int32)) hx hb dL_shape_15 (by decide) ?_
      exact aw_retj X G hf dL_shape_16 (Nat.le_of_ble_eq_true rfl) (Nat.le_of_ble_eq_true rfl)
    have hf := aw_ite_f he hf
    by_cases he : e0 = 2
    · have hf := aw_ite_t he hf
      subst he
      refine vx_catch (name := "java/lang/IllegalArgumentException") hown [(⟨0, 10, 13, 24⟩ : ExceptionTableEntry)] (⟨0, 10, 17, 13⟩ : ExceptionTableEntry) [] (hT.trans rfl) (aw_hpass G.1 (List.forall_mem_cons.mpr ⟨⟨by decide, "java/lang/IndexOutOfBoundsException", by decide, m_435, by decide, by decide⟩, (fun _ h => nomatch h)⟩)) (by decide) (by decide) (G.1.hts _ m_310) (aw_cast G.1 (by decide)) hce hcv hcl ?_
      refine W.eq (g2 := F0 m 17 ls [.ref q9]) rfl ?_
      refine lv_astore (lv' := [(4, .ref q9), (0, .ref (ad x0)), (1, .int x1), (2, .int x2), (3, .ref (ad x3))]) hx hb dL_shape_17 hl (by decide) rfl (fun ls hl => ?_)
      refine lv_iconst (v := (2 : Int32)) hx hb dL_shape_19 (by decide) ?_
      exact aw_retj X G hf dL_shape_20 (Nat.le_of_ble_eq_true rfl) (Nat.le_of_ble_eq_true rfl)
    have hf := aw_ite_f he hf
    cases hf
  have hf := aw_ct_r hz1 hf
  refine lv_i2l hx hb dL_shape_8 rfl ?_
  obtain ⟨hc_5, hf⟩ := aw_chk_some hf
  refine aw_las hx hb G hc_5 dL_shape_9 (fun H locs G => ?_)
  refine lv_goto (tgt := 21) hx hb dL_shape_10 (by decide) ?_
  refine lv_iconst (v := (0 : Int32)) hx hb dL_shape_21 (by decide) ?_
  exact aw_retj X G hf dL_shape_22 (Nat.le_of_ble_eq_true rfl) (Nat.le_of_ble_eq_true rfl)
def rm_L_apart : Room := { frames := 8, cells := 2, slots := 12, locals := 133 }
def f_L_apart (σ : Sg) (x0 : Nat) (x1 : Int32) (x2 : Int32) (x3 : Nat) (d : Dt) : Option (Int32 × Dt) :=
  aw_chk (aw_O σ 10 13 x0) ((f_X10_apart σ x0 x1 x2 d).bind (fun z_2 => aw_ct z_2 (fun e0 => if e0 = 1 then some ((1 : Int32), z_2.2) else none) (fun v_4 => aw_chk (aw_I σ 21 x3 ((0 : Int32))) (some ((0 : Int32), aw_sL z_2.2 x3 ((0 : Int32)).toNatClampNeg v_4.toInt64)))))
section W_L_apart
variable {p : Program} {l : Launch} {e : Env} {s : State} {m : MethodId} {args : Array Value} {below : List Frame} {meth : Method} {c : Code}
variable {D : va_G} {cA : Nat → ClassId} {base : Nat} {ad : Nat → Nat} {σ : Sg}
end W_L_apart
set_option maxHeartbeats 4000000 in
set_option maxRecDepth 100000 in
theorem c_L_apart (l : Launch) (hst : l.stackTraces = false) {σ : Sg} {x0 : Nat} {x1 : Int32} {x2 : Int32} {x3 : Nat} {d : Dt} {z : Int32 × Dt} (hf : f_L_apart σ x0 x1 x2 x3 d = some z) : aw_Mi l yL_apart (Cond.codeWith yL_apart cL_apart 5 (some .int) [(0, 10, 13, 24)]) rm_L_apart (fun ad => [.ref (ad x0), .int x1, .int x2, .ref (ad x3)]) σ d z := by
  intro D cA base ad
  refine aw_ofCW (own := RL) (cc := cL_apart) (nL := 5) (ret := some .int) [(0, 10, 13, 24)] (by decide) rfl rfl ?_
  intro p e s m below meth c X hT G
  have hx := X.1; have hb := X.2.1; have hml := X.2.2.1; have hown := X.2.2.2.1
  refine aw_ls (lv := [(0, .ref (ad x0)), (1, .int x1), (2, .int x2), (3, .ref (ad x3))]) (Nat.le_of_ble_eq_true rfl) rfl (fun ls hl => ?_)
  unfold f_L_apart at hf
  refine lv_aload_n hx hb dL_apart_0 rfl (lv_at hl 3 rfl) ?_
  refine lv_iconst (v := (0 : Int32)) hx hb dL_apart_1 (by decide) ?_
  refine lv_aload_n hx hb dL_apart_2 rfl (lv_at hl 0 rfl) ?_
  refine lv_iload_n hx hb dL_apart_3 rfl (lv_at hl 1 rfl) ?_
  refine lv_iload_n hx hb dL_apart_4 rfl (lv_at hl 2 rfl) ?_
  obtain ⟨hc_1, hf⟩ := aw_chk_some hf
  obtain ⟨z_2, hz_3, hf⟩ := aw_bind_some hf
  refine aw_CVI (As := [.int x1, .int x2]) (rest := [.int ((0 : Int32)), .ref (ad x3)]) X G hl.1 cr_L_67 (c_X10_apart l hst hz_3) rfl rfl rfl (by decide) hc_1 rfl ⟨(Nat.le_of_ble_eq_true rfl), (Nat.le_of_ble_eq_true rfl)⟩ (Nat.le_of_ble_eq_true rfl) dL_apart_5 ⟨(Nat.le_of_ble_eq_true rfl), (Nat.le_of_ble_eq_true rfl)⟩ (fun e0 ce q9 H locs hz1 G hce hcv hcl => ?_) (fun v_4 H locs hz1 G => ?_)
  · have hf := aw_ct_l hz1 hf
    by_cases he : e0 = 1
    · have hf := aw_ite_t he hf
      subst he
      refine vx_catch (name := "java/lang/IndexOutOfBoundsException") hown [] (⟨0, 10, 13, 24⟩ : ExceptionTableEntry) [] (hT.trans rfl) (aw_hpass G.1 (fun _ h => nomatch h)) (by decide) (by decide) (G.1.hts _ m_435) (aw_cast G.1 (by decide)) hce hcv hcl ?_
      refine W.eq (g2 := F0 m 13 ls [.ref q9]) rfl ?_
      refine lv_astore (lv' := [(4, .ref q9), (0, .ref (ad x0)), (1, .int x1), (2, .int x2), (3, .ref (ad x3))]) hx hb dL_apart_13 hl (by decide) rfl (fun ls hl => ?_)
      refine lv_iconst (v := (1 : Int32)) hx hb dL_apart_15 (by decide) ?_
      exact aw_retj X G hf dL_apart_16 (Nat.le_of_ble_eq_true rfl) (Nat.le_of_ble_eq_true rfl)
    have hf := aw_ite_f he hf
    cases hf
  have hf := aw_ct_r hz1 hf
  refine lv_i2l hx hb dL_apart_8 rfl ?_
  obtain ⟨hc_5, hf⟩ := aw_chk_some hf
  refine aw_las hx hb G hc_5 dL_apart_9 (fun H locs G => ?_)
  refine lv_goto (tgt := 17) hx hb dL_apart_10 (by decide) ?_
  refine lv_iconst (v := (0 : Int32)) hx hb dL_apart_17 (by decide) ?_
  exact aw_retj X G hf dL_apart_18 (Nat.le_of_ble_eq_true rfl) (Nat.le_of_ble_eq_true rfl)
def rm_L_clear : Room := { frames := 8, cells := 1, slots := 6, locals := 132 }
def f_L_clear (σ : Sg) (x0 : Nat) (x1 : Int32) (x2 : Nat) (d : Dt) : Option (Int32 × Dt) :=
  aw_chk (aw_O σ 10 13 x0) ((f_X10_clear σ x0 x1 d).bind (fun z_2 => aw_ct z_2 (fun e0 => if e0 = 1 then some ((1 : Int32), z_2.2) else none) (fun v_4 => aw_chk (aw_I σ 21 x2 ((0 : Int32))) (some ((0 : Int32), aw_sL z_2.2 x2 ((0 : Int32)).toNatClampNeg v_4.toInt64)))))
section W_L_clear
variable {p : Program} {l : Launch} {e : Env} {s : State} {m : MethodId} {args : Array Value} {below : List Frame} {meth : Method} {c : Code}
variable {D : va_G} {cA : Nat → ClassId} {base : Nat} {ad : Nat → Nat} {σ : Sg}
end W_L_clear
set_option maxHeartbeats 4000000 in
set_option maxRecDepth 100000 in
theorem c_L_clear (l : Launch) (hst : l.stackTraces = false) {σ : Sg} {x0 : Nat} {x1 : Int32} {x2 : Nat} {d : Dt} {z : Int32 × Dt} (hf : f_L_clear σ x0 x1 x2 d = some z) : aw_Mi l yL_clear (Cond.codeWith yL_clear cL_clear 4 (some .int) [(0, 9, 12, 24)]) rm_L_clear (fun ad => [.ref (ad x0), .int x1, .ref (ad x2)]) σ d z := by
  intro D cA base ad
  refine aw_ofCW (own := RL) (cc := cL_clear) (nL := 4) (ret := some .int) [(0, 9, 12, 24)] (by decide) rfl rfl ?_
  intro p e s m below meth c X hT G
  have hx := X.1; have hb := X.2.1; have hml := X.2.2.1; have hown := X.2.2.2.1
  refine aw_ls (lv := [(0, .ref (ad x0)), (1, .int x1), (2, .ref (ad x2))]) (Nat.le_of_ble_eq_true rfl) rfl (fun ls hl => ?_)
  unfold f_L_clear at hf
  refine lv_aload_n hx hb dL_clear_0 rfl (lv_at hl 2 rfl) ?_
  refine lv_iconst (v := (0 : Int32)) hx hb dL_clear_1 (by decide) ?_
  refine lv_aload_n hx hb dL_clear_2 rfl (lv_at hl 0 rfl) ?_
  refine lv_iload_n hx hb dL_clear_3 rfl (lv_at hl 1 rfl) ?_
  obtain ⟨hc_1, hf⟩ := aw_chk_some hf
  obtain ⟨z_2, hz_3, hf⟩ := aw_bind_some hf
  refine aw_CVI (As := [.int x1]) (rest := [.int ((0 : Int32)), .ref (ad x2)]) X G hl.1 cr_L_70 (c_X10_clear l hst hz_3) rfl rfl rfl (by decide) hc_1 rfl ⟨(Nat.le_of_ble_eq_true rfl), (Nat.le_of_ble_eq_true rfl)⟩ (Nat.le_of_ble_eq_true rfl) dL_clear_4 ⟨(Nat.le_of_ble_eq_true rfl), (Nat.le_of_ble_eq_true rfl)⟩ (fun e0 ce q9 H locs hz1 G hce hcv hcl => ?_) (fun v_4 H locs hz1 G => ?_)
  · have hf := aw_ct_l hz1 hf
    by_cases he : e0 = 1
    · have hf := aw_ite_t he hf
      subst he
      refine vx_catch (name := "java/lang/IndexOutOfBoundsException") hown [] (⟨0, 9, 12, 24⟩ : ExceptionTableEntry) [] (hT.trans rfl) (aw_hpass G.1 (fun _ h => nomatch h)) (by decide) (by decide) (G.1.hts _ m_435) (aw_cast G.1 (by decide)) hce hcv hcl ?_
      refine W.eq (g2 := F0 m 12 ls [.ref q9]) rfl ?_
      refine lv_astore_n (lv' := [(3, .ref q9), (0, .ref (ad x0)), (1, .int x1), (2, .ref (ad x2))]) hx hb dL_clear_12 rfl hl (by decide) rfl (fun ls hl => ?_)
      refine lv_iconst (v := (1 : Int32)) hx hb dL_clear_13 (by decide) ?_
      exact aw_retj X G hf dL_clear_14 (Nat.le_of_ble_eq_true rfl) (Nat.le_of_ble_eq_true rfl)
    have hf := aw_ite_f he hf
    cases hf
  have hf := aw_ct_r hz1 hf
  refine lv_i2l hx hb dL_clear_7 rfl ?_
  obtain ⟨hc_5, hf⟩ := aw_chk_some hf
  refine aw_las hx hb G hc_5 dL_clear_8 (fun H locs G => ?_)
  refine lv_goto (tgt := 15) hx hb dL_clear_9 (by decide) ?_
  refine lv_iconst (v := (0 : Int32)) hx hb dL_clear_15 (by decide) ?_
  exact aw_retj X G hf dL_clear_16 (Nat.le_of_ble_eq_true rfl) (Nat.le_of_ble_eq_true rfl)
def rm_L_errors : Room := { frames := 8, cells := 2, slots := 12, locals := 150 }
def f_L_errors (σ : Sg) (x0 : Nat) (x1 : Int32) (x2 : Int32) (x3 : Nat) (d : Dt) : Option (Int32 × Dt) :=
  aw_chk (aw_O σ 10 13 x0) ((f_X10_errors σ x0 x1 x2 d).bind (fun z_2 => aw_ct z_2 (fun e0 => if e0 = 1 then some ((1 : Int32), z_2.2) else if e0 = 2 then some ((2 : Int32), z_2.2) else none) (fun v_4 => aw_chk (aw_I σ 21 x3 ((0 : Int32))) (some ((0 : Int32), aw_sL z_2.2 x3 ((0 : Int32)).toNatClampNeg v_4.toInt64)))))
section W_L_errors
variable {p : Program} {l : Launch} {e : Env} {s : State} {m : MethodId} {args : Array Value} {below : List Frame} {meth : Method} {c : Code}
variable {D : va_G} {cA : Nat → ClassId} {base : Nat} {ad : Nat → Nat} {σ : Sg}
end W_L_errors
set_option maxHeartbeats 4000000 in
set_option maxRecDepth 100000 in
theorem c_L_errors (l : Launch) (hst : l.stackTraces = false) {σ : Sg} {x0 : Nat} {x1 : Int32} {x2 : Int32} {x3 : Nat} {d : Dt} {z : Int32 × Dt} (hf : f_L_errors σ x0 x1 x2 x3 d = some z) : aw_Mi l yL_errors (Cond.codeWith yL_errors cL_errors 5 (some .int) [(0, 10, 13, 24), (0, 10, 17, 13)]) rm_L_errors (fun ad => [.ref (ad x0), .int x1, .int x2, .ref (ad x3)]) σ d z := by
  intro D cA base ad
  refine aw_ofCW (own := RL) (cc := cL_errors) (nL := 5) (ret := some .int) [(0, 10, 13, 24), (0, 10, 17, 13)] (by decide) rfl rfl ?_
  intro p e s m below meth c X hT G
  have hx := X.1; have hb := X.2.1; have hml := X.2.2.1; have hown := X.2.2.2.1
  refine aw_ls (lv := [(0, .ref (ad x0)), (1, .int x1), (2, .int x2), (3, .ref (ad x3))]) (Nat.le_of_ble_eq_true rfl) rfl (fun ls hl => ?_)
  unfold f_L_errors at hf
  refine lv_aload_n hx hb dL_errors_0 rfl (lv_at hl 3 rfl) ?_
  refine lv_iconst (v := (0 : Int32)) hx hb dL_errors_1 (by decide) ?_
  refine lv_aload_n hx hb dL_errors_2 rfl (lv_at hl 0 rfl) ?_
  refine lv_iload_n hx hb dL_errors_3 rfl (lv_at hl 1 rfl) ?_
  refine lv_iload_n hx hb dL_errors_4 rfl (lv_at hl 2 rfl) ?_
  obtain ⟨hc_1, hf⟩ := aw_chk_some hf
  obtain ⟨z_2, hz_3, hf⟩ := aw_bind_some hf
  refine aw_CVI (As := [.int x1, .int x2]) (rest := [.int ((0 : Int32)), .ref (ad x3)]) X G hl.1 cr_L_73 (c_X10_errors l hst hz_3) rfl rfl rfl (by decide) hc_1 rfl ⟨(Nat.le_of_ble_eq_true rfl), (Nat.le_of_ble_eq_true rfl)⟩ (Nat.le_of_ble_eq_true rfl) dL_errors_5 ⟨(Nat.le_of_ble_eq_true rfl), (Nat.le_of_ble_eq_true rfl)⟩ (fun e0 ce q9 H locs hz1 G hce hcv hcl => ?_) (fun v_4 H locs hz1 G => ?_)
  · have hf := aw_ct_l hz1 hf
    by_cases he : e0 = 1
    · have hf := aw_ite_t he hf
      subst he
      refine vx_catch (name := "java/lang/IndexOutOfBoundsException") hown [] (⟨0, 10, 13, 24⟩ : ExceptionTableEntry) [(⟨0, 10, 17, 13⟩ : ExceptionTableEntry)] (hT.trans rfl) (aw_hpass G.1 (fun _ h => nomatch h)) (by decide) (by decide) (G.1.hts _ m_435) (aw_cast G.1 (by decide)) hce hcv hcl ?_
      refine W.eq (g2 := F0 m 13 ls [.ref q9]) rfl ?_
      refine lv_astore (lv' := [(4, .ref q9), (0, .ref (ad x0)), (1, .int x1), (2, .int x2), (3, .ref (ad x3))]) hx hb dL_errors_13 hl (by decide) rfl (fun ls hl => ?_)
      refine lv_iconst (v := (1 : Int32)) hx hb dL_errors_15 (by decide) ?_
      exact aw_retj X G hf dL_errors_16 (Nat.le_of_ble_eq_true rfl) (Nat.le_of_ble_eq_true rfl)
    have hf := aw_ite_f he hf
    by_cases he : e0 = 2
    · have hf := aw_ite_t he hf
      subst he
      refine vx_catch (name := "java/lang/IllegalArgumentException") hown [(⟨0, 10, 13, 24⟩ : ExceptionTableEntry)] (⟨0, 10, 17, 13⟩ : ExceptionTableEntry) [] (hT.trans rfl) (aw_hpass G.1 (List.forall_mem_cons.mpr ⟨⟨by decide, "java/lang/IndexOutOfBoundsException", by decide, m_435, by decide, by decide⟩, (fun _ h => nomatch h)⟩)) (by decide) (by decide) (G.1.hts _ m_310) (aw_cast G.1 (by decide)) hce hcv hcl ?_
      refine W.eq (g2 := F0 m 17 ls [.ref q9]) rfl ?_
      refine lv_astore (lv' := [(4, .ref q9), (0, .ref (ad x0)), (1, .int x1), (2, .int x2), (3, .ref (ad x3))]) hx hb dL_errors_17 hl (by decide) rfl (fun ls hl => ?_)
      refine lv_iconst (v := (2 : Int32)) hx hb dL_errors_19 (by decide) ?_
      exact aw_retj X G hf dL_errors_20 (Nat.le_of_ble_eq_true rfl) (Nat.le_of_ble_eq_true rfl)
    have hf := aw_ite_f he hf
    cases hf
  have hf := aw_ct_r hz1 hf
  refine lv_i2l hx hb dL_errors_8 rfl ?_
  obtain ⟨hc_5, hf⟩ := aw_chk_some hf
  refine aw_las hx hb G hc_5 dL_errors_9 (fun H locs G => ?_)
  refine lv_goto (tgt := 21) hx hb dL_errors_10 (by decide) ?_
  refine lv_iconst (v := (0 : Int32)) hx hb dL_errors_21 (by decide) ?_
  exact aw_retj X G hf dL_errors_22 (Nat.le_of_ble_eq_true rfl) (Nat.le_of_ble_eq_true rfl)
def rm_L_primer : Room := { frames := 8, cells := 2, slots := 12, locals := 142 }
def f_L_primer (σ : Sg) (x0 : Nat) (x1 : Int32) (x2 : Int32) (x3 : Nat) (d : Dt) : Option (Int32 × Dt) :=
  aw_chk (aw_O σ 10 13 x0) ((f_X10_primer σ x0 x1 x2 d).bind (fun z_2 => aw_ct z_2 (fun e0 => if e0 = 1 then some ((1 : Int32), z_2.2) else none) (fun v_4 => aw_chk (aw_I σ 21 x3 ((0 : Int32))) (some ((0 : Int32), aw_sL z_2.2 x3 ((0 : Int32)).toNatClampNeg v_4.toInt64)))))
section W_L_primer
variable {p : Program} {l : Launch} {e : Env} {s : State} {m : MethodId} {args : Array Value} {below : List Frame} {meth : Method} {c : Code}
variable {D : va_G} {cA : Nat → ClassId} {base : Nat} {ad : Nat → Nat} {σ : Sg}
end W_L_primer
set_option maxHeartbeats 4000000 in
set_option maxRecDepth 100000 in
theorem c_L_primer (l : Launch) (hst : l.stackTraces = false) {σ : Sg} {x0 : Nat} {x1 : Int32} {x2 : Int32} {x3 : Nat} {d : Dt} {z : Int32 × Dt} (hf : f_L_primer σ x0 x1 x2 x3 d = some z) : aw_Mi l yL_primer (Cond.codeWith yL_primer cL_primer 5 (some .int) [(0, 10, 13, 24)]) rm_L_primer (fun ad => [.ref (ad x0), .int x1, .int x2, .ref (ad x3)]) σ d z := by
  intro D cA base ad
  refine aw_ofCW (own := RL) (cc := cL_primer) (nL := 5) (ret := some .int) [(0, 10, 13, 24)] (by decide) rfl rfl ?_
  intro p e s m below meth c X hT G
  have hx := X.1; have hb := X.2.1; have hml := X.2.2.1; have hown := X.2.2.2.1
  refine aw_ls (lv := [(0, .ref (ad x0)), (1, .int x1), (2, .int x2), (3, .ref (ad x3))]) (Nat.le_of_ble_eq_true rfl) rfl (fun ls hl => ?_)
  unfold f_L_primer at hf
  refine lv_aload_n hx hb dL_primer_0 rfl (lv_at hl 3 rfl) ?_
  refine lv_iconst (v := (0 : Int32)) hx hb dL_primer_1 (by decide) ?_
  refine lv_aload_n hx hb dL_primer_2 rfl (lv_at hl 0 rfl) ?_
  refine lv_iload_n hx hb dL_primer_3 rfl (lv_at hl 1 rfl) ?_
  refine lv_iload_n hx hb dL_primer_4 rfl (lv_at hl 2 rfl) ?_
  obtain ⟨hc_1, hf⟩ := aw_chk_some hf
  obtain ⟨z_2, hz_3, hf⟩ := aw_bind_some hf
  refine aw_CVI (As := [.int x1, .int x2]) (rest := [.int ((0 : Int32)), .ref (ad x3)]) X G hl.1 cr_L_76 (c_X10_primer l hst hz_3) rfl rfl rfl (by decide) hc_1 rfl ⟨(Nat.le_of_ble_eq_true rfl), (Nat.le_of_ble_eq_true rfl)⟩ (Nat.le_of_ble_eq_true rfl) dL_primer_5 ⟨(Nat.le_of_ble_eq_true rfl), (Nat.le_of_ble_eq_true rfl)⟩ (fun e0 ce q9 H locs hz1 G hce hcv hcl => ?_) (fun v_4 H locs hz1 G => ?_)
  · have hf := aw_ct_l hz1 hf
    by_cases he : e0 = 1
    · have hf := aw_ite_t he hf
      subst he
      refine vx_catch (name := "java/lang/IndexOutOfBoundsException") hown [] (⟨0, 10, 13, 24⟩ : ExceptionTableEntry) [] (hT.trans rfl) (aw_hpass G.1 (fun _ h => nomatch h)) (by decide) (by decide) (G.1.hts _ m_435) (aw_cast G.1 (by decide)) hce hcv hcl ?_
      refine W.eq (g2 := F0 m 13 ls [.ref q9]) rfl ?_
      refine lv_astore (lv' := [(4, .ref q9), (0, .ref (ad x0)), (1, .int x1), (2, .int x2), (3, .ref (ad x3))]) hx hb dL_primer_13 hl (by decide) rfl (fun ls hl => ?_)
      refine lv_iconst (v := (1 : Int32)) hx hb dL_primer_15 (by decide) ?_
      exact aw_retj X G hf dL_primer_16 (Nat.le_of_ble_eq_true rfl) (Nat.le_of_ble_eq_true rfl)
    have hf := aw_ite_f he hf
    cases hf
  have hf := aw_ct_r hz1 hf
  refine lv_i2l hx hb dL_primer_8 rfl ?_
  obtain ⟨hc_5, hf⟩ := aw_chk_some hf
  refine aw_las hx hb G hc_5 dL_primer_9 (fun H locs G => ?_)
  refine lv_goto (tgt := 17) hx hb dL_primer_10 (by decide) ?_
  refine lv_iconst (v := (0 : Int32)) hx hb dL_primer_17 (by decide) ?_
  exact aw_retj X G hf dL_primer_18 (Nat.le_of_ble_eq_true rfl) (Nat.le_of_ble_eq_true rfl)
def rm_L_cost : Room := { frames := 8, cells := 1, slots := 6, locals := 141 }
def f_L_cost (σ : Sg) (x0 : Nat) (x1 : Int32) (x2 : Nat) (d : Dt) : Option (Int32 × Dt) :=
  aw_chk (aw_O σ 10 13 x0) ((f_X10_cost σ x0 x1 d).bind (fun z_2 => aw_ct z_2 (fun e0 => if e0 = 1 then some ((1 : Int32), z_2.2) else none) (fun v_4 => aw_chk (aw_I σ 21 x2 ((0 : Int32))) (some ((0 : Int32), aw_sL z_2.2 x2 ((0 : Int32)).toNatClampNeg v_4.toInt64)))))
section W_L_cost
variable {p : Program} {l : Launch} {e : Env} {s : State} {m : MethodId} {args : Array Value} {below : List Frame} {meth : Method} {c : Code}
variable {D : va_G} {cA : Nat → ClassId} {base : Nat} {ad : Nat → Nat} {σ : Sg}
end W_L_cost
set_option maxHeartbeats 4000000 in
set_option maxRecDepth 100000 in
theorem c_L_cost (l : Launch) (hst : l.stackTraces = false) {σ : Sg} {x0 : Nat} {x1 : Int32} {x2 : Nat} {d : Dt} {z : Int32 × Dt} (hf : f_L_cost σ x0 x1 x2 d = some z) : aw_Mi l yL_cost (Cond.codeWith yL_cost cL_cost 4 (some .int) [(0, 9, 12, 24)]) rm_L_cost (fun ad => [.ref (ad x0), .int x1, .ref (ad x2)]) σ d z := by
  intro D cA base ad
  refine aw_ofCW (own := RL) (cc := cL_cost) (nL := 4) (ret := some .int) [(0, 9, 12, 24)] (by decide) rfl rfl ?_
  intro p e s m below meth c X hT G
  have hx := X.1; have hb := X.2.1; have hml := X.2.2.1; have hown := X.2.2.2.1
  refine aw_ls (lv := [(0, .ref (ad x0)), (1, .int x1), (2, .ref (ad x2))]) (Nat.le_of_ble_eq_true rfl) rfl (fun ls hl => ?_)
  unfold f_L_cost at hf
  refine lv_aload_n hx hb dL_cost_0 rfl (lv_at hl 2 rfl) ?_
  refine lv_iconst (v := (0 : Int32)) hx hb dL_cost_1 (by decide) ?_
  refine lv_aload_n hx hb dL_cost_2 rfl (lv_at hl 0 rfl) ?_
  refine lv_iload_n hx hb dL_cost_3 rfl (lv_at hl 1 rfl) ?_
  obtain ⟨hc_1, hf⟩ := aw_chk_some hf
  obtain ⟨z_2, hz_3, hf⟩ := aw_bind_some hf
  refine aw_CVI (As := [.int x1]) (rest := [.int ((0 : Int32)), .ref (ad x2)]) X G hl.1 cr_L_79 (c_X10_cost l hst hz_3) rfl rfl rfl (by decide) hc_1 rfl ⟨(Nat.le_of_ble_eq_true rfl), (Nat.le_of_ble_eq_true rfl)⟩ (Nat.le_of_ble_eq_true rfl) dL_cost_4 ⟨(Nat.le_of_ble_eq_true rfl), (Nat.le_of_ble_eq_true rfl)⟩ (fun e0 ce q9 H locs hz1 G hce hcv hcl => ?_) (fun v_4 H locs hz1 G => ?_)
  · have hf := aw_ct_l hz1 hf
    by_cases he : e0 = 1
    · have hf := aw_ite_t he hf
      subst he
      refine vx_catch (name := "java/lang/IndexOutOfBoundsException") hown [] (⟨0, 9, 12, 24⟩ : ExceptionTableEntry) [] (hT.trans rfl) (aw_hpass G.1 (fun _ h => nomatch h)) (by decide) (by decide) (G.1.hts _ m_435) (aw_cast G.1 (by decide)) hce hcv hcl ?_
      refine W.eq (g2 := F0 m 12 ls [.ref q9]) rfl ?_
      refine lv_astore_n (lv' := [(3, .ref q9), (0, .ref (ad x0)), (1, .int x1), (2, .ref (ad x2))]) hx hb dL_cost_12 rfl hl (by decide) rfl (fun ls hl => ?_)
      refine lv_iconst (v := (1 : Int32)) hx hb dL_cost_13 (by decide) ?_
      exact aw_retj X G hf dL_cost_14 (Nat.le_of_ble_eq_true rfl) (Nat.le_of_ble_eq_true rfl)
    have hf := aw_ite_f he hf
    cases hf
  have hf := aw_ct_r hz1 hf
  refine lv_i2l hx hb dL_cost_7 rfl ?_
  obtain ⟨hc_5, hf⟩ := aw_chk_some hf
  refine aw_las hx hb G hc_5 dL_cost_8 (fun H locs G => ?_)
  refine lv_goto (tgt := 15) hx hb dL_cost_9 (by decide) ?_
  refine lv_iconst (v := (0 : Int32)) hx hb dL_cost_15 (by decide) ?_
  exact aw_retj X G hf dL_cost_16 (Nat.le_of_ble_eq_true rfl) (Nat.le_of_ble_eq_true rfl)
def rm_L_leastCost : Room := { frames := 8, cells := 2, slots := 12, locals := 132 }
def f_L_leastCost (σ : Sg) (x0 : Nat) (x1 : Int32) (x2 : Nat) (d : Dt) : Option (Int32 × Dt) :=
  aw_chk (aw_O σ 10 13 x0) ((f_X10_leastCost σ x0 x1 d).bind (fun z_2 => aw_ct z_2 (fun e0 => if e0 = 1 then some ((1 : Int32), z_2.2) else if e0 = 3 then some ((2 : Int32), z_2.2) else none) (fun v_4 => aw_chk (aw_I σ 21 x2 ((0 : Int32))) (some ((0 : Int32), aw_sL z_2.2 x2 ((0 : Int32)).toNatClampNeg v_4.toInt64)))))
section W_L_leastCost
variable {p : Program} {l : Launch} {e : Env} {s : State} {m : MethodId} {args : Array Value} {below : List Frame} {meth : Method} {c : Code}
variable {D : va_G} {cA : Nat → ClassId} {base : Nat} {ad : Nat → Nat} {σ : Sg}
end W_L_leastCost
set_option maxHeartbeats 4000000 in
set_option maxRecDepth 100000 in
theorem c_L_leastCost (l : Launch) (hst : l.stackTraces = false) {σ : Sg} {x0 : Nat} {x1 : Int32} {x2 : Nat} {d : Dt} {z : Int32 × Dt} (hf : f_L_leastCost σ x0 x1 x2 d = some z) : aw_Mi l yL_leastCost (Cond.codeWith yL_leastCost cL_leastCost 4 (some .int) [(0, 9, 12, 24), (0, 9, 15, 15)]) rm_L_leastCost (fun ad => [.ref (ad x0), .int x1, .ref (ad x2)]) σ d z := by
  intro D cA base ad
  refine aw_ofCW (own := RL) (cc := cL_leastCost) (nL := 4) (ret := some .int) [(0, 9, 12, 24), (0, 9, 15, 15)] (by decide) rfl rfl ?_
  intro p e s m below meth c X hT G
  have hx := X.1; have hb := X.2.1; have hml := X.2.2.1; have hown := X.2.2.2.1
  refine aw_ls (lv := [(0, .ref (ad x0)), (1, .int x1), (2, .ref (ad x2))]) (Nat.le_of_ble_eq_true rfl) rfl (fun ls hl => ?_)
  unfold f_L_leastCost at hf
  refine lv_aload_n hx hb dL_leastCost_0 rfl (lv_at hl 2 rfl) ?_
  refine lv_iconst (v := (0 : Int32)) hx hb dL_leastCost_1 (by decide) ?_
  refine lv_aload_n hx hb dL_leastCost_2 rfl (lv_at hl 0 rfl) ?_
  refine lv_iload_n hx hb dL_leastCost_3 rfl (lv_at hl 1 rfl) ?_
  obtain ⟨hc_1, hf⟩ := aw_chk_some hf
  obtain ⟨z_2, hz_3, hf⟩ := aw_bind_some hf
  refine aw_CVI (As := [.int x1]) (rest := [.int ((0 : Int32)), .ref (ad x2)]) X G hl.1 cr_L_82 (c_X10_leastCost l hst hz_3) rfl rfl rfl (by decide) hc_1 rfl ⟨(Nat.le_of_ble_eq_true rfl), (Nat.le_of_ble_eq_true rfl)⟩ (Nat.le_of_ble_eq_true rfl) dL_leastCost_4 ⟨(Nat.le_of_ble_eq_true rfl), (Nat.le_of_ble_eq_true rfl)⟩ (fun e0 ce q9 H locs hz1 G hce hcv hcl => ?_) (fun v_4 H locs hz1 G => ?_)
  · have hf := aw_ct_l hz1 hf
    by_cases he : e0 = 1
    · have hf := aw_ite_t he hf
      subst he
      refine vx_catch (name := "java/lang/IndexOutOfBoundsException") hown [] (⟨0, 9, 12, 24⟩ : ExceptionTableEntry) [(⟨0, 9, 15, 15⟩ : ExceptionTableEntry)] (hT.trans rfl) (aw_hpass G.1 (fun _ h => nomatch h)) (by decide) (by decide) (G.1.hts _ m_435) (aw_cast G.1 (by decide)) hce hcv hcl ?_
      refine W.eq (g2 := F0 m 12 ls [.ref q9]) rfl ?_
      refine lv_astore_n (lv' := [(3, .ref q9), (0, .ref (ad x0)), (1, .int x1), (2, .ref (ad x2))]) hx hb dL_leastCost_12 rfl hl (by decide) rfl (fun ls hl => ?_)
      refine lv_iconst (v := (1 : Int32)) hx hb dL_leastCost_13 (by decide) ?_
      exact aw_retj X G hf dL_leastCost_14 (Nat.le_of_ble_eq_true rfl) (Nat.le_of_ble_eq_true rfl)
    have hf := aw_ite_f he hf
    by_cases he : e0 = 3
    · have hf := aw_ite_t he hf
      subst he
      refine vx_catch (name := "java/lang/IllegalStateException") hown [(⟨0, 9, 12, 24⟩ : ExceptionTableEntry)] (⟨0, 9, 15, 15⟩ : ExceptionTableEntry) [] (hT.trans rfl) (aw_hpass G.1 (List.forall_mem_cons.mpr ⟨⟨by decide, "java/lang/IndexOutOfBoundsException", by decide, m_435, by decide, by decide⟩, (fun _ h => nomatch h)⟩)) (by decide) (by decide) (G.1.hts _ m_311) (aw_cast G.1 (by decide)) hce hcv hcl ?_
      refine W.eq (g2 := F0 m 15 ls [.ref q9]) rfl ?_
      refine lv_astore_n (lv' := [(3, .ref q9), (0, .ref (ad x0)), (1, .int x1), (2, .ref (ad x2))]) hx hb dL_leastCost_15 rfl hl (by decide) rfl (fun ls hl => ?_)
      refine lv_iconst (v := (2 : Int32)) hx hb dL_leastCost_16 (by decide) ?_
      exact aw_retj X G hf dL_leastCost_17 (Nat.le_of_ble_eq_true rfl) (Nat.le_of_ble_eq_true rfl)
    have hf := aw_ite_f he hf
    cases hf
  have hf := aw_ct_r hz1 hf
  refine lv_i2l hx hb dL_leastCost_7 rfl ?_
  obtain ⟨hc_5, hf⟩ := aw_chk_some hf
  refine aw_las hx hb G hc_5 dL_leastCost_8 (fun H locs G => ?_)
  refine lv_goto (tgt := 18) hx hb dL_leastCost_9 (by decide) ?_
  refine lv_iconst (v := (0 : Int32)) hx hb dL_leastCost_18 (by decide) ?_
  exact aw_retj X G hf dL_leastCost_19 (Nat.le_of_ble_eq_true rfl) (Nat.le_of_ble_eq_true rfl)
def rm_L_key : Room := { frames := 8, cells := 3, slots := 18, locals := 134 }
def f_L_key (σ : Sg) (x0 : Nat) (x1 : Int32) (x2 : Int32) (x3 : Int32) (x4 : Nat) (d : Dt) : Option (Int32 × Dt) :=
  aw_chk (aw_O σ 10 13 x0) ((f_X10_key σ x0 x1 x2 x3 d).bind (fun z_2 => aw_ct z_2 (fun e0 => if e0 = 1 then some ((1 : Int32), z_2.2) else none) (fun v_4 => aw_chk (aw_I σ 21 x4 ((0 : Int32))) (some ((0 : Int32), aw_sL z_2.2 x4 ((0 : Int32)).toNatClampNeg v_4.toInt64)))))
section W_L_key
variable {p : Program} {l : Launch} {e : Env} {s : State} {m : MethodId} {args : Array Value} {below : List Frame} {meth : Method} {c : Code}
variable {D : va_G} {cA : Nat → ClassId} {base : Nat} {ad : Nat → Nat} {σ : Sg}
end W_L_key
set_option maxHeartbeats 4000000 in
set_option maxRecDepth 100000 in
theorem c_L_key (l : Launch) (hst : l.stackTraces = false) {σ : Sg} {x0 : Nat} {x1 : Int32} {x2 : Int32} {x3 : Int32} {x4 : Nat} {d : Dt} {z : Int32 × Dt} (hf : f_L_key σ x0 x1 x2 x3 x4 d = some z) : aw_Mi l yL_key (Cond.codeWith yL_key cL_key 6 (some .int) [(0, 12, 15, 24)]) rm_L_key (fun ad => [.ref (ad x0), .int x1, .int x2, .int x3, .ref (ad x4)]) σ d z := by
  intro D cA base ad
  refine aw_ofCW (own := RL) (cc := cL_key) (nL := 6) (ret := some .int) [(0, 12, 15, 24)] (by decide) rfl rfl ?_
  intro p e s m below meth c X hT G
  have hx := X.1; have hb := X.2.1; have hml := X.2.2.1; have hown := X.2.2.2.1
  refine aw_ls (lv := [(0, .ref (ad x0)), (1, .int x1), (2, .int x2), (3, .int x3), (4, .ref (ad x4))]) (Nat.le_of_ble_eq_true rfl) rfl (fun ls hl => ?_)
  unfold f_L_key at hf
  refine lv_aload hx hb dL_key_0 (lv_at hl 4 rfl) ?_
  refine lv_iconst (v := (0 : Int32)) hx hb dL_key_2 (by decide) ?_
  refine lv_aload_n hx hb dL_key_3 rfl (lv_at hl 0 rfl) ?_
  refine lv_iload_n hx hb dL_key_4 rfl (lv_at hl 1 rfl) ?_
  refine lv_iload_n hx hb dL_key_5 rfl (lv_at hl 2 rfl) ?_
  refine lv_iload_n hx hb dL_key_6 rfl (lv_at hl 3 rfl) ?_
  obtain ⟨hc_1, hf⟩ := aw_chk_some hf
  obtain ⟨z_2, hz_3, hf⟩ := aw_bind_some hf
  refine aw_CVI (As := [.int x1, .int x2, .int x3]) (rest := [.int ((0 : Int32)), .ref (ad x4)]) X G hl.1 cr_L_85 (c_X10_key l hst hz_3) rfl rfl rfl (by decide) hc_1 rfl ⟨(Nat.le_of_ble_eq_true rfl), (Nat.le_of_ble_eq_true rfl)⟩ (Nat.le_of_ble_eq_true rfl) dL_key_7 ⟨(Nat.le_of_ble_eq_true rfl), (Nat.le_of_ble_eq_true rfl)⟩ (fun e0 ce q9 H locs hz1 G hce hcv hcl => ?_) (fun v_4 H locs hz1 G => ?_)
  · have hf := aw_ct_l hz1 hf
    by_cases he : e0 = 1
    · have hf := aw_ite_t he hf
      subst he
      refine vx_catch (name := "java/lang/IndexOutOfBoundsException") hown [] (⟨0, 12, 15, 24⟩ : ExceptionTableEntry) [] (hT.trans rfl) (aw_hpass G.1 (fun _ h => nomatch h)) (by decide) (by decide) (G.1.hts _ m_435) (aw_cast G.1 (by decide)) hce hcv hcl ?_
      refine W.eq (g2 := F0 m 15 ls [.ref q9]) rfl ?_
      refine lv_astore (lv' := [(5, .ref q9), (0, .ref (ad x0)), (1, .int x1), (2, .int x2), (3, .int x3), (4, .ref (ad x4))]) hx hb dL_key_15 hl (by decide) rfl (fun ls hl => ?_)
      refine lv_iconst (v := (1 : Int32)) hx hb dL_key_17 (by decide) ?_
      exact aw_retj X G hf dL_key_18 (Nat.le_of_ble_eq_true rfl) (Nat.le_of_ble_eq_true rfl)
    have hf := aw_ite_f he hf
    cases hf
  have hf := aw_ct_r hz1 hf
  refine lv_i2l hx hb dL_key_10 rfl ?_
  obtain ⟨hc_5, hf⟩ := aw_chk_some hf
  refine aw_las hx hb G hc_5 dL_key_11 (fun H locs G => ?_)
  refine lv_goto (tgt := 19) hx hb dL_key_12 (by decide) ?_
  refine lv_iconst (v := (0 : Int32)) hx hb dL_key_19 (by decide) ?_
  exact aw_retj X G hf dL_key_20 (Nat.le_of_ble_eq_true rfl) (Nat.le_of_ble_eq_true rfl)
def rm_L_travel : Room := { frames := 8, cells := 1, slots := 6, locals := 135 }
def f_L_travel (σ : Sg) (x0 : Nat) (x1 : Int32) (x2 : Nat) (d : Dt) : Option (Int32 × Dt) :=
  aw_chk (aw_O σ 10 13 x0) ((f_X10_travel σ x0 x1 d).bind (fun z_2 => aw_ct z_2 (fun e0 => if e0 = 1 then some ((1 : Int32), z_2.2) else none) (fun v_4 => aw_chk (aw_I σ 21 x2 ((0 : Int32))) (some ((0 : Int32), aw_sL z_2.2 x2 ((0 : Int32)).toNatClampNeg v_4.toInt64)))))
section W_L_travel
variable {p : Program} {l : Launch} {e : Env} {s : State} {m : MethodId} {args : Array Value} {below : List Frame} {meth : Method} {c : Code}
variable {D : va_G} {cA : Nat → ClassId} {base : Nat} {ad : Nat → Nat} {σ : Sg}
end W_L_travel
set_option maxHeartbeats 4000000 in
set_option maxRecDepth 100000 in
theorem c_L_travel (l : Launch) (hst : l.stackTraces = false) {σ : Sg} {x0 : Nat} {x1 : Int32} {x2 : Nat} {d : Dt} {z : Int32 × Dt} (hf : f_L_travel σ x0 x1 x2 d = some z) : aw_Mi l yL_travel (Cond.codeWith yL_travel cL_travel 4 (some .int) [(0, 9, 12, 24)]) rm_L_travel (fun ad => [.ref (ad x0), .int x1, .ref (ad x2)]) σ d z := by
  intro D cA base ad
  refine aw_ofCW (own := RL) (cc := cL_travel) (nL := 4) (ret := some .int) [(0, 9, 12, 24)] (by decide) rfl rfl ?_
  intro p e s m below meth c X hT G
  have hx := X.1; have hb := X.2.1; have hml := X.2.2.1; have hown := X.2.2.2.1
  refine aw_ls (lv := [(0, .ref (ad x0)), (1, .int x1), (2, .ref (ad x2))]) (Nat.le_of_ble_eq_true rfl) rfl (fun ls hl => ?_)
  unfold f_L_travel at hf
  refine lv_aload_n hx hb dL_travel_0 rfl (lv_at hl 2 rfl) ?_
  refine lv_iconst (v := (0 : Int32)) hx hb dL_travel_1 (by decide) ?_
  refine lv_aload_n hx hb dL_travel_2 rfl (lv_at hl 0 rfl) ?_
  refine lv_iload_n hx hb dL_travel_3 rfl (lv_at hl 1 rfl) ?_
  obtain ⟨hc_1, hf⟩ := aw_chk_some hf
  obtain ⟨z_2, hz_3, hf⟩ := aw_bind_some hf
  refine aw_CVI (As := [.int x1]) (rest := [.int ((0 : Int32)), .ref (ad x2)]) X G hl.1 cr_L_88 (c_X10_travel l hst hz_3) rfl rfl rfl (by decide) hc_1 rfl ⟨(Nat.le_of_ble_eq_true rfl), (Nat.le_of_ble_eq_true rfl)⟩ (Nat.le_of_ble_eq_true rfl) dL_travel_4 ⟨(Nat.le_of_ble_eq_true rfl), (Nat.le_of_ble_eq_true rfl)⟩ (fun e0 ce q9 H locs hz1 G hce hcv hcl => ?_) (fun v_4 H locs hz1 G => ?_)
  · have hf := aw_ct_l hz1 hf
    by_cases he : e0 = 1
    · have hf := aw_ite_t he hf
      subst he
      refine vx_catch (name := "java/lang/IndexOutOfBoundsException") hown [] (⟨0, 9, 12, 24⟩ : ExceptionTableEntry) [] (hT.trans rfl) (aw_hpass G.1 (fun _ h => nomatch h)) (by decide) (by decide) (G.1.hts _ m_435) (aw_cast G.1 (by decide)) hce hcv hcl ?_
      refine W.eq (g2 := F0 m 12 ls [.ref q9]) rfl ?_
      refine lv_astore_n (lv' := [(3, .ref q9), (0, .ref (ad x0)), (1, .int x1), (2, .ref (ad x2))]) hx hb dL_travel_12 rfl hl (by decide) rfl (fun ls hl => ?_)
      refine lv_iconst (v := (1 : Int32)) hx hb dL_travel_13 (by decide) ?_
      exact aw_retj X G hf dL_travel_14 (Nat.le_of_ble_eq_true rfl) (Nat.le_of_ble_eq_true rfl)
    have hf := aw_ite_f he hf
    cases hf
  have hf := aw_ct_r hz1 hf
  refine lv_i2l hx hb dL_travel_7 rfl ?_
  obtain ⟨hc_5, hf⟩ := aw_chk_some hf
  refine aw_las hx hb G hc_5 dL_travel_8 (fun H locs G => ?_)
  refine lv_goto (tgt := 15) hx hb dL_travel_9 (by decide) ?_
  refine lv_iconst (v := (0 : Int32)) hx hb dL_travel_15 (by decide) ?_
  exact aw_retj X G hf dL_travel_16 (Nat.le_of_ble_eq_true rfl) (Nat.le_of_ble_eq_true rfl)
def rm_L_exchange : Room := { frames := 8, cells := 1, slots := 6, locals := 132 }
def f_L_exchange (σ : Sg) (x0 : Nat) (x1 : Int32) (x2 : Nat) (d : Dt) : Option (Int32 × Dt) :=
  aw_chk (aw_O σ 10 13 x0) ((f_X10_exchange σ x0 x1 d).bind (fun z_2 => aw_ct z_2 (fun e0 => if e0 = 1 then some ((1 : Int32), z_2.2) else none) (fun v_4 => aw_chk (aw_I σ 21 x2 ((0 : Int32))) (some ((0 : Int32), aw_sL z_2.2 x2 ((0 : Int32)).toNatClampNeg v_4.toInt64)))))
section W_L_exchange
variable {p : Program} {l : Launch} {e : Env} {s : State} {m : MethodId} {args : Array Value} {below : List Frame} {meth : Method} {c : Code}
variable {D : va_G} {cA : Nat → ClassId} {base : Nat} {ad : Nat → Nat} {σ : Sg}
end W_L_exchange
set_option maxHeartbeats 4000000 in
set_option maxRecDepth 100000 in
theorem c_L_exchange (l : Launch) (hst : l.stackTraces = false) {σ : Sg} {x0 : Nat} {x1 : Int32} {x2 : Nat} {d : Dt} {z : Int32 × Dt} (hf : f_L_exchange σ x0 x1 x2 d = some z) : aw_Mi l yL_exchange (Cond.codeWith yL_exchange cL_exchange 4 (some .int) [(0, 9, 12, 24)]) rm_L_exchange (fun ad => [.ref (ad x0), .int x1, .ref (ad x2)]) σ d z := by
  intro D cA base ad
  refine aw_ofCW (own := RL) (cc := cL_exchange) (nL := 4) (ret := some .int) [(0, 9, 12, 24)] (by decide) rfl rfl ?_
  intro p e s m below meth c X hT G
  have hx := X.1; have hb := X.2.1; have hml := X.2.2.1; have hown := X.2.2.2.1
  refine aw_ls (lv := [(0, .ref (ad x0)), (1, .int x1), (2, .ref (ad x2))]) (Nat.le_of_ble_eq_true rfl) rfl (fun ls hl => ?_)
  unfold f_L_exchange at hf
  refine lv_aload_n hx hb dL_exchange_0 rfl (lv_at hl 2 rfl) ?_
  refine lv_iconst (v := (0 : Int32)) hx hb dL_exchange_1 (by decide) ?_
  refine lv_aload_n hx hb dL_exchange_2 rfl (lv_at hl 0 rfl) ?_
  refine lv_iload_n hx hb dL_exchange_3 rfl (lv_at hl 1 rfl) ?_
  obtain ⟨hc_1, hf⟩ := aw_chk_some hf
  obtain ⟨z_2, hz_3, hf⟩ := aw_bind_some hf
  refine aw_CVI (As := [.int x1]) (rest := [.int ((0 : Int32)), .ref (ad x2)]) X G hl.1 cr_L_91 (c_X10_exchange l hst hz_3) rfl rfl rfl (by decide) hc_1 rfl ⟨(Nat.le_of_ble_eq_true rfl), (Nat.le_of_ble_eq_true rfl)⟩ (Nat.le_of_ble_eq_true rfl) dL_exchange_4 ⟨(Nat.le_of_ble_eq_true rfl), (Nat.le_of_ble_eq_true rfl)⟩ (fun e0 ce q9 H locs hz1 G hce hcv hcl => ?_) (fun v_4 H locs hz1 G => ?_)
  · have hf := aw_ct_l hz1 hf
    by_cases he : e0 = 1
    · have hf := aw_ite_t he hf
      subst he
      refine vx_catch (name := "java/lang/IndexOutOfBoundsException") hown [] (⟨0, 9, 12, 24⟩ : ExceptionTableEntry) [] (hT.trans rfl) (aw_hpass G.1 (fun _ h => nomatch h)) (by decide) (by decide) (G.1.hts _ m_435) (aw_cast G.1 (by decide)) hce hcv hcl ?_
      refine W.eq (g2 := F0 m 12 ls [.ref q9]) rfl ?_
      refine lv_astore_n (lv' := [(3, .ref q9), (0, .ref (ad x0)), (1, .int x1), (2, .ref (ad x2))]) hx hb dL_exchange_12 rfl hl (by decide) rfl (fun ls hl => ?_)
      refine lv_iconst (v := (1 : Int32)) hx hb dL_exchange_13 (by decide) ?_
      exact aw_retj X G hf dL_exchange_14 (Nat.le_of_ble_eq_true rfl) (Nat.le_of_ble_eq_true rfl)
    have hf := aw_ite_f he hf
    cases hf
  have hf := aw_ct_r hz1 hf
  refine lv_i2l hx hb dL_exchange_7 rfl ?_
  obtain ⟨hc_5, hf⟩ := aw_chk_some hf
  refine aw_las hx hb G hc_5 dL_exchange_8 (fun H locs G => ?_)
  refine lv_goto (tgt := 15) hx hb dL_exchange_9 (by decide) ?_
  refine lv_iconst (v := (0 : Int32)) hx hb dL_exchange_15 (by decide) ?_
  exact aw_retj X G hf dL_exchange_16 (Nat.le_of_ble_eq_true rfl) (Nat.le_of_ble_eq_true rfl)
def rm_L_group : Room := { frames := 8, cells := 3, slots := 18, locals := 136 }
def f_L_group (σ : Sg) (x0 : Nat) (x1 : Int32) (x2 : Int32) (x3 : Int32) (x4 : Int32) (x5 : Nat) (d : Dt) : Option (Int32 × Dt) :=
  aw_chk (aw_O σ 10 13 x0) ((f_X10_group σ x0 x1 x2 x3 x4 d).bind (fun z_2 => aw_ct z_2 (fun e0 => if e0 = 1 then some ((1 : Int32), z_2.2) else if e0 = 2 then some ((2 : Int32), z_2.2) else none) (fun v_4 => aw_chk (aw_I σ 21 x5 ((0 : Int32))) (some ((0 : Int32), aw_sL z_2.2 x5 ((0 : Int32)).toNatClampNeg v_4.toInt64)))))
section W_L_group
variable {p : Program} {l : Launch} {e : Env} {s : State} {m : MethodId} {args : Array Value} {below : List Frame} {meth : Method} {c : Code}
variable {D : va_G} {cA : Nat → ClassId} {base : Nat} {ad : Nat → Nat} {σ : Sg}
end W_L_group
set_option maxHeartbeats 4000000 in
set_option maxRecDepth 100000 in
theorem c_L_group (l : Launch) (hst : l.stackTraces = false) {σ : Sg} {x0 : Nat} {x1 : Int32} {x2 : Int32} {x3 : Int32} {x4 : Int32} {x5 : Nat} {d : Dt} {z : Int32 × Dt} (hf : f_L_group σ x0 x1 x2 x3 x4 x5 d = some z) : aw_Mi l yL_group (Cond.codeWith yL_group cL_group 7 (some .int) [(0, 14, 17, 24), (0, 14, 21, 13)]) rm_L_group (fun ad => [.ref (ad x0), .int x1, .int x2, .int x3, .int x4, .ref (ad x5)]) σ d z := by
  intro D cA base ad
  refine aw_ofCW (own := RL) (cc := cL_group) (nL := 7) (ret := some .int) [(0, 14, 17, 24), (0, 14, 21, 13)] (by decide) rfl rfl ?_
  intro p e s m below meth c X hT G
  have hx := X.1; have hb := X.2.1; have hml := X.2.2.1; have hown := X.2.2.2.1
  refine aw_ls (lv := [(0, .ref (ad x0)), (1, .int x1), (2, .int x2), (3, .int x3), (4, .int x4), (5, .ref (ad x5))]) (Nat.le_of_ble_eq_true rfl) rfl (fun ls hl => ?_)
  unfold f_L_group at hf
  refine lv_aload hx hb dL_group_0 (lv_at hl 5 rfl) ?_
  refine lv_iconst (v := (0 : Int32)) hx hb dL_group_2 (by decide) ?_
  refine lv_aload_n hx hb dL_group_3 rfl (lv_at hl 0 rfl) ?_
  refine lv_iload_n hx hb dL_group_4 rfl (lv_at hl 1 rfl) ?_
  refine lv_iload_n hx hb dL_group_5 rfl (lv_at hl 2 rfl) ?_
  refine lv_iload_n hx hb dL_group_6 rfl (lv_at hl 3 rfl) ?_
  refine lv_iload hx hb dL_group_7 (lv_at hl 4 rfl) ?_
  obtain ⟨hc_1, hf⟩ := aw_chk_some hf
  obtain ⟨z_2, hz_3, hf⟩ := aw_bind_some hf
  refine aw_CVI (As := [.int x1, .int x2, .int x3, .int x4]) (rest := [.int ((0 : Int32)), .ref (ad x5)]) X G hl.1 cr_L_94 (c_X10_group l hst hz_3) rfl rfl rfl (by decide) hc_1 rfl ⟨(Nat.le_of_ble_eq_true rfl), (Nat.le_of_ble_eq_true rfl)⟩ (Nat.le_of_ble_eq_true rfl) dL_group_9 ⟨(Nat.le_of_ble_eq_true rfl), (Nat.le_of_ble_eq_true rfl)⟩ (fun e0 ce q9 H locs hz1 G hce hcv hcl => ?_) (fun v_4 H locs hz1 G => ?_)
  · have hf := aw_ct_l hz1 hf
    by_cases he : e0 = 1
    · have hf := aw_ite_t he hf
      subst he
      refine vx_catch (name := "java/lang/IndexOutOfBoundsException") hown [] (⟨0, 14, 17, 24⟩ : ExceptionTableEntry) [(⟨0, 14, 21, 13⟩ : ExceptionTableEntry)] (hT.trans rfl) (aw_hpass G.1 (fun _ h => nomatch h)) (by decide) (by decide) (G.1.hts _ m_435) (aw_cast G.1 (by decide)) hce hcv hcl ?_
      refine W.eq (g2 := F0 m 17 ls [.ref q9]) rfl ?_
      refine lv_astore (lv' := [(6, .ref q9), (0, .ref (ad x0)), (1, .int x1), (2, .int x2), (3, .int x3), (4, .int x4), (5, .ref (ad x5))]) hx hb dL_group_17 hl (by decide) rfl (fun ls hl => ?_)
      refine lv_iconst (v := (1 : Int32)) hx hb dL_group_19 (by decide) ?_
      exact aw_retj X G hf dL_group_20 (Nat.le_of_ble_eq_true rfl) (Nat.le_of_ble_eq_true rfl)
    have hf := aw_ite_f he hf
    by_cases he : e0 = 2
    · have hf := aw_ite_t he hf
      subst he
      refine vx_catch (name := "java/lang/IllegalArgumentException") hown [(⟨0, 14, 17, 24⟩ : ExceptionTableEntry)] (⟨0, 14, 21, 13⟩ : ExceptionTableEntry) [] (hT.trans rfl) (aw_hpass G.1 (List.forall_mem_cons.mpr ⟨⟨by decide, "java/lang/IndexOutOfBoundsException", by decide, m_435, by decide, by decide⟩, (fun _ h => nomatch h)⟩)) (by decide) (by decide) (G.1.hts _ m_310) (aw_cast G.1 (by decide)) hce hcv hcl ?_
      refine W.eq (g2 := F0 m 21 ls [.ref q9]) rfl ?_
      refine lv_astore (lv' := [(6, .ref q9), (0, .ref (ad x0)), (1, .int x1), (2, .int x2), (3, .int x3), (4, .int x4), (5, .ref (ad x5))]) hx hb dL_group_21 hl (by decide) rfl (fun ls hl => ?_)
      refine lv_iconst (v := (2 : Int32)) hx hb dL_group_23 (by decide) ?_
      exact aw_retj X G hf dL_group_24 (Nat.le_of_ble_eq_true rfl) (Nat.le_of_ble_eq_true rfl)
    have hf := aw_ite_f he hf
    cases hf
  have hf := aw_ct_r hz1 hf
  refine lv_i2l hx hb dL_group_12 rfl ?_
  obtain ⟨hc_5, hf⟩ := aw_chk_some hf
  refine aw_las hx hb G hc_5 dL_group_13 (fun H locs G => ?_)
  refine lv_goto (tgt := 25) hx hb dL_group_14 (by decide) ?_
  refine lv_iconst (v := (0 : Int32)) hx hb dL_group_25 (by decide) ?_
  exact aw_retj X G hf dL_group_26 (Nat.le_of_ble_eq_true rfl) (Nat.le_of_ble_eq_true rfl)
def rm_L_score : Room := { frames := 8, cells := 2, slots := 12, locals := 147 }
def f_L_score (σ : Sg) (x0 : Nat) (x1 : Int32) (x2 : Int32) (x3 : Nat) (d : Dt) : Option (Int32 × Dt) :=
  aw_chk (aw_O σ 10 13 x0) ((f_X10_score σ x0 x1 x2 d).bind (fun z_2 => aw_ct z_2 (fun e0 => if e0 = 1 then some ((1 : Int32), z_2.2) else none) (fun v_4 => aw_chk (aw_I σ 21 x3 ((0 : Int32))) (some ((0 : Int32), aw_sL z_2.2 x3 ((0 : Int32)).toNatClampNeg v_4.toInt64)))))
section W_L_score
variable {p : Program} {l : Launch} {e : Env} {s : State} {m : MethodId} {args : Array Value} {below : List Frame} {meth : Method} {c : Code}
variable {D : va_G} {cA : Nat → ClassId} {base : Nat} {ad : Nat → Nat} {σ : Sg}
end W_L_score
set_option maxHeartbeats 4000000 in
set_option maxRecDepth 100000 in
theorem c_L_score (l : Launch) (hst : l.stackTraces = false) {σ : Sg} {x0 : Nat} {x1 : Int32} {x2 : Int32} {x3 : Nat} {d : Dt} {z : Int32 × Dt} (hf : f_L_score σ x0 x1 x2 x3 d = some z) : aw_Mi l yL_score (Cond.codeWith yL_score cL_score 5 (some .int) [(0, 10, 13, 24)]) rm_L_score (fun ad => [.ref (ad x0), .int x1, .int x2, .ref (ad x3)]) σ d z := by
  intro D cA base ad
  refine aw_ofCW (own := RL) (cc := cL_score) (nL := 5) (ret := some .int) [(0, 10, 13, 24)] (by decide) rfl rfl ?_
  intro p e s m below meth c X hT G
  have hx := X.1; have hb := X.2.1; have hml := X.2.2.1; have hown := X.2.2.2.1
  refine aw_ls (lv := [(0, .ref (ad x0)), (1, .int x1), (2, .int x2), (3, .ref (ad x3))]) (Nat.le_of_ble_eq_true rfl) rfl (fun ls hl => ?_)
  unfold f_L_score at hf
  refine lv_aload_n hx hb dL_score_0 rfl (lv_at hl 3 rfl) ?_
  refine lv_iconst (v := (0 : Int32)) hx hb dL_score_1 (by decide) ?_
  refine lv_aload_n hx hb dL_score_2 rfl (lv_at hl 0 rfl) ?_
  refine lv_iload_n hx hb dL_score_3 rfl (lv_at hl 1 rfl) ?_
  refine lv_iload_n hx hb dL_score_4 rfl (lv_at hl 2 rfl) ?_
  obtain ⟨hc_1, hf⟩ := aw_chk_some hf
  obtain ⟨z_2, hz_3, hf⟩ := aw_bind_some hf
  refine aw_CVI (As := [.int x1, .int x2]) (rest := [.int ((0 : Int32)), .ref (ad x3)]) X G hl.1 cr_L_98 (c_X10_score l hst hz_3) rfl rfl rfl (by decide) hc_1 rfl ⟨(Nat.le_of_ble_eq_true rfl), (Nat.le_of_ble_eq_true rfl)⟩ (Nat.le_of_ble_eq_true rfl) dL_score_5 ⟨(Nat.le_of_ble_eq_true rfl), (Nat.le_of_ble_eq_true rfl)⟩ (fun e0 ce q9 H locs hz1 G hce hcv hcl => ?_) (fun v_4 H locs hz1 G => ?_)
  · have hf := aw_ct_l hz1 hf
    by_cases he : e0 = 1
    · have hf := aw_ite_t he hf
      subst he
      refine vx_catch (name := "java/lang/IndexOutOfBoundsException") hown [] (⟨0, 10, 13, 24⟩ : ExceptionTableEntry) [] (hT.trans rfl) (aw_hpass G.1 (fun _ h => nomatch h)) (by decide) (by decide) (G.1.hts _ m_435) (aw_cast G.1 (by decide)) hce hcv hcl ?_
      refine W.eq (g2 := F0 m 13 ls [.ref q9]) rfl ?_
      refine lv_astore (lv' := [(4, .ref q9), (0, .ref (ad x0)), (1, .int x1), (2, .int x2), (3, .ref (ad x3))]) hx hb dL_score_13 hl (by decide) rfl (fun ls hl => ?_)
      refine lv_iconst (v := (1 : Int32)) hx hb dL_score_15 (by decide) ?_
      exact aw_retj X G hf dL_score_16 (Nat.le_of_ble_eq_true rfl) (Nat.le_of_ble_eq_true rfl)
    have hf := aw_ite_f he hf
    cases hf
  have hf := aw_ct_r hz1 hf
  refine lv_i2l hx hb dL_score_8 rfl ?_
  obtain ⟨hc_5, hf⟩ := aw_chk_some hf
  refine aw_las hx hb G hc_5 dL_score_9 (fun H locs G => ?_)
  refine lv_goto (tgt := 17) hx hb dL_score_10 (by decide) ?_
  refine lv_iconst (v := (0 : Int32)) hx hb dL_score_17 (by decide) ?_
  exact aw_retj X G hf dL_score_18 (Nat.le_of_ble_eq_true rfl) (Nat.le_of_ble_eq_true rfl)
def rm_L_votes : Room := { frames := 8, cells := 1, slots := 6, locals := 168 }
def f_L_votes (σ : Sg) (x0 : Nat) (x1 : Int32) (x2 : Nat) (d : Dt) : Option (Int32 × Dt) :=
  aw_chk (aw_O σ 10 13 x0) ((f_X10_votes σ x0 x1 d).bind (fun z_2 => aw_ct z_2 (fun e0 => if e0 = 1 then some ((1 : Int32), z_2.2) else none) (fun v_4 => aw_chk (aw_I σ 21 x2 ((0 : Int32))) (some ((0 : Int32), aw_sL z_2.2 x2 ((0 : Int32)).toNatClampNeg v_4.toInt64)))))
section W_L_votes
variable {p : Program} {l : Launch} {e : Env} {s : State} {m : MethodId} {args : Array Value} {below : List Frame} {meth : Method} {c : Code}
variable {D : va_G} {cA : Nat → ClassId} {base : Nat} {ad : Nat → Nat} {σ : Sg}
end W_L_votes
set_option maxHeartbeats 4000000 in
set_option maxRecDepth 100000 in
theorem c_L_votes (l : Launch) (hst : l.stackTraces = false) {σ : Sg} {x0 : Nat} {x1 : Int32} {x2 : Nat} {d : Dt} {z : Int32 × Dt} (hf : f_L_votes σ x0 x1 x2 d = some z) : aw_Mi l yL_votes (Cond.codeWith yL_votes cL_votes 4 (some .int) [(0, 9, 12, 24)]) rm_L_votes (fun ad => [.ref (ad x0), .int x1, .ref (ad x2)]) σ d z := by
  intro D cA base ad
  refine aw_ofCW (own := RL) (cc := cL_votes) (nL := 4) (ret := some .int) [(0, 9, 12, 24)] (by decide) rfl rfl ?_
  intro p e s m below meth c X hT G
  have hx := X.1; have hb := X.2.1; have hml := X.2.2.1; have hown := X.2.2.2.1
  refine aw_ls (lv := [(0, .ref (ad x0)), (1, .int x1), (2, .ref (ad x2))]) (Nat.le_of_ble_eq_true rfl) rfl (fun ls hl => ?_)
  unfold f_L_votes at hf
  refine lv_aload_n hx hb dL_votes_0 rfl (lv_at hl 2 rfl) ?_
  refine lv_iconst (v := (0 : Int32)) hx hb dL_votes_1 (by decide) ?_
  refine lv_aload_n hx hb dL_votes_2 rfl (lv_at hl 0 rfl) ?_
  refine lv_iload_n hx hb dL_votes_3 rfl (lv_at hl 1 rfl) ?_
  obtain ⟨hc_1, hf⟩ := aw_chk_some hf
  obtain ⟨z_2, hz_3, hf⟩ := aw_bind_some hf
  refine aw_CVI (As := [.int x1]) (rest := [.int ((0 : Int32)), .ref (ad x2)]) X G hl.1 cr_L_101 (c_X10_votes l hst hz_3) rfl rfl rfl (by decide) hc_1 rfl ⟨(Nat.le_of_ble_eq_true rfl), (Nat.le_of_ble_eq_true rfl)⟩ (Nat.le_of_ble_eq_true rfl) dL_votes_4 ⟨(Nat.le_of_ble_eq_true rfl), (Nat.le_of_ble_eq_true rfl)⟩ (fun e0 ce q9 H locs hz1 G hce hcv hcl => ?_) (fun v_4 H locs hz1 G => ?_)
  · have hf := aw_ct_l hz1 hf
    by_cases he : e0 = 1
    · have hf := aw_ite_t he hf
      subst he
      refine vx_catch (name := "java/lang/IndexOutOfBoundsException") hown [] (⟨0, 9, 12, 24⟩ : ExceptionTableEntry) [] (hT.trans rfl) (aw_hpass G.1 (fun _ h => nomatch h)) (by decide) (by decide) (G.1.hts _ m_435) (aw_cast G.1 (by decide)) hce hcv hcl ?_
      refine W.eq (g2 := F0 m 12 ls [.ref q9]) rfl ?_
      refine lv_astore_n (lv' := [(3, .ref q9), (0, .ref (ad x0)), (1, .int x1), (2, .ref (ad x2))]) hx hb dL_votes_12 rfl hl (by decide) rfl (fun ls hl => ?_)
      refine lv_iconst (v := (1 : Int32)) hx hb dL_votes_13 (by decide) ?_
      exact aw_retj X G hf dL_votes_14 (Nat.le_of_ble_eq_true rfl) (Nat.le_of_ble_eq_true rfl)
    have hf := aw_ite_f he hf
    cases hf
  have hf := aw_ct_r hz1 hf
  refine lv_i2l hx hb dL_votes_7 rfl ?_
  obtain ⟨hc_5, hf⟩ := aw_chk_some hf
  refine aw_las hx hb G hc_5 dL_votes_8 (fun H locs G => ?_)
  refine lv_goto (tgt := 15) hx hb dL_votes_9 (by decide) ?_
  refine lv_iconst (v := (0 : Int32)) hx hb dL_votes_15 (by decide) ?_
  exact aw_retj X G hf dL_votes_16 (Nat.le_of_ble_eq_true rfl) (Nat.le_of_ble_eq_true rfl)
def rm_L_elected : Room := { frames := 7, cells := 1, slots := 6, locals := 167 }
def f_L_elected (σ : Sg) (x0 : Nat) (x1 : Nat) (d : Dt) : Option (Int32 × Dt) :=
  aw_chk (aw_O σ 10 13 x0) ((f_X10_elected σ x0 d).bind (fun z_2 => aw_ct z_2 (fun e0 => if e0 = 3 then some ((1 : Int32), z_2.2) else none) (fun v_4 => aw_chk (aw_I σ 21 x1 ((0 : Int32))) (some ((0 : Int32), aw_sL z_2.2 x1 ((0 : Int32)).toNatClampNeg v_4.toInt64)))))
section W_L_elected
variable {p : Program} {l : Launch} {e : Env} {s : State} {m : MethodId} {args : Array Value} {below : List Frame} {meth : Method} {c : Code}
variable {D : va_G} {cA : Nat → ClassId} {base : Nat} {ad : Nat → Nat} {σ : Sg}
end W_L_elected
set_option maxHeartbeats 4000000 in
set_option maxRecDepth 100000 in
theorem c_L_elected (l : Launch) (hst : l.stackTraces = false) {σ : Sg} {x0 : Nat} {x1 : Nat} {d : Dt} {z : Int32 × Dt} (hf : f_L_elected σ x0 x1 d = some z) : aw_Mi l yL_elected (Cond.codeWith yL_elected cL_elected 3 (some .int) [(0, 8, 11, 15)]) rm_L_elected (fun ad => [.ref (ad x0), .ref (ad x1)]) σ d z := by
  intro D cA base ad
  refine aw_ofCW (own := RL) (cc := cL_elected) (nL := 3) (ret := some .int) [(0, 8, 11, 15)] (by decide) rfl rfl ?_
  intro p e s m below meth c X hT G
  have hx := X.1; have hb := X.2.1; have hml := X.2.2.1; have hown := X.2.2.2.1
  refine aw_ls (lv := [(0, .ref (ad x0)), (1, .ref (ad x1))]) (Nat.le_of_ble_eq_true rfl) rfl (fun ls hl => ?_)
  unfold f_L_elected at hf
  refine lv_aload_n hx hb dL_elected_0 rfl (lv_at hl 1 rfl) ?_
  refine lv_iconst (v := (0 : Int32)) hx hb dL_elected_1 (by decide) ?_
  refine lv_aload_n hx hb dL_elected_2 rfl (lv_at hl 0 rfl) ?_
  obtain ⟨hc_1, hf⟩ := aw_chk_some hf
  obtain ⟨z_2, hz_3, hf⟩ := aw_bind_some hf
  refine aw_CVI (As := []) (rest := [.int ((0 : Int32)), .ref (ad x1)]) X G hl.1 cr_L_104 (c_X10_elected l hst hz_3) rfl rfl rfl (by decide) hc_1 rfl ⟨(Nat.le_of_ble_eq_true rfl), (Nat.le_of_ble_eq_true rfl)⟩ (Nat.le_of_ble_eq_true rfl) dL_elected_3 ⟨(Nat.le_of_ble_eq_true rfl), (Nat.le_of_ble_eq_true rfl)⟩ (fun e0 ce q9 H locs hz1 G hce hcv hcl => ?_) (fun v_4 H locs hz1 G => ?_)
  · have hf := aw_ct_l hz1 hf
    by_cases he : e0 = 3
    · have hf := aw_ite_t he hf
      subst he
      refine vx_catch (name := "java/lang/IllegalStateException") hown [] (⟨0, 8, 11, 15⟩ : ExceptionTableEntry) [] (hT.trans rfl) (aw_hpass G.1 (fun _ h => nomatch h)) (by decide) (by decide) (G.1.hts _ m_311) (aw_cast G.1 (by decide)) hce hcv hcl ?_
      refine W.eq (g2 := F0 m 11 ls [.ref q9]) rfl ?_
      refine lv_astore_n (lv' := [(2, .ref q9), (0, .ref (ad x0)), (1, .ref (ad x1))]) hx hb dL_elected_11 rfl hl (by decide) rfl (fun ls hl => ?_)
      refine lv_iconst (v := (1 : Int32)) hx hb dL_elected_12 (by decide) ?_
      exact aw_retj X G hf dL_elected_13 (Nat.le_of_ble_eq_true rfl) (Nat.le_of_ble_eq_true rfl)
    have hf := aw_ite_f he hf
    cases hf
  have hf := aw_ct_r hz1 hf
  refine lv_i2l hx hb dL_elected_6 rfl ?_
  obtain ⟨hc_5, hf⟩ := aw_chk_some hf
  refine aw_las hx hb G hc_5 dL_elected_7 (fun H locs G => ?_)
  refine lv_goto (tgt := 14) hx hb dL_elected_8 (by decide) ?_
  refine lv_iconst (v := (0 : Int32)) hx hb dL_elected_14 (by decide) ?_
  exact aw_retj X G hf dL_elected_15 (Nat.le_of_ble_eq_true rfl) (Nat.le_of_ble_eq_true rfl)
def rm_L_reform : Room := { frames := 8, cells := 2, slots := 12, locals := 142 }
def f_L_reform (σ : Sg) (x0 : Nat) (x1 : Int32) (x2 : Int32) (x3 : Nat) (d : Dt) : Option (Int32 × Dt) :=
  aw_chk (aw_O σ 10 13 x0) ((f_X10_reform σ x0 x1 x2 d).bind (fun z_2 => aw_ct z_2 (fun e0 => if e0 = 1 then some ((1 : Int32), z_2.2) else none) (fun v_4 => aw_chk (aw_I σ 21 x3 ((0 : Int32))) (some ((0 : Int32), aw_sL z_2.2 x3 ((0 : Int32)).toNatClampNeg v_4.toInt64)))))
section W_L_reform
variable {p : Program} {l : Launch} {e : Env} {s : State} {m : MethodId} {args : Array Value} {below : List Frame} {meth : Method} {c : Code}
variable {D : va_G} {cA : Nat → ClassId} {base : Nat} {ad : Nat → Nat} {σ : Sg}
end W_L_reform
set_option maxHeartbeats 4000000 in
set_option maxRecDepth 100000 in
theorem c_L_reform (l : Launch) (hst : l.stackTraces = false) {σ : Sg} {x0 : Nat} {x1 : Int32} {x2 : Int32} {x3 : Nat} {d : Dt} {z : Int32 × Dt} (hf : f_L_reform σ x0 x1 x2 x3 d = some z) : aw_Mi l yL_reform (Cond.codeWith yL_reform cL_reform 5 (some .int) [(0, 10, 13, 24)]) rm_L_reform (fun ad => [.ref (ad x0), .int x1, .int x2, .ref (ad x3)]) σ d z := by
  intro D cA base ad
  refine aw_ofCW (own := RL) (cc := cL_reform) (nL := 5) (ret := some .int) [(0, 10, 13, 24)] (by decide) rfl rfl ?_
  intro p e s m below meth c X hT G
  have hx := X.1; have hb := X.2.1; have hml := X.2.2.1; have hown := X.2.2.2.1
  refine aw_ls (lv := [(0, .ref (ad x0)), (1, .int x1), (2, .int x2), (3, .ref (ad x3))]) (Nat.le_of_ble_eq_true rfl) rfl (fun ls hl => ?_)
  unfold f_L_reform at hf
  refine lv_aload_n hx hb dL_reform_0 rfl (lv_at hl 3 rfl) ?_
  refine lv_iconst (v := (0 : Int32)) hx hb dL_reform_1 (by decide) ?_
  refine lv_aload_n hx hb dL_reform_2 rfl (lv_at hl 0 rfl) ?_
  refine lv_iload_n hx hb dL_reform_3 rfl (lv_at hl 1 rfl) ?_
  refine lv_iload_n hx hb dL_reform_4 rfl (lv_at hl 2 rfl) ?_
  obtain ⟨hc_1, hf⟩ := aw_chk_some hf
  obtain ⟨z_2, hz_3, hf⟩ := aw_bind_some hf
  refine aw_CVI (As := [.int x1, .int x2]) (rest := [.int ((0 : Int32)), .ref (ad x3)]) X G hl.1 cr_L_108 (c_X10_reform l hst hz_3) rfl rfl rfl (by decide) hc_1 rfl ⟨(Nat.le_of_ble_eq_true rfl), (Nat.le_of_ble_eq_true rfl)⟩ (Nat.le_of_ble_eq_true rfl) dL_reform_5 ⟨(Nat.le_of_ble_eq_true rfl), (Nat.le_of_ble_eq_true rfl)⟩ (fun e0 ce q9 H locs hz1 G hce hcv hcl => ?_) (fun v_4 H locs hz1 G => ?_)
  · have hf := aw_ct_l hz1 hf
    by_cases he : e0 = 1
    · have hf := aw_ite_t he hf
      subst he
      refine vx_catch (name := "java/lang/IndexOutOfBoundsException") hown [] (⟨0, 10, 13, 24⟩ : ExceptionTableEntry) [] (hT.trans rfl) (aw_hpass G.1 (fun _ h => nomatch h)) (by decide) (by decide) (G.1.hts _ m_435) (aw_cast G.1 (by decide)) hce hcv hcl ?_
      refine W.eq (g2 := F0 m 13 ls [.ref q9]) rfl ?_
      refine lv_astore (lv' := [(4, .ref q9), (0, .ref (ad x0)), (1, .int x1), (2, .int x2), (3, .ref (ad x3))]) hx hb dL_reform_13 hl (by decide) rfl (fun ls hl => ?_)
      refine lv_iconst (v := (1 : Int32)) hx hb dL_reform_15 (by decide) ?_
      exact aw_retj X G hf dL_reform_16 (Nat.le_of_ble_eq_true rfl) (Nat.le_of_ble_eq_true rfl)
    have hf := aw_ite_f he hf
    cases hf
  have hf := aw_ct_r hz1 hf
  refine lv_i2l hx hb dL_reform_8 rfl ?_
  obtain ⟨hc_5, hf⟩ := aw_chk_some hf
  refine aw_las hx hb G hc_5 dL_reform_9 (fun H locs G => ?_)
  refine lv_goto (tgt := 17) hx hb dL_reform_10 (by decide) ?_
  refine lv_iconst (v := (0 : Int32)) hx hb dL_reform_17 (by decide) ?_
  exact aw_retj X G hf dL_reform_18 (Nat.le_of_ble_eq_true rfl) (Nat.le_of_ble_eq_true rfl)
def rm_L_lost : Room := { frames := 8, cells := 2, slots := 12, locals := 141 }
def f_L_lost (σ : Sg) (x0 : Nat) (x1 : Int32) (x2 : Int32) (x3 : Nat) (d : Dt) : Option (Int32 × Dt) :=
  aw_chk (aw_O σ 10 13 x0) ((f_X10_lost σ x0 x1 x2 d).bind (fun z_2 => aw_ct z_2 (fun e0 => if e0 = 1 then some ((1 : Int32), z_2.2) else none) (fun v_4 => aw_chk (aw_I σ 21 x3 ((0 : Int32))) (some ((0 : Int32), aw_sL z_2.2 x3 ((0 : Int32)).toNatClampNeg v_4.toInt64)))))
section W_L_lost
variable {p : Program} {l : Launch} {e : Env} {s : State} {m : MethodId} {args : Array Value} {below : List Frame} {meth : Method} {c : Code}
variable {D : va_G} {cA : Nat → ClassId} {base : Nat} {ad : Nat → Nat} {σ : Sg}
end W_L_lost
set_option maxHeartbeats 4000000 in
set_option maxRecDepth 100000 in
theorem c_L_lost (l : Launch) (hst : l.stackTraces = false) {σ : Sg} {x0 : Nat} {x1 : Int32} {x2 : Int32} {x3 : Nat} {d : Dt} {z : Int32 × Dt} (hf : f_L_lost σ x0 x1 x2 x3 d = some z) : aw_Mi l yL_lost (Cond.codeWith yL_lost cL_lost 5 (some .int) [(0, 10, 13, 24)]) rm_L_lost (fun ad => [.ref (ad x0), .int x1, .int x2, .ref (ad x3)]) σ d z := by
  intro D cA base ad
  refine aw_ofCW (own := RL) (cc := cL_lost) (nL := 5) (ret := some .int) [(0, 10, 13, 24)] (by decide) rfl rfl ?_
  intro p e s m below meth c X hT G
  have hx := X.1; have hb := X.2.1; have hml := X.2.2.1; have hown := X.2.2.2.1
  refine aw_ls (lv := [(0, .ref (ad x0)), (1, .int x1), (2, .int x2), (3, .ref (ad x3))]) (Nat.le_of_ble_eq_true rfl) rfl (fun ls hl => ?_)
  unfold f_L_lost at hf
  refine lv_aload_n hx hb dL_lost_0 rfl (lv_at hl 3 rfl) ?_
  refine lv_iconst (v := (0 : Int32)) hx hb dL_lost_1 (by decide) ?_
  refine lv_aload_n hx hb dL_lost_2 rfl (lv_at hl 0 rfl) ?_
  refine lv_iload_n hx hb dL_lost_3 rfl (lv_at hl 1 rfl) ?_
  refine lv_iload_n hx hb dL_lost_4 rfl (lv_at hl 2 rfl) ?_
  obtain ⟨hc_1, hf⟩ := aw_chk_some hf
  obtain ⟨z_2, hz_3, hf⟩ := aw_bind_some hf
  refine aw_CVI (As := [.int x1, .int x2]) (rest := [.int ((0 : Int32)), .ref (ad x3)]) X G hl.1 cr_L_111 (c_X10_lost l hst hz_3) rfl rfl rfl (by decide) hc_1 rfl ⟨(Nat.le_of_ble_eq_true rfl), (Nat.le_of_ble_eq_true rfl)⟩ (Nat.le_of_ble_eq_true rfl) dL_lost_5 ⟨(Nat.le_of_ble_eq_true rfl), (Nat.le_of_ble_eq_true rfl)⟩ (fun e0 ce q9 H locs hz1 G hce hcv hcl => ?_) (fun v_4 H locs hz1 G => ?_)
  · have hf := aw_ct_l hz1 hf
    by_cases he : e0 = 1
    · have hf := aw_ite_t he hf
      subst he
      refine vx_catch (name := "java/lang/IndexOutOfBoundsException") hown [] (⟨0, 10, 13, 24⟩ : ExceptionTableEntry) [] (hT.trans rfl) (aw_hpass G.1 (fun _ h => nomatch h)) (by decide) (by decide) (G.1.hts _ m_435) (aw_cast G.1 (by decide)) hce hcv hcl ?_
      refine W.eq (g2 := F0 m 13 ls [.ref q9]) rfl ?_
      refine lv_astore (lv' := [(4, .ref q9), (0, .ref (ad x0)), (1, .int x1), (2, .int x2), (3, .ref (ad x3))]) hx hb dL_lost_13 hl (by decide) rfl (fun ls hl => ?_)
      refine lv_iconst (v := (1 : Int32)) hx hb dL_lost_15 (by decide) ?_
      exact aw_retj X G hf dL_lost_16 (Nat.le_of_ble_eq_true rfl) (Nat.le_of_ble_eq_true rfl)
    have hf := aw_ite_f he hf
    cases hf
  have hf := aw_ct_r hz1 hf
  refine lv_i2l hx hb dL_lost_8 rfl ?_
  obtain ⟨hc_5, hf⟩ := aw_chk_some hf
  refine aw_las hx hb G hc_5 dL_lost_9 (fun H locs G => ?_)
  refine lv_goto (tgt := 17) hx hb dL_lost_10 (by decide) ?_
  refine lv_iconst (v := (0 : Int32)) hx hb dL_lost_17 (by decide) ?_
  exact aw_retj X G hf dL_lost_18 (Nat.le_of_ble_eq_true rfl) (Nat.le_of_ble_eq_true rfl)
