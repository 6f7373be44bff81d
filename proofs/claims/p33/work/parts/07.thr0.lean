/-! X10_requireSign X10_apart X10_requireDesign X10_assign X10_requireDialect X10_change X10_cost X10_doubts X10_elected X10_errors X10_fit X10_requireGroup X10_group X10_key X10_leastCost X10_load X10_requireTone X10_loadIf X10_lost X10_mark X10_requirePlace X10_primer X10_requireWord X10_readings X10_readingsAnew -/
def rm_X10_requireSign : Room := { frames := 6, cells := 1, slots := 6, locals := 90 }
def f_X10_requireSign_J10 (σ : Sg)  (d : Dt) : Option ((Nat ⊕ Unit) × Dt) :=
  some (Sum.inl 1, d)
def f_X10_requireSign (σ : Sg) (x0 : Nat) (x1 : Int32) (d : Dt) : Option ((Nat ⊕ Unit) × Dt) :=
  if x1 < 0 then f_X10_requireSign_J10 σ d else if x1 < ((50 : Int32)) then some (Sum.inr (), d) else f_X10_requireSign_J10 σ d
section W_X10_requireSign
variable {p : Program} {l : Launch} {e : Env} {s : State} {m : MethodId} {args : Array Value} {below : List Frame} {meth : Method} {c : Code}
variable {D : va_G} {cA : Nat → ClassId} {base : Nat} {ad : Nat → Nat} {σ : Sg}
set_option maxHeartbeats 4000000 in
set_option maxRecDepth 100000 in
theorem w_X10_requireSign_J10 {z : (Nat ⊕ Unit) × Dt} (X : aw_X p c cX10_requireSign 2 s RX10 m meth (none)) (XT : aw_XT l c)  {d : Dt} (hf : f_X10_requireSign_J10 σ d = some z)  {H : Heap} {locs : List Loc} {ls : Array Slot} (hl : lv_has ls 2 []) (G : aw_G D cA base ad σ d s H locs) : W p l e rm_X10_requireSign s m args below meth c H locs 0 0 (aw_Exv D cA base ad σ below args s 1 6 z) (F0 m 10 ls []) := by
  have hx := X.1; have hb := X.2.1; have hml := X.2.2.1; have hown := X.2.2.2.1
  unfold f_X10_requireSign_J10 at hf
  exact aw_throwW X XT G hl.1 1 hf tw_X10_132_136 "no such sign" (by decide +kernel) dX10_requireSign_10 dX10_requireSign_13 dX10_requireSign_14 dX10_requireSign_17 dX10_requireSign_20 ⟨Nat.le_of_ble_eq_true rfl, Nat.le_of_ble_eq_true rfl, Nat.le_of_ble_eq_true rfl, Nat.le_of_ble_eq_true rfl⟩ (Nat.le_of_ble_eq_true rfl) (Nat.le_of_ble_eq_true rfl)
end W_X10_requireSign
set_option maxHeartbeats 4000000 in
set_option maxRecDepth 100000 in
theorem c_X10_requireSign (l : Launch) (hst : l.stackTraces = false) {σ : Sg} {x0 : Nat} {x1 : Int32} {d : Dt} {z : (Nat ⊕ Unit) × Dt} (hf : f_X10_requireSign σ x0 x1 d = some z) : aw_Xv l yX10_requireSign (Cond.code yX10_requireSign cX10_requireSign 2 (none)) rm_X10_requireSign (fun ad => [.ref (ad x0), .int x1]) σ d z := by
  intro D cA base ad
  refine aw_ofX (own := RX10) (cc := cX10_requireSign) (nL := 2) (ret := none) hst (by decide) rfl rfl ?_
  intro p e s m below meth c X XT G
  have hx := X.1; have hb := X.2.1; have hml := X.2.2.1; have hown := X.2.2.2.1
  refine aw_ls (lv := [(0, .ref (ad x0)), (1, .int x1)]) (Nat.le_of_ble_eq_true rfl) rfl (fun ls hl => ?_)
  unfold f_X10_requireSign at hf
  refine lv_iload_n hx hb dX10_requireSign_0 rfl (lv_at hl 1 rfl) ?_
  refine lv_if_lt (tgt := 10) hx hb dX10_requireSign_1 (by decide) (fun hc => ?_) (fun hc => ?_)
  · have hf := aw_ite_t hc hf
    exact w_X10_requireSign_J10 X XT hf  (lv_sub hl [] rfl) G
  · have hf := aw_ite_f hc hf
    refine lv_iload_n hx hb dX10_requireSign_4 rfl (lv_at hl 1 rfl) ?_
    refine lv_bipush (v := (50 : Int32)) hx hb dX10_requireSign_5 (by decide) ?_
    refine lv_icmp_lt (tgt := 21) hx hb dX10_requireSign_7 (by decide) (fun hc => ?_) (fun hc => ?_)
    · have hf := aw_ite_t hc hf
      exact aw_xretv X G hf dX10_requireSign_21 (Nat.le_of_ble_eq_true rfl) (Nat.le_of_ble_eq_true rfl)
    · have hf := aw_ite_f hc hf
      exact w_X10_requireSign_J10 X XT hf  (lv_sub hl [] rfl) G
def rm_X10_apart : Room := { frames := 7, cells := 2, slots := 12, locals := 111 }
def f_X10_apart (σ : Sg) (x0 : Nat) (x1 : Int32) (x2 : Int32) (d : Dt) : Option ((Nat ⊕ Int32) × Dt) :=
  aw_chk (aw_O σ 10 13 x0) ((f_X10_requireSign σ x0 x1 d).bind (fun z_1 => aw_th z_1 (fun _ => (f_X10_requireSign σ x0 x2 z_1.2).bind (fun z_4 => aw_th z_4 (fun _ => (σ.2.2 x0 5).bind (fun q_6 => aw_chk (aw_O σ 6 4 q_6) ((f_X6_between σ q_6 x1 x2 z_4.2).bind (fun z_8 => some (Sum.inr z_8.1, z_8.2)))))))))
section W_X10_apart
variable {p : Program} {l : Launch} {e : Env} {s : State} {m : MethodId} {args : Array Value} {below : List Frame} {meth : Method} {c : Code}
variable {D : va_G} {cA : Nat → ClassId} {base : Nat} {ad : Nat → Nat} {σ : Sg}
end W_X10_apart
set_option maxHeartbeats 4000000 in
set_option maxRecDepth 100000 in
theorem c_X10_apart (l : Launch) (hst : l.stackTraces = false) {σ : Sg} {x0 : Nat} {x1 : Int32} {x2 : Int32} {d : Dt} {z : (Nat ⊕ Int32) × Dt} (hf : f_X10_apart σ x0 x1 x2 d = some z) : aw_Xi l yX10_apart (Cond.code yX10_apart cX10_apart 3 (some .int)) rm_X10_apart (fun ad => [.ref (ad x0), .int x1, .int x2]) σ d z := by
  intro D cA base ad
  refine aw_ofX (own := RX10) (cc := cX10_apart) (nL := 3) (ret := some .int) hst (by decide) rfl rfl ?_
  intro p e s m below meth c X XT G
  have hx := X.1; have hb := X.2.1; have hml := X.2.2.1; have hown := X.2.2.2.1
  refine aw_ls (lv := [(0, .ref (ad x0)), (1, .int x1), (2, .int x2)]) (Nat.le_of_ble_eq_true rfl) rfl (fun ls hl => ?_)
  unfold f_X10_apart at hf
  refine lv_aload_n hx hb dX10_apart_0 rfl (lv_at hl 0 rfl) ?_
  refine lv_iload_n hx hb dX10_apart_1 rfl (lv_at hl 1 rfl) ?_
  obtain ⟨hc_3, hf⟩ := aw_chk_some hf
  obtain ⟨z_1, hz_2, hf⟩ := aw_bind_some hf
  refine aw_XVV (As := [.int x1]) (rest := []) X XT G hl.1 cr_X10_230 (c_X10_requireSign l XT.1 hz_2) rfl rfl rfl (by decide) hc_3 rfl ⟨Nat.le_of_ble_eq_true rfl, Nat.le_of_ble_eq_true rfl⟩ (Nat.le_of_ble_eq_true rfl) dX10_apart_2 ⟨Nat.le_of_ble_eq_true rfl, Nat.le_of_ble_eq_true rfl⟩ hf (Nat.le_of_ble_eq_true rfl) (Nat.le_of_ble_eq_true rfl) (fun H locs G hf => ?_)
  refine lv_aload_n hx hb dX10_apart_5 rfl (lv_at hl 0 rfl) ?_
  refine lv_iload_n hx hb dX10_apart_6 rfl (lv_at hl 2 rfl) ?_
  obtain ⟨z_4, hz_5, hf⟩ := aw_bind_some hf
  refine aw_XVV (As := [.int x2]) (rest := []) X XT G hl.1 cr_X10_230 (c_X10_requireSign l XT.1 hz_5) rfl rfl rfl (by decide) hc_3 rfl ⟨Nat.le_of_ble_eq_true rfl, Nat.le_of_ble_eq_true rfl⟩ (Nat.le_of_ble_eq_true rfl) dX10_apart_7 ⟨Nat.le_of_ble_eq_true rfl, Nat.le_of_ble_eq_true rfl⟩ hf (Nat.le_of_ble_eq_true rfl) (Nat.le_of_ble_eq_true rfl) (fun H locs G hf => ?_)
  refine lv_aload_n hx hb dX10_apart_10 rfl (lv_at hl 0 rfl) ?_
  obtain ⟨q_6, hq_7, hf⟩ := aw_bind_some hf
  refine gf_X10_40 hx hb G hown hc_3 hq_7 dX10_apart_11 ?_
  refine lv_iload_n hx hb dX10_apart_14 rfl (lv_at hl 1 rfl) ?_
  refine lv_iload_n hx hb dX10_apart_15 rfl (lv_at hl 2 rfl) ?_
  obtain ⟨hc_10, hf⟩ := aw_chk_some hf
  obtain ⟨z_8, hz_9, hf⟩ := aw_bind_some hf
  refine aw_VI (As := [.int x1, .int x2]) (rest := []) X G hl.1 cr_X10_244 (c_X6_between l hz_9) ⟨rfl, rfl⟩ rfl rfl rfl (by decide) hc_10 rfl ⟨Nat.le_of_ble_eq_true rfl, Nat.le_of_ble_eq_true rfl⟩ (Nat.le_of_ble_eq_true rfl) dX10_apart_16 ⟨Nat.le_of_ble_eq_true rfl, Nat.le_of_ble_eq_true rfl⟩ (fun H locs G => ?_)
  exact aw_xreti X G hf dX10_apart_19 (Nat.le_of_ble_eq_true rfl) (Nat.le_of_ble_eq_true rfl)
def rm_X10_requireDesign : Room := { frames := 6, cells := 1, slots := 6, locals := 90 }
def f_X10_requireDesign_J12 (σ : Sg)  (d : Dt) : Option ((Nat ⊕ Unit) × Dt) :=
  some (Sum.inl 1, d)
def f_X10_requireDesign (σ : Sg) (x0 : Nat) (x1 : Int32) (d : Dt) : Option ((Nat ⊕ Unit) × Dt) :=
  if x1 < 0 then f_X10_requireDesign_J12 σ d else aw_chk (aw_O σ 10 13 x0) (if x1 < (d.1 x0 4) then some (Sum.inr (), d) else f_X10_requireDesign_J12 σ d)
section W_X10_requireDesign
variable {p : Program} {l : Launch} {e : Env} {s : State} {m : MethodId} {args : Array Value} {below : List Frame} {meth : Method} {c : Code}
variable {D : va_G} {cA : Nat → ClassId} {base : Nat} {ad : Nat → Nat} {σ : Sg}
set_option maxHeartbeats 4000000 in
set_option maxRecDepth 100000 in
theorem w_X10_requireDesign_J12 {z : (Nat ⊕ Unit) × Dt} (X : aw_X p c cX10_requireDesign 2 s RX10 m meth (none)) (XT : aw_XT l c)  {d : Dt} (hf : f_X10_requireDesign_J12 σ d = some z)  {H : Heap} {locs : List Loc} {ls : Array Slot} (hl : lv_has ls 2 []) (G : aw_G D cA base ad σ d s H locs) : W p l e rm_X10_requireDesign s m args below meth c H locs 0 0 (aw_Exv D cA base ad σ below args s 1 6 z) (F0 m 12 ls []) := by
  have hx := X.1; have hb := X.2.1; have hml := X.2.2.1; have hown := X.2.2.2.1
  unfold f_X10_requireDesign_J12 at hf
  exact aw_throwW X XT G hl.1 1 hf tw_X10_132_136 "no such design" (by decide +kernel) dX10_requireDesign_12 dX10_requireDesign_15 dX10_requireDesign_16 dX10_requireDesign_19 dX10_requireDesign_22 ⟨Nat.le_of_ble_eq_true rfl, Nat.le_of_ble_eq_true rfl, Nat.le_of_ble_eq_true rfl, Nat.le_of_ble_eq_true rfl⟩ (Nat.le_of_ble_eq_true rfl) (Nat.le_of_ble_eq_true rfl)
end W_X10_requireDesign
set_option maxHeartbeats 4000000 in
set_option maxRecDepth 100000 in
theorem c_X10_requireDesign (l : Launch) (hst : l.stackTraces = false) {σ : Sg} {x0 : Nat} {x1 : Int32} {d : Dt} {z : (Nat ⊕ Unit) × Dt} (hf : f_X10_requireDesign σ x0 x1 d = some z) : aw_Xv l yX10_requireDesign (Cond.code yX10_requireDesign cX10_requireDesign 2 (none)) rm_X10_requireDesign (fun ad => [.ref (ad x0), .int x1]) σ d z := by
  intro D cA base ad
  refine aw_ofX (own := RX10) (cc := cX10_requireDesign) (nL := 2) (ret := none) hst (by decide) rfl rfl ?_
  intro p e s m below meth c X XT G
  have hx := X.1; have hb := X.2.1; have hml := X.2.2.1; have hown := X.2.2.2.1
  refine aw_ls (lv := [(0, .ref (ad x0)), (1, .int x1)]) (Nat.le_of_ble_eq_true rfl) rfl (fun ls hl => ?_)
  unfold f_X10_requireDesign at hf
  refine lv_iload_n hx hb dX10_requireDesign_0 rfl (lv_at hl 1 rfl) ?_
  refine lv_if_lt (tgt := 12) hx hb dX10_requireDesign_1 (by decide) (fun hc => ?_) (fun hc => ?_)
  · have hf := aw_ite_t hc hf
    exact w_X10_requireDesign_J12 X XT hf  (lv_sub hl [] rfl) G
  · have hf := aw_ite_f hc hf
    refine lv_iload_n hx hb dX10_requireDesign_4 rfl (lv_at hl 1 rfl) ?_
    refine lv_aload_n hx hb dX10_requireDesign_5 rfl (lv_at hl 0 rfl) ?_
    obtain ⟨hc_1, hf⟩ := aw_chk_some hf
    refine gf_X10_33 hx hb G hown hc_1 dX10_requireDesign_6 ?_
    refine lv_icmp_lt (tgt := 23) hx hb dX10_requireDesign_9 (by decide) (fun hc => ?_) (fun hc => ?_)
    · have hf := aw_ite_t hc hf
      exact aw_xretv X G hf dX10_requireDesign_23 (Nat.le_of_ble_eq_true rfl) (Nat.le_of_ble_eq_true rfl)
    · have hf := aw_ite_f hc hf
      exact w_X10_requireDesign_J12 X XT hf  (lv_sub hl [] rfl) G
def rm_X10_assign : Room := { frames := 7, cells := 2, slots := 12, locals := 111 }
def f_X10_assign_J38 (σ : Sg)  (d : Dt) : Option ((Nat ⊕ Int32) × Dt) :=
  some (Sum.inl 2, d)
def f_X10_assign_J77 (σ : Sg) (x0 : Nat) (x1 : Int32) (x2 : Int32) (x3 : Int32) (d : Dt) : Option ((Nat ⊕ Int32) × Dt) :=
  aw_chk (aw_O σ 10 13 x0) ((σ.2.2 x0 3).bind (fun q_13 => aw_chk (aw_I σ 26 q_13 x1) ((σ.2.2 q_13 x1.toNatClampNeg).bind (fun q_16 => aw_chk (aw_O σ 1 5 q_16) ((σ.2.2 q_16 2).bind (fun q_19 => aw_chk (aw_I σ 20 q_19 x2) (some (Sum.inr (d.1 q_19 x2.toNatClampNeg), aw_sI d q_19 x2.toNatClampNeg x3))))))))
def f_X10_assign (σ : Sg) (x0 : Nat) (x1 : Int32) (x2 : Int32) (x3 : Int32) (x4 : Int32) (d : Dt) : Option ((Nat ⊕ Int32) × Dt) :=
  aw_chk (aw_O σ 10 13 x0) ((f_X10_requireDesign σ x0 x1 d).bind (fun z_1 => aw_th z_1 (fun _ => (σ.2.2 x0 3).bind (fun q_4 => aw_chk (aw_I σ 26 q_4 x1) ((σ.2.2 q_4 x1.toNatClampNeg).bind (fun q_7 => aw_chk (aw_O σ 1 5 q_7) ((f_X1_hasUnit σ q_7 x2 z_1.2).bind (fun z_9 => if z_9.1 = 0 then some (Sum.inl 1, z_9.2) else if x3 < 0 then f_X10_assign_J38 σ z_9.2 else if x3 < ((50 : Int32)) then if x4 = 0 then (f_X1_othersHave σ q_7 x2 x3 z_9.2).bind (fun z_22 => if z_22.1 = 0 then f_X10_assign_J77 σ x0 x1 x2 x3 z_22.2 else some (Sum.inl 3, z_22.2)) else f_X10_assign_J77 σ x0 x1 x2 x3 z_9.2 else f_X10_assign_J38 σ z_9.2))))))))
section W_X10_assign
variable {p : Program} {l : Launch} {e : Env} {s : State} {m : MethodId} {args : Array Value} {below : List Frame} {meth : Method} {c : Code}
variable {D : va_G} {cA : Nat → ClassId} {base : Nat} {ad : Nat → Nat} {σ : Sg}
set_option maxHeartbeats 4000000 in
set_option maxRecDepth 100000 in
theorem w_X10_assign_J38 {z : (Nat ⊕ Int32) × Dt} (X : aw_X p c cX10_assign 6 s RX10 m meth (some .int)) (XT : aw_XT l c)  {d : Dt} (hf : f_X10_assign_J38 σ d = some z)  {H : Heap} {locs : List Loc} {ls : Array Slot} (hl : lv_has ls 6 []) (G : aw_G D cA base ad σ d s H locs) : W p l e rm_X10_assign s m args below meth c H locs 1 6 (aw_Exi D cA base ad σ below args s 2 12 z) (F0 m 38 ls []) := by
  have hx := X.1; have hb := X.2.1; have hml := X.2.2.1; have hown := X.2.2.2.1
  unfold f_X10_assign_J38 at hf
  exact aw_throw X XT G hl.1 2 hf tw_X10_89_93 "sign is out of range" (by decide +kernel) dX10_assign_38 dX10_assign_41 dX10_assign_42 dX10_assign_44 dX10_assign_47 ⟨Nat.le_of_ble_eq_true rfl, Nat.le_of_ble_eq_true rfl, Nat.le_of_ble_eq_true rfl, Nat.le_of_ble_eq_true rfl⟩ (Nat.le_of_ble_eq_true rfl) (Nat.le_of_ble_eq_true rfl)
set_option maxHeartbeats 4000000 in
set_option maxRecDepth 100000 in
theorem w_X10_assign_J77 {z : (Nat ⊕ Int32) × Dt} (X : aw_X p c cX10_assign 6 s RX10 m meth (some .int)) (XT : aw_XT l c) {x0 : Nat} {x1 : Int32} {x2 : Int32} {x3 : Int32} {d : Dt} (hf : f_X10_assign_J77 σ x0 x1 x2 x3 d = some z)  {H : Heap} {locs : List Loc} {ls : Array Slot} (hl : lv_has ls 6 [(0, .ref (ad x0)), (1, .int x1), (2, .int x2), (3, .int x3)]) (G : aw_G D cA base ad σ d s H locs) : W p l e rm_X10_assign s m args below meth c H locs 1 6 (aw_Exi D cA base ad σ below args s 2 12 z) (F0 m 77 ls []) := by
  have hx := X.1; have hb := X.2.1; have hml := X.2.2.1; have hown := X.2.2.2.1
  unfold f_X10_assign_J77 at hf
  refine lv_aload_n hx hb dX10_assign_77 rfl (lv_at hl 0 rfl) ?_
  obtain ⟨hc_12, hf⟩ := aw_chk_some hf
  obtain ⟨q_13, hq_14, hf⟩ := aw_bind_some hf
  refine gf_X10_29 hx hb G hown hc_12 hq_14 dX10_assign_78 ?_
  refine lv_iload_n hx hb dX10_assign_81 rfl (lv_at hl 1 rfl) ?_
  obtain ⟨hc_15, hf⟩ := aw_chk_some hf
  obtain ⟨q_16, hq_17, hf⟩ := aw_bind_some hf
  refine aw_qal hx hb G 26 _ rfl rfl (by decide) hc_15 hq_17 dX10_assign_82 ?_
  obtain ⟨hc_18, hf⟩ := aw_chk_some hf
  obtain ⟨q_19, hq_20, hf⟩ := aw_bind_some hf
  refine gf_X10_193 hx hb G hown hc_18 hq_20 dX10_assign_83 ?_
  refine lv_iload_n hx hb dX10_assign_86 rfl (lv_at hl 2 rfl) ?_
  obtain ⟨hc_21, hf⟩ := aw_chk_some hf
  refine aw_ial hx hb G hc_21 dX10_assign_87 ?_
  refine lv_istore (lv' := [(5, .int (d.1 q_19 x2.toNatClampNeg)), (0, .ref (ad x0)), (1, .int x1), (2, .int x2), (3, .int x3)]) hx hb dX10_assign_88 hl (by decide) rfl (fun ls hl => ?_)
  refine lv_aload_n hx hb dX10_assign_90 rfl (lv_at hl 1 rfl) ?_
  refine gf_X10_29 hx hb G hown hc_12 hq_14 dX10_assign_91 ?_
  refine lv_iload_n hx hb dX10_assign_94 rfl (lv_at hl 2 rfl) ?_
  refine aw_qal hx hb G 26 _ rfl rfl (by decide) hc_15 hq_17 dX10_assign_95 ?_
  refine gf_X10_193 hx hb G hown hc_18 hq_20 dX10_assign_96 ?_
  refine lv_iload_n hx hb dX10_assign_99 rfl (lv_at hl 3 rfl) ?_
  refine lv_iload_n hx hb dX10_assign_100 rfl (lv_at hl 4 rfl) ?_
  refine aw_ias hx hb G hc_21 dX10_assign_101 (fun H locs G => ?_)
  refine lv_iload hx hb dX10_assign_102 (lv_at hl 0 rfl) ?_
  exact aw_xreti X G hf dX10_assign_104 (Nat.le_of_ble_eq_true rfl) (Nat.le_of_ble_eq_true rfl)
end W_X10_assign
set_option maxHeartbeats 4000000 in
set_option maxRecDepth 100000 in
theorem c_X10_assign (l : Launch) (hst : l.stackTraces = false) {σ : Sg} {x0 : Nat} {x1 : Int32} {x2 : Int32} {x3 : Int32} {x4 : Int32} {d : Dt} {z : (Nat ⊕ Int32) × Dt} (hf : f_X10_assign σ x0 x1 x2 x3 x4 d = some z) : aw_Xi l yX10_assign (Cond.code yX10_assign cX10_assign 6 (some .int)) rm_X10_assign (fun ad => [.ref (ad x0), .int x1, .int x2, .int x3, .int x4]) σ d z := by
  intro D cA base ad
  refine aw_ofX (own := RX10) (cc := cX10_assign) (nL := 6) (ret := some .int) hst (by decide) rfl rfl ?_
  intro p e s m below meth c X XT G
  have hx := X.1; have hb := X.2.1; have hml := X.2.2.1; have hown := X.2.2.2.1
  refine aw_ls (lv := [(0, .ref (ad x0)), (1, .int x1), (2, .int x2), (3, .int x3), (4, .int x4)]) (Nat.le_of_ble_eq_true rfl) rfl (fun ls hl => ?_)
  unfold f_X10_assign at hf
  refine lv_aload_n hx hb dX10_assign_0 rfl (lv_at hl 0 rfl) ?_
  refine lv_iload_n hx hb dX10_assign_1 rfl (lv_at hl 1 rfl) ?_
  obtain ⟨hc_3, hf⟩ := aw_chk_some hf
  obtain ⟨z_1, hz_2, hf⟩ := aw_bind_some hf
  refine aw_XVV (As := [.int x1]) (rest := []) X XT G hl.1 cr_X10_176 (c_X10_requireDesign l XT.1 hz_2) rfl rfl rfl (by decide) hc_3 rfl ⟨Nat.le_of_ble_eq_true rfl, Nat.le_of_ble_eq_true rfl⟩ (Nat.le_of_ble_eq_true rfl) dX10_assign_2 ⟨Nat.le_of_ble_eq_true rfl, Nat.le_of_ble_eq_true rfl⟩ hf (Nat.le_of_ble_eq_true rfl) (Nat.le_of_ble_eq_true rfl) (fun H locs G hf => ?_)
  refine lv_aload_n hx hb dX10_assign_5 rfl (lv_at hl 0 rfl) ?_
  obtain ⟨q_4, hq_5, hf⟩ := aw_bind_some hf
  refine gf_X10_29 hx hb G hown hc_3 hq_5 dX10_assign_6 ?_
  refine lv_iload_n hx hb dX10_assign_9 rfl (lv_at hl 1 rfl) ?_
  obtain ⟨hc_6, hf⟩ := aw_chk_some hf
  obtain ⟨q_7, hq_8, hf⟩ := aw_bind_some hf
  refine aw_qal hx hb G 26 _ rfl rfl (by decide) hc_6 hq_8 dX10_assign_10 ?_
  refine lv_iload_n hx hb dX10_assign_11 rfl (lv_at hl 2 rfl) ?_
  obtain ⟨hc_11, hf⟩ := aw_chk_some hf
  obtain ⟨z_9, hz_10, hf⟩ := aw_bind_some hf
  refine aw_VI (As := [.int x2]) (rest := []) X G hl.1 cr_X10_179 (c_X1_hasUnit l hz_10) ⟨rfl, rfl⟩ rfl rfl rfl (by decide) hc_11 rfl ⟨Nat.le_of_ble_eq_true rfl, Nat.le_of_ble_eq_true rfl⟩ (Nat.le_of_ble_eq_true rfl) dX10_assign_12 ⟨Nat.le_of_ble_eq_true rfl, Nat.le_of_ble_eq_true rfl⟩ (fun H locs G => ?_)
  refine lv_if_ne (tgt := 28) hx hb dX10_assign_15 (by decide) (fun hc => ?_) (fun hc => ?_)
  · have hf := aw_ite_f hc hf
    refine lv_iload_n hx hb dX10_assign_28 rfl (lv_at hl 3 rfl) ?_
    refine lv_if_lt (tgt := 38) hx hb dX10_assign_29 (by decide) (fun hc => ?_) (fun hc => ?_)
    · have hf := aw_ite_t hc hf
      refine W.widen (k := 1) (n := 6) (Nat.le_of_ble_eq_true rfl) (Nat.le_of_ble_eq_true rfl) ?_
      exact w_X10_assign_J38 X XT hf  (lv_sub hl [] rfl) G
    · have hf := aw_ite_f hc hf
      refine lv_iload_n hx hb dX10_assign_32 rfl (lv_at hl 3 rfl) ?_
      refine lv_bipush (v := (50 : Int32)) hx hb dX10_assign_33 (by decide) ?_
      refine lv_icmp_lt (tgt := 48) hx hb dX10_assign_35 (by decide) (fun hc => ?_) (fun hc => ?_)
      · have hf := aw_ite_t hc hf
        refine lv_iload hx hb dX10_assign_48 (lv_at hl 4 rfl) ?_
        refine lv_if_ne (tgt := 77) hx hb dX10_assign_50 (by decide) (fun hc => ?_) (fun hc => ?_)
        · have hf := aw_ite_f hc hf
          refine W.widen (k := 1) (n := 6) (Nat.le_of_ble_eq_true rfl) (Nat.le_of_ble_eq_true rfl) ?_
          exact w_X10_assign_J77 X XT hf  (lv_sub hl [0, 1, 2, 3] rfl) G
        · have hf := aw_ite_t hc hf
          refine lv_aload_n hx hb dX10_assign_53 rfl (lv_at hl 0 rfl) ?_
          refine gf_X10_29 hx hb G hown hc_3 hq_5 dX10_assign_54 ?_
          refine lv_iload_n hx hb dX10_assign_57 rfl (lv_at hl 1 rfl) ?_
          refine aw_qal hx hb G 26 _ rfl rfl (by decide) hc_6 hq_8 dX10_assign_58 ?_
          refine lv_iload_n hx hb dX10_assign_59 rfl (lv_at hl 2 rfl) ?_
          refine lv_iload_n hx hb dX10_assign_60 rfl (lv_at hl 3 rfl) ?_
          obtain ⟨z_22, hz_23, hf⟩ := aw_bind_some hf
          refine aw_VI (As := [.int x2, .int x3]) (rest := []) X G hl.1 cr_X10_187 (c_X1_othersHave l hz_23) ⟨rfl, rfl⟩ rfl rfl rfl (by decide) hc_11 rfl ⟨Nat.le_of_ble_eq_true rfl, Nat.le_of_ble_eq_true rfl⟩ (Nat.le_of_ble_eq_true rfl) dX10_assign_61 ⟨Nat.le_of_ble_eq_true rfl, Nat.le_of_ble_eq_true rfl⟩ (fun H locs G => ?_)
          refine lv_if_eq (tgt := 77) hx hb dX10_assign_64 (by decide) (fun hc => ?_) (fun hc => ?_)
          · have hf := aw_ite_t hc hf
            refine W.widen (k := 1) (n := 6) (Nat.le_of_ble_eq_true rfl) (Nat.le_of_ble_eq_true rfl) ?_
            exact w_X10_assign_J77 X XT hf  (lv_sub hl [0, 1, 2, 3] rfl) G
          · have hf := aw_ite_f hc hf
            exact aw_throw X XT G hl.1 3 hf tw_X10_99_103 "another unit has the sign" (by decide +kernel) dX10_assign_67 dX10_assign_70 dX10_assign_71 dX10_assign_73 dX10_assign_76 ⟨Nat.le_of_ble_eq_true rfl, Nat.le_of_ble_eq_true rfl, Nat.le_of_ble_eq_true rfl, Nat.le_of_ble_eq_true rfl⟩ (Nat.le_of_ble_eq_true rfl) (Nat.le_of_ble_eq_true rfl)
      · have hf := aw_ite_f hc hf
        refine W.widen (k := 1) (n := 6) (Nat.le_of_ble_eq_true rfl) (Nat.le_of_ble_eq_true rfl) ?_
        exact w_X10_assign_J38 X XT hf  (lv_sub hl [] rfl) G
  · have hf := aw_ite_t hc hf
    exact aw_throw X XT G hl.1 1 hf tw_X10_132_136 "no such unit" (by decide +kernel) dX10_assign_18 dX10_assign_21 dX10_assign_22 dX10_assign_24 dX10_assign_27 ⟨Nat.le_of_ble_eq_true rfl, Nat.le_of_ble_eq_true rfl, Nat.le_of_ble_eq_true rfl, Nat.le_of_ble_eq_true rfl⟩ (Nat.le_of_ble_eq_true rfl) (Nat.le_of_ble_eq_true rfl)
def rm_X10_requireDialect : Room := { frames := 6, cells := 1, slots := 6, locals := 90 }
def f_X10_requireDialect_J9 (σ : Sg)  (d : Dt) : Option ((Nat ⊕ Unit) × Dt) :=
  some (Sum.inl 1, d)
def f_X10_requireDialect (σ : Sg) (x0 : Nat) (x1 : Int32) (d : Dt) : Option ((Nat ⊕ Unit) × Dt) :=
  if x1 < 0 then f_X10_requireDialect_J9 σ d else if x1 < ((3 : Int32)) then some (Sum.inr (), d) else f_X10_requireDialect_J9 σ d
section W_X10_requireDialect
variable {p : Program} {l : Launch} {e : Env} {s : State} {m : MethodId} {args : Array Value} {below : List Frame} {meth : Method} {c : Code}
variable {D : va_G} {cA : Nat → ClassId} {base : Nat} {ad : Nat → Nat} {σ : Sg}
set_option maxHeartbeats 4000000 in
set_option maxRecDepth 100000 in
theorem w_X10_requireDialect_J9 {z : (Nat ⊕ Unit) × Dt} (X : aw_X p c cX10_requireDialect 2 s RX10 m meth (none)) (XT : aw_XT l c)  {d : Dt} (hf : f_X10_requireDialect_J9 σ d = some z)  {H : Heap} {locs : List Loc} {ls : Array Slot} (hl : lv_has ls 2 []) (G : aw_G D cA base ad σ d s H locs) : W p l e rm_X10_requireDialect s m args below meth c H locs 0 0 (aw_Exv D cA base ad σ below args s 1 6 z) (F0 m 9 ls []) := by
  have hx := X.1; have hb := X.2.1; have hml := X.2.2.1; have hown := X.2.2.2.1
  unfold f_X10_requireDialect_J9 at hf
  exact aw_throwW X XT G hl.1 1 hf tw_X10_132_136 "no such dialect" (by decide +kernel) dX10_requireDialect_9 dX10_requireDialect_12 dX10_requireDialect_13 dX10_requireDialect_16 dX10_requireDialect_19 ⟨Nat.le_of_ble_eq_true rfl, Nat.le_of_ble_eq_true rfl, Nat.le_of_ble_eq_true rfl, Nat.le_of_ble_eq_true rfl⟩ (Nat.le_of_ble_eq_true rfl) (Nat.le_of_ble_eq_true rfl)
end W_X10_requireDialect
set_option maxHeartbeats 4000000 in
set_option maxRecDepth 100000 in
theorem c_X10_requireDialect (l : Launch) (hst : l.stackTraces = false) {σ : Sg} {x0 : Nat} {x1 : Int32} {d : Dt} {z : (Nat ⊕ Unit) × Dt} (hf : f_X10_requireDialect σ x0 x1 d = some z) : aw_Xv l yX10_requireDialect (Cond.code yX10_requireDialect cX10_requireDialect 2 (none)) rm_X10_requireDialect (fun ad => [.ref (ad x0), .int x1]) σ d z := by
  intro D cA base ad
  refine aw_ofX (own := RX10) (cc := cX10_requireDialect) (nL := 2) (ret := none) hst (by decide) rfl rfl ?_
  intro p e s m below meth c X XT G
  have hx := X.1; have hb := X.2.1; have hml := X.2.2.1; have hown := X.2.2.2.1
  refine aw_ls (lv := [(0, .ref (ad x0)), (1, .int x1)]) (Nat.le_of_ble_eq_true rfl) rfl (fun ls hl => ?_)
  unfold f_X10_requireDialect at hf
  refine lv_iload_n hx hb dX10_requireDialect_0 rfl (lv_at hl 1 rfl) ?_
  refine lv_if_lt (tgt := 9) hx hb dX10_requireDialect_1 (by decide) (fun hc => ?_) (fun hc => ?_)
  · have hf := aw_ite_t hc hf
    exact w_X10_requireDialect_J9 X XT hf  (lv_sub hl [] rfl) G
  · have hf := aw_ite_f hc hf
    refine lv_iload_n hx hb dX10_requireDialect_4 rfl (lv_at hl 1 rfl) ?_
    refine lv_iconst (v := (3 : Int32)) hx hb dX10_requireDialect_5 (by decide) ?_
    refine lv_icmp_lt (tgt := 20) hx hb dX10_requireDialect_6 (by decide) (fun hc => ?_) (fun hc => ?_)
    · have hf := aw_ite_t hc hf
      exact aw_xretv X G hf dX10_requireDialect_20 (Nat.le_of_ble_eq_true rfl) (Nat.le_of_ble_eq_true rfl)
    · have hf := aw_ite_f hc hf
      exact w_X10_requireDialect_J9 X XT hf  (lv_sub hl [] rfl) G
def rm_X10_change : Room := { frames := 7, cells := 2, slots := 12, locals := 111 }
def f_X10_change_J14 (σ : Sg)  (d : Dt) : Option ((Nat ⊕ Int32) × Dt) :=
  some (Sum.inl 1, d)
def f_X10_change_J52 (σ : Sg)  (d : Dt) : Option ((Nat ⊕ Int32) × Dt) :=
  some (Sum.inl 2, d)
def f_X10_change (σ : Sg) (x0 : Nat) (x1 : Int32) (x2 : Int32) (x3 : Int32) (x4 : Int32) (x5 : Int32) (d : Dt) : Option ((Nat ⊕ Int32) × Dt) :=
  aw_chk (aw_O σ 10 13 x0) ((f_X10_requireDialect σ x0 x1 d).bind (fun z_1 => aw_th z_1 (fun _ => if x2 < 0 then f_X10_change_J14 σ z_1.2 else if x2 ≤ ((3 : Int32)) then (f_X10_valuesOf σ x2 z_1.2).bind (fun z_4 => if x3 < 0 then f_X10_change_J52 σ z_4.2 else if z_4.1 ≤ x3 then f_X10_change_J52 σ z_4.2 else if x4 < 0 then f_X10_change_J52 σ z_4.2 else if x4 < z_4.1 then (σ.2.2 x0 2).bind (fun q_6 => aw_chk (aw_I σ 25 q_6 x1) ((σ.2.2 q_6 x1.toNatClampNeg).bind (fun q_9 => aw_chk (aw_O σ 2 8 q_9) (if (z_4.2.1 q_9 4) < ((6 : Int32)) then (f_X2_append σ q_9 x2 x3 x4 x5 z_4.2).bind (fun z_12 => some (Sum.inr z_12.1, z_12.2)) else some (Sum.inl 3, z_4.2))))) else f_X10_change_J52 σ z_4.2) else f_X10_change_J14 σ z_1.2)))
section W_X10_change
variable {p : Program} {l : Launch} {e : Env} {s : State} {m : MethodId} {args : Array Value} {below : List Frame} {meth : Method} {c : Code}
variable {D : va_G} {cA : Nat → ClassId} {base : Nat} {ad : Nat → Nat} {σ : Sg}
set_option maxHeartbeats 4000000 in
set_option maxRecDepth 100000 in
theorem w_X10_change_J14 {z : (Nat ⊕ Int32) × Dt} (X : aw_X p c cX10_change 7 s RX10 m meth (some .int)) (XT : aw_XT l c)  {d : Dt} (hf : f_X10_change_J14 σ d = some z)  {H : Heap} {locs : List Loc} {ls : Array Slot} (hl : lv_has ls 7 []) (G : aw_G D cA base ad σ d s H locs) : W p l e rm_X10_change s m args below meth c H locs 1 6 (aw_Exi D cA base ad σ below args s 2 12 z) (F0 m 14 ls []) := by
  have hx := X.1; have hb := X.2.1; have hml := X.2.2.1; have hown := X.2.2.2.1
  unfold f_X10_change_J14 at hf
  exact aw_throw X XT G hl.1 1 hf tw_X10_132_136 "no such part" (by decide +kernel) dX10_change_14 dX10_change_17 dX10_change_18 dX10_change_20 dX10_change_23 ⟨Nat.le_of_ble_eq_true rfl, Nat.le_of_ble_eq_true rfl, Nat.le_of_ble_eq_true rfl, Nat.le_of_ble_eq_true rfl⟩ (Nat.le_of_ble_eq_true rfl) (Nat.le_of_ble_eq_true rfl)
set_option maxHeartbeats 4000000 in
set_option maxRecDepth 100000 in
theorem w_X10_change_J52 {z : (Nat ⊕ Int32) × Dt} (X : aw_X p c cX10_change 7 s RX10 m meth (some .int)) (XT : aw_XT l c)  {d : Dt} (hf : f_X10_change_J52 σ d = some z)  {H : Heap} {locs : List Loc} {ls : Array Slot} (hl : lv_has ls 7 []) (G : aw_G D cA base ad σ d s H locs) : W p l e rm_X10_change s m args below meth c H locs 1 6 (aw_Exi D cA base ad σ below args s 2 12 z) (F0 m 52 ls []) := by
  have hx := X.1; have hb := X.2.1; have hml := X.2.2.1; have hown := X.2.2.2.1
  unfold f_X10_change_J52 at hf
  exact aw_throw X XT G hl.1 2 hf tw_X10_89_93 "no value of the part" (by decide +kernel) dX10_change_52 dX10_change_55 dX10_change_56 dX10_change_58 dX10_change_61 ⟨Nat.le_of_ble_eq_true rfl, Nat.le_of_ble_eq_true rfl, Nat.le_of_ble_eq_true rfl, Nat.le_of_ble_eq_true rfl⟩ (Nat.le_of_ble_eq_true rfl) (Nat.le_of_ble_eq_true rfl)
end W_X10_change
set_option maxHeartbeats 4000000 in
set_option maxRecDepth 100000 in
theorem c_X10_change (l : Launch) (hst : l.stackTraces = false) {σ : Sg} {x0 : Nat} {x1 : Int32} {x2 : Int32} {x3 : Int32} {x4 : Int32} {x5 : Int32} {d : Dt} {z : (Nat ⊕ Int32) × Dt} (hf : f_X10_change σ x0 x1 x2 x3 x4 x5 d = some z) : aw_Xi l yX10_change (Cond.code yX10_change cX10_change 7 (some .int)) rm_X10_change (fun ad => [.ref (ad x0), .int x1, .int x2, .int x3, .int x4, .int x5]) σ d z := by
  intro D cA base ad
  refine aw_ofX (own := RX10) (cc := cX10_change) (nL := 7) (ret := some .int) hst (by decide) rfl rfl ?_
  intro p e s m below meth c X XT G
  have hx := X.1; have hb := X.2.1; have hml := X.2.2.1; have hown := X.2.2.2.1
  refine aw_ls (lv := [(0, .ref (ad x0)), (1, .int x1), (2, .int x2), (3, .int x3), (4, .int x4), (5, .int x5)]) (Nat.le_of_ble_eq_true rfl) rfl (fun ls hl => ?_)
  unfold f_X10_change at hf
  refine lv_aload_n hx hb dX10_change_0 rfl (lv_at hl 0 rfl) ?_
  refine lv_iload_n hx hb dX10_change_1 rfl (lv_at hl 1 rfl) ?_
  obtain ⟨hc_3, hf⟩ := aw_chk_some hf
  obtain ⟨z_1, hz_2, hf⟩ := aw_bind_some hf
  refine aw_XVV (As := [.int x1]) (rest := []) X XT G hl.1 cr_X10_128 (c_X10_requireDialect l XT.1 hz_2) rfl rfl rfl (by decide) hc_3 rfl ⟨Nat.le_of_ble_eq_true rfl, Nat.le_of_ble_eq_true rfl⟩ (Nat.le_of_ble_eq_true rfl) dX10_change_2 ⟨Nat.le_of_ble_eq_true rfl, Nat.le_of_ble_eq_true rfl⟩ hf (Nat.le_of_ble_eq_true rfl) (Nat.le_of_ble_eq_true rfl) (fun H locs G hf => ?_)
  refine lv_iload_n hx hb dX10_change_5 rfl (lv_at hl 2 rfl) ?_
  refine lv_if_lt (tgt := 14) hx hb dX10_change_6 (by decide) (fun hc => ?_) (fun hc => ?_)
  · have hf := aw_ite_t hc hf
    refine W.widen (k := 1) (n := 6) (Nat.le_of_ble_eq_true rfl) (Nat.le_of_ble_eq_true rfl) ?_
    exact w_X10_change_J14 X XT hf  (lv_sub hl [] rfl) G
  · have hf := aw_ite_f hc hf
    refine lv_iload_n hx hb dX10_change_9 rfl (lv_at hl 2 rfl) ?_
    refine lv_iconst (v := (3 : Int32)) hx hb dX10_change_10 (by decide) ?_
    refine lv_icmp_le (tgt := 24) hx hb dX10_change_11 (by decide) (fun hc => ?_) (fun hc => ?_)
    · have hf := aw_ite_t hc hf
      refine lv_iload_n hx hb dX10_change_24 rfl (lv_at hl 2 rfl) ?_
      obtain ⟨z_4, hz_5, hf⟩ := aw_bind_some hf
      refine aw_SI (As := [.int x2]) (rest := []) X G hl.1 cr_X10_137 (c_X10_valuesOf l hz_5) ⟨rfl, rfl⟩ rfl rfl rfl ⟨Nat.le_of_ble_eq_true rfl, Nat.le_of_ble_eq_true rfl⟩ (Nat.le_of_ble_eq_true rfl) dX10_change_25 ⟨Nat.le_of_ble_eq_true rfl, Nat.le_of_ble_eq_true rfl⟩ (fun H locs G => ?_)
      refine lv_istore (lv' := [(6, .int z_4.1), (0, .ref (ad x0)), (1, .int x1), (2, .int x2), (3, .int x3), (4, .int x4), (5, .int x5)]) hx hb dX10_change_28 hl (by decide) rfl (fun ls hl => ?_)
      refine lv_iload_n hx hb dX10_change_30 rfl (lv_at hl 4 rfl) ?_
      refine lv_if_lt (tgt := 52) hx hb dX10_change_31 (by decide) (fun hc => ?_) (fun hc => ?_)
      · have hf := aw_ite_t hc hf
        refine W.widen (k := 1) (n := 6) (Nat.le_of_ble_eq_true rfl) (Nat.le_of_ble_eq_true rfl) ?_
        exact w_X10_change_J52 X XT hf  (lv_sub hl [] rfl) G
      · have hf := aw_ite_f hc hf
        refine lv_iload_n hx hb dX10_change_34 rfl (lv_at hl 4 rfl) ?_
        refine lv_iload hx hb dX10_change_35 (lv_at hl 0 rfl) ?_
        refine lv_icmp_ge (tgt := 52) hx hb dX10_change_37 (by decide) (fun hc => ?_) (fun hc => ?_)
        · have hf := aw_ite_t hc hf
          refine W.widen (k := 1) (n := 6) (Nat.le_of_ble_eq_true rfl) (Nat.le_of_ble_eq_true rfl) ?_
          exact w_X10_change_J52 X XT hf  (lv_sub hl [] rfl) G
        · have hf := aw_ite_f hc hf
          refine lv_iload hx hb dX10_change_40 (lv_at hl 5 rfl) ?_
          refine lv_if_lt (tgt := 52) hx hb dX10_change_42 (by decide) (fun hc => ?_) (fun hc => ?_)
          · have hf := aw_ite_t hc hf
            refine W.widen (k := 1) (n := 6) (Nat.le_of_ble_eq_true rfl) (Nat.le_of_ble_eq_true rfl) ?_
            exact w_X10_change_J52 X XT hf  (lv_sub hl [] rfl) G
          · have hf := aw_ite_f hc hf
            refine lv_iload hx hb dX10_change_45 (lv_at hl 5 rfl) ?_
            refine lv_iload hx hb dX10_change_47 (lv_at hl 0 rfl) ?_
            refine lv_icmp_lt (tgt := 62) hx hb dX10_change_49 (by decide) (fun hc => ?_) (fun hc => ?_)
            · have hf := aw_ite_t hc hf
              refine lv_aload_n hx hb dX10_change_62 rfl (lv_at hl 1 rfl) ?_
              obtain ⟨q_6, hq_7, hf⟩ := aw_bind_some hf
              refine gf_X10_23 hx hb G hown hc_3 hq_7 dX10_change_63 ?_
              refine lv_iload_n hx hb dX10_change_66 rfl (lv_at hl 2 rfl) ?_
              obtain ⟨hc_8, hf⟩ := aw_chk_some hf
              obtain ⟨q_9, hq_10, hf⟩ := aw_bind_some hf
              refine aw_qal hx hb G 25 _ rfl rfl (by decide) hc_8 hq_10 dX10_change_67 ?_
              obtain ⟨hc_11, hf⟩ := aw_chk_some hf
              refine gf_X10_142 hx hb G hown hc_11 dX10_change_68 ?_
              refine lv_bipush (v := (6 : Int32)) hx hb dX10_change_71 (by decide) ?_
              refine lv_icmp_lt (tgt := 86) hx hb dX10_change_73 (by decide) (fun hc => ?_) (fun hc => ?_)
              · have hf := aw_ite_t hc hf
                refine lv_aload_n hx hb dX10_change_86 rfl (lv_at hl 1 rfl) ?_
                refine gf_X10_23 hx hb G hown hc_3 hq_7 dX10_change_87 ?_
                refine lv_iload_n hx hb dX10_change_90 rfl (lv_at hl 2 rfl) ?_
                refine aw_qal hx hb G 25 _ rfl rfl (by decide) hc_8 hq_10 dX10_change_91 ?_
                refine lv_iload_n hx hb dX10_change_92 rfl (lv_at hl 3 rfl) ?_
                refine lv_iload_n hx hb dX10_change_93 rfl (lv_at hl 4 rfl) ?_
                refine lv_iload hx hb dX10_change_94 (lv_at hl 5 rfl) ?_
                refine lv_iload hx hb dX10_change_96 (lv_at hl 6 rfl) ?_
                obtain ⟨z_12, hz_13, hf⟩ := aw_bind_some hf
                refine aw_VI (As := [.int x2, .int x3, .int x4, .int x5]) (rest := []) X G hl.1 cr_X10_147 (c_X2_append l hz_13) ⟨rfl, rfl⟩ rfl rfl rfl (by decide) hc_11 rfl ⟨Nat.le_of_ble_eq_true rfl, Nat.le_of_ble_eq_true rfl⟩ (Nat.le_of_ble_eq_true rfl) dX10_change_98 ⟨Nat.le_of_ble_eq_true rfl, Nat.le_of_ble_eq_true rfl⟩ (fun H locs G => ?_)
                exact aw_xreti X G hf dX10_change_101 (Nat.le_of_ble_eq_true rfl) (Nat.le_of_ble_eq_true rfl)
              · have hf := aw_ite_f hc hf
                exact aw_throw X XT G hl.1 3 hf tw_X10_99_103 "the dialect has 6 changes" (by decide +kernel) dX10_change_76 dX10_change_79 dX10_change_80 dX10_change_82 dX10_change_85 ⟨Nat.le_of_ble_eq_true rfl, Nat.le_of_ble_eq_true rfl, Nat.le_of_ble_eq_true rfl, Nat.le_of_ble_eq_true rfl⟩ (Nat.le_of_ble_eq_true rfl) (Nat.le_of_ble_eq_true rfl)
            · have hf := aw_ite_f hc hf
              refine W.widen (k := 1) (n := 6) (Nat.le_of_ble_eq_true rfl) (Nat.le_of_ble_eq_true rfl) ?_
              exact w_X10_change_J52 X XT hf  (lv_sub hl [] rfl) G
    · have hf := aw_ite_f hc hf
      refine W.widen (k := 1) (n := 6) (Nat.le_of_ble_eq_true rfl) (Nat.le_of_ble_eq_true rfl) ?_
      exact w_X10_change_J14 X XT hf  (lv_sub hl [] rfl) G
def rm_X10_cost : Room := { frames := 7, cells := 1, slots := 6, locals := 120 }
def f_X10_cost (σ : Sg) (x0 : Nat) (x1 : Int32) (d : Dt) : Option ((Nat ⊕ Int32) × Dt) :=
  aw_chk (aw_O σ 10 13 x0) ((f_X10_requireDesign σ x0 x1 d).bind (fun z_1 => aw_th z_1 (fun _ => (σ.2.2 x0 3).bind (fun q_4 => aw_chk (aw_I σ 26 q_4 x1) ((σ.2.2 q_4 x1.toNatClampNeg).bind (fun q_7 => (f_X10_prepareQuickPrimer σ x0 q_7 z_1.2).bind (fun z_9 => (σ.2.2 x0 11).bind (fun q_11 => aw_chk (aw_O σ 4 8 q_11) ((f_X4_costOfOrder σ q_11 z_9.2).bind (fun z_13 => some (Sum.inr z_13.1, z_13.2)))))))))))
section W_X10_cost
variable {p : Program} {l : Launch} {e : Env} {s : State} {m : MethodId} {args : Array Value} {below : List Frame} {meth : Method} {c : Code}
variable {D : va_G} {cA : Nat → ClassId} {base : Nat} {ad : Nat → Nat} {σ : Sg}
end W_X10_cost
set_option maxHeartbeats 4000000 in
set_option maxRecDepth 100000 in
theorem c_X10_cost (l : Launch) (hst : l.stackTraces = false) {σ : Sg} {x0 : Nat} {x1 : Int32} {d : Dt} {z : (Nat ⊕ Int32) × Dt} (hf : f_X10_cost σ x0 x1 d = some z) : aw_Xi l yX10_cost (Cond.code yX10_cost cX10_cost 2 (some .int)) rm_X10_cost (fun ad => [.ref (ad x0), .int x1]) σ d z := by
  intro D cA base ad
  refine aw_ofX (own := RX10) (cc := cX10_cost) (nL := 2) (ret := some .int) hst (by decide) rfl rfl ?_
  intro p e s m below meth c X XT G
  have hx := X.1; have hb := X.2.1; have hml := X.2.2.1; have hown := X.2.2.2.1
  refine aw_ls (lv := [(0, .ref (ad x0)), (1, .int x1)]) (Nat.le_of_ble_eq_true rfl) rfl (fun ls hl => ?_)
  unfold f_X10_cost at hf
  refine lv_aload_n hx hb dX10_cost_0 rfl (lv_at hl 0 rfl) ?_
  refine lv_iload_n hx hb dX10_cost_1 rfl (lv_at hl 1 rfl) ?_
  obtain ⟨hc_3, hf⟩ := aw_chk_some hf
  obtain ⟨z_1, hz_2, hf⟩ := aw_bind_some hf
  refine aw_XVV (As := [.int x1]) (rest := []) X XT G hl.1 cr_X10_176 (c_X10_requireDesign l XT.1 hz_2) rfl rfl rfl (by decide) hc_3 rfl ⟨Nat.le_of_ble_eq_true rfl, Nat.le_of_ble_eq_true rfl⟩ (Nat.le_of_ble_eq_true rfl) dX10_cost_2 ⟨Nat.le_of_ble_eq_true rfl, Nat.le_of_ble_eq_true rfl⟩ hf (Nat.le_of_ble_eq_true rfl) (Nat.le_of_ble_eq_true rfl) (fun H locs G hf => ?_)
  refine lv_aload_n hx hb dX10_cost_5 rfl (lv_at hl 0 rfl) ?_
  refine lv_aload_n hx hb dX10_cost_6 rfl (lv_at hl 0 rfl) ?_
  obtain ⟨q_4, hq_5, hf⟩ := aw_bind_some hf
  refine gf_X10_29 hx hb G hown hc_3 hq_5 dX10_cost_7 ?_
  refine lv_iload_n hx hb dX10_cost_10 rfl (lv_at hl 1 rfl) ?_
  obtain ⟨hc_6, hf⟩ := aw_chk_some hf
  obtain ⟨q_7, hq_8, hf⟩ := aw_bind_some hf
  refine aw_qal hx hb G 26 _ rfl rfl (by decide) hc_6 hq_8 dX10_cost_11 ?_
  obtain ⟨z_9, hz_10, hf⟩ := aw_bind_some hf
  refine aw_VV (As := [.ref (ad q_7)]) (rest := []) X G hl.1 cr_X10_269 (c_X10_prepareQuickPrimer l hz_10) ⟨rfl, rfl⟩ rfl rfl rfl (by decide) hc_3 rfl ⟨Nat.le_of_ble_eq_true rfl, Nat.le_of_ble_eq_true rfl⟩ (Nat.le_of_ble_eq_true rfl) dX10_cost_12 ⟨Nat.le_of_ble_eq_true rfl, Nat.le_of_ble_eq_true rfl⟩ (fun H locs G => ?_)
  refine lv_aload_n hx hb dX10_cost_15 rfl (lv_at hl 0 rfl) ?_
  obtain ⟨q_11, hq_12, hf⟩ := aw_bind_some hf
  refine gf_X10_78 hx hb G hown hc_3 hq_12 dX10_cost_16 ?_
  obtain ⟨hc_15, hf⟩ := aw_chk_some hf
  obtain ⟨z_13, hz_14, hf⟩ := aw_bind_some hf
  refine aw_VI (As := []) (rest := []) X G hl.1 cr_X10_278 (c_X4_costOfOrder l hz_14) ⟨rfl, rfl⟩ rfl rfl rfl (by decide) hc_15 rfl ⟨Nat.le_of_ble_eq_true rfl, Nat.le_of_ble_eq_true rfl⟩ (Nat.le_of_ble_eq_true rfl) dX10_cost_19 ⟨Nat.le_of_ble_eq_true rfl, Nat.le_of_ble_eq_true rfl⟩ (fun H locs G => ?_)
  exact aw_xreti X G hf dX10_cost_22 (Nat.le_of_ble_eq_true rfl) (Nat.le_of_ble_eq_true rfl)
def rm_X10_doubts : Room := { frames := 7, cells := 1, slots := 6, locals := 111 }
def f_X10_doubts_J55 (σ : Sg) (kb33 : Int32 → Int32 → Dt → Option ((Nat ⊕ Int32) × Dt)) (x0 : Nat) (x2 : Int32) (x3 : Int32) (x4 : Int32) (d : Dt) : Option ((Nat ⊕ Int32) × Dt) :=
  kb33 x2 (x4 + 1) d
def f_X10_doubts_B33 (σ : Sg) (kb33 : Int32 → Int32 → Dt → Option ((Nat ⊕ Int32) × Dt)) (k33 : Int32 → Dt → Option ((Nat ⊕ Int32) × Dt)) (x0 : Nat) (x3 : Int32) (x2 : Int32) (x4 : Int32) (d : Dt) : Option ((Nat ⊕ Int32) × Dt) :=
  if x3 ≤ x4 then k33 x2 d else aw_chk (aw_O σ 10 13 x0) ((σ.2.2 x0 7).bind (fun q_16 => aw_chk (aw_O σ 7 3 q_16) ((f_X7_alike σ q_16 x3 x4 d).bind (fun z_18 => if z_18.1 = 0 then f_X10_doubts_J55 σ kb33 x0 x2 x3 x4 z_18.2 else f_X10_doubts_J55 σ kb33 x0 (x2 + 1) x3 x4 z_18.2))))
def f_X10_doubts_L33 (σ : Sg) (n : Nat) (k33 : Int32 → Dt → Option ((Nat ⊕ Int32) × Dt)) (x0 : Nat) (x3 : Int32) : Int32 → Int32 → Dt → Option ((Nat ⊕ Int32) × Dt) := match n with
  | 0 => fun _ _ _ => none
  | n + 1 => fun x2 x4 d => f_X10_doubts_B33 σ (f_X10_doubts_L33 σ n k33 x0 x3) k33 x0 x3 x2 x4 d
def f_X10_doubts_B19 (σ : Sg) (kb19 : Int32 → Int32 → Dt → Option ((Nat ⊕ Int32) × Dt)) (k19 : Int32 → Dt → Option ((Nat ⊕ Int32) × Dt)) (x0 : Nat) (x2 : Int32) (x3 : Int32) (d : Dt) : Option ((Nat ⊕ Int32) × Dt) :=
  aw_chk (aw_O σ 10 13 x0) ((σ.2.2 x0 0).bind (fun q_12 => aw_chk (aw_O σ 9 4 q_12) (if (d.1 q_12 3) ≤ x3 then k19 x2 d else f_X10_doubts_L33 σ aw_FU (fun x2_21 d_22 => kb19 x2_21 (x3 + 1) d_22) x0 x3 x2 ((0 : Int32)) d)))
def f_X10_doubts_L19 (σ : Sg) (n : Nat) (k19 : Int32 → Dt → Option ((Nat ⊕ Int32) × Dt)) (x0 : Nat) : Int32 → Int32 → Dt → Option ((Nat ⊕ Int32) × Dt) := match n with
  | 0 => fun _ _ _ => none
  | n + 1 => fun x2 x3 d => f_X10_doubts_B19 σ (f_X10_doubts_L19 σ n k19 x0) k19 x0 x2 x3 d
def f_X10_doubts (σ : Sg) (x0 : Nat) (x1 : Int32) (d : Dt) : Option ((Nat ⊕ Int32) × Dt) :=
  aw_chk (aw_O σ 10 13 x0) ((f_X10_requireDesign σ x0 x1 d).bind (fun z_1 => aw_th z_1 (fun _ => (σ.2.2 x0 3).bind (fun q_4 => aw_chk (aw_I σ 26 q_4 x1) ((σ.2.2 q_4 x1.toNatClampNeg).bind (fun q_7 => (f_X10_spellAll σ x0 q_7 z_1.2).bind (fun z_9 => f_X10_doubts_L19 σ aw_FU (fun x2_23 d_24 => some (Sum.inr x2_23, d_24)) x0 ((0 : Int32)) ((0 : Int32)) z_9.2)))))))
section W_X10_doubts
variable {p : Program} {l : Launch} {e : Env} {s : State} {m : MethodId} {args : Array Value} {below : List Frame} {meth : Method} {c : Code}
variable {D : va_G} {cA : Nat → ClassId} {base : Nat} {ad : Nat → Nat} {σ : Sg}
set_option maxHeartbeats 4000000 in
set_option maxRecDepth 100000 in
theorem w_X10_doubts_J55 {z : (Nat ⊕ Int32) × Dt} (X : aw_X p c cX10_doubts 5 s RX10 m meth (some .int)) (XT : aw_XT l c) {kb33 : Int32 → Int32 → Dt → Option ((Nat ⊕ Int32) × Dt)} {x0 : Nat} {x2 : Int32} {x3 : Int32} {x4 : Int32} {d : Dt} (hf : f_X10_doubts_J55 σ kb33 x0 x2 x3 x4 d = some z) (hkb33 : ∀ (y2 : Int32) (y4 : Int32) (d : Dt), kb33 y2 y4 d = some z → ∀ (H : Heap) (locs : List Loc) (ls : Array Slot), lv_has ls 5 [(0, .ref (ad x0)), (2, .int y2), (3, .int x3), (4, .int y4)] → aw_G D cA base ad σ d s H locs → W p l e rm_X10_doubts s m args below meth c H locs 1 6 (aw_Exi D cA base ad σ below args s 1 6 z) (F0 m 33 ls [])) {H : Heap} {locs : List Loc} {ls : Array Slot} (hl : lv_has ls 5 [(0, .ref (ad x0)), (2, .int x2), (3, .int x3), (4, .int x4)]) (G : aw_G D cA base ad σ d s H locs) : W p l e rm_X10_doubts s m args below meth c H locs 1 6 (aw_Exi D cA base ad σ below args s 1 6 z) (F0 m 55 ls []) := by
  have hx := X.1; have hb := X.2.1; have hml := X.2.2.1; have hown := X.2.2.2.1
  unfold f_X10_doubts_J55 at hf
  refine lv_iinc (v := x4 + 1) (lv' := [(4, .int (x4 + 1)), (0, .ref (ad x0)), (2, .int x2), (3, .int x3)]) hx hb dX10_doubts_55 hl (k := 3) rfl rfl (by decide) rfl (fun ls hl => ?_)
  refine lv_goto (tgt := 33) hx hb dX10_doubts_58 (by decide) ?_
  refine W.widen (k := 1) (n := 6) (Nat.le_of_ble_eq_true rfl) (Nat.le_of_ble_eq_true rfl) ?_
  exact hkb33 _ _ _ hf _ _ _ (lv_sub hl [1, 2, 3, 0] rfl) G
set_option maxHeartbeats 4000000 in
set_option maxRecDepth 100000 in
theorem w_X10_doubts_B33 {z : (Nat ⊕ Int32) × Dt} (X : aw_X p c cX10_doubts 5 s RX10 m meth (some .int)) (XT : aw_XT l c) {kb33 : Int32 → Int32 → Dt → Option ((Nat ⊕ Int32) × Dt)} {k33 : Int32 → Dt → Option ((Nat ⊕ Int32) × Dt)} {x0 : Nat} {x3 : Int32} {x2 : Int32} {x4 : Int32} {d : Dt} (hf : f_X10_doubts_B33 σ kb33 k33 x0 x3 x2 x4 d = some z) (hkb33 : ∀ (y2 : Int32) (y4 : Int32) (d : Dt), kb33 y2 y4 d = some z → ∀ (H : Heap) (locs : List Loc) (ls : Array Slot), lv_has ls 5 [(0, .ref (ad x0)), (2, .int y2), (3, .int x3), (4, .int y4)] → aw_G D cA base ad σ d s H locs → W p l e rm_X10_doubts s m args below meth c H locs 1 6 (aw_Exi D cA base ad σ below args s 1 6 z) (F0 m 33 ls [])) (hk33 : ∀ (y2 : Int32) (d : Dt), k33 y2 d = some z → ∀ (H : Heap) (locs : List Loc) (ls : Array Slot), lv_has ls 5 [(0, .ref (ad x0)), (2, .int y2), (3, .int x3)] → aw_G D cA base ad σ d s H locs → W p l e rm_X10_doubts s m args below meth c H locs 1 6 (aw_Exi D cA base ad σ below args s 1 6 z) (F0 m 61 ls [])) {H : Heap} {locs : List Loc} {ls : Array Slot} (hl : lv_has ls 5 [(0, .ref (ad x0)), (2, .int x2), (3, .int x3), (4, .int x4)]) (G : aw_G D cA base ad σ d s H locs) : W p l e rm_X10_doubts s m args below meth c H locs 1 6 (aw_Exi D cA base ad σ below args s 1 6 z) (F0 m 33 ls []) := by
  have hx := X.1; have hb := X.2.1; have hml := X.2.2.1; have hown := X.2.2.2.1
  unfold f_X10_doubts_B33 at hf
  refine lv_iload hx hb dX10_doubts_33 (lv_at hl 3 rfl) ?_
  refine lv_iload_n hx hb dX10_doubts_35 rfl (lv_at hl 2 rfl) ?_
  refine lv_icmp_ge (tgt := 61) hx hb dX10_doubts_36 (by decide) (fun hc => ?_) (fun hc => ?_)
  · have hf := aw_ite_t hc hf
    refine W.widen (k := 1) (n := 6) (Nat.le_of_ble_eq_true rfl) (Nat.le_of_ble_eq_true rfl) ?_
    exact hk33 _ _ hf _ _ _ (lv_sub hl [0, 1, 2] rfl) G
  · have hf := aw_ite_f hc hf
    refine lv_aload_n hx hb dX10_doubts_39 rfl (lv_at hl 0 rfl) ?_
    obtain ⟨hc_15, hf⟩ := aw_chk_some hf
    obtain ⟨q_16, hq_17, hf⟩ := aw_bind_some hf
    refine gf_X10_54 hx hb G hown hc_15 hq_17 dX10_doubts_40 ?_
    refine lv_iload_n hx hb dX10_doubts_43 rfl (lv_at hl 2 rfl) ?_
    refine lv_iload hx hb dX10_doubts_44 (lv_at hl 3 rfl) ?_
    obtain ⟨hc_20, hf⟩ := aw_chk_some hf
    obtain ⟨z_18, hz_19, hf⟩ := aw_bind_some hf
    refine aw_VI (As := [.int x3, .int x4]) (rest := []) X G hl.1 cr_X10_209 (c_X7_alike l hz_19) ⟨rfl, rfl⟩ rfl rfl rfl (by decide) hc_20 rfl ⟨Nat.le_of_ble_eq_true rfl, Nat.le_of_ble_eq_true rfl⟩ (Nat.le_of_ble_eq_true rfl) dX10_doubts_46 ⟨Nat.le_of_ble_eq_true rfl, Nat.le_of_ble_eq_true rfl⟩ (fun H locs G => ?_)
    refine lv_if_eq (tgt := 55) hx hb dX10_doubts_49 (by decide) (fun hc => ?_) (fun hc => ?_)
    · have hf := aw_ite_t hc hf
      refine W.widen (k := 1) (n := 6) (Nat.le_of_ble_eq_true rfl) (Nat.le_of_ble_eq_true rfl) ?_
      exact w_X10_doubts_J55 X XT hf hkb33 (lv_sub hl [0, 1, 2, 3] rfl) G
    · have hf := aw_ite_f hc hf
      refine lv_iinc (v := x2 + 1) (lv' := [(2, .int (x2 + 1)), (0, .ref (ad x0)), (3, .int x3), (4, .int x4)]) hx hb dX10_doubts_52 hl (k := 1) rfl rfl (by decide) rfl (fun ls hl => ?_)
      refine W.widen (k := 1) (n := 6) (Nat.le_of_ble_eq_true rfl) (Nat.le_of_ble_eq_true rfl) ?_
      exact w_X10_doubts_J55 X XT hf hkb33 (lv_sub hl [1, 0, 2, 3] rfl) G
theorem w_X10_doubts_L33 {z : (Nat ⊕ Int32) × Dt} (X : aw_X p c cX10_doubts 5 s RX10 m meth (some .int)) (XT : aw_XT l c) {k33 : Int32 → Dt → Option ((Nat ⊕ Int32) × Dt)} {x0 : Nat} {x3 : Int32} (n : Nat) {x2 : Int32} {x4 : Int32} {d : Dt} (hf : f_X10_doubts_L33 σ n k33 x0 x3 x2 x4 d = some z) (hk33 : ∀ (y2 : Int32) (d : Dt), k33 y2 d = some z → ∀ (H : Heap) (locs : List Loc) (ls : Array Slot), lv_has ls 5 [(0, .ref (ad x0)), (2, .int y2), (3, .int x3)] → aw_G D cA base ad σ d s H locs → W p l e rm_X10_doubts s m args below meth c H locs 1 6 (aw_Exi D cA base ad σ below args s 1 6 z) (F0 m 61 ls [])) {H : Heap} {locs : List Loc} {ls : Array Slot} (hl : lv_has ls 5 [(0, .ref (ad x0)), (2, .int x2), (3, .int x3), (4, .int x4)]) (G : aw_G D cA base ad σ d s H locs) : W p l e rm_X10_doubts s m args below meth c H locs 1 6 (aw_Exi D cA base ad σ below args s 1 6 z) (F0 m 33 ls []) := by
  induction n generalizing x2 x4 d H locs ls with
  | zero => exact absurd (show (none : Option ((Nat ⊕ Int32) × Dt)) = some z from hf) (by simp)
  | succ n ih => exact w_X10_doubts_B33 X XT (kb33 := f_X10_doubts_L33 σ n k33 x0 x3) hf  (fun x2 x4 d hf H locs ls hl G => ih hf hl G) hk33 hl G
set_option maxHeartbeats 4000000 in
set_option maxRecDepth 100000 in
theorem w_X10_doubts_B19 {z : (Nat ⊕ Int32) × Dt} (X : aw_X p c cX10_doubts 5 s RX10 m meth (some .int)) (XT : aw_XT l c) {kb19 : Int32 → Int32 → Dt → Option ((Nat ⊕ Int32) × Dt)} {k19 : Int32 → Dt → Option ((Nat ⊕ Int32) × Dt)} {x0 : Nat} {x2 : Int32} {x3 : Int32} {d : Dt} (hf : f_X10_doubts_B19 σ kb19 k19 x0 x2 x3 d = some z) (hkb19 : ∀ (y2 : Int32) (y3 : Int32) (d : Dt), kb19 y2 y3 d = some z → ∀ (H : Heap) (locs : List Loc) (ls : Array Slot), lv_has ls 5 [(0, .ref (ad x0)), (2, .int y2), (3, .int y3)] → aw_G D cA base ad σ d s H locs → W p l e rm_X10_doubts s m args below meth c H locs 1 6 (aw_Exi D cA base ad σ below args s 1 6 z) (F0 m 19 ls [])) (hk19 : ∀ (y2 : Int32) (d : Dt), k19 y2 d = some z → ∀ (H : Heap) (locs : List Loc) (ls : Array Slot), lv_has ls 5 [(2, .int y2)] → aw_G D cA base ad σ d s H locs → W p l e rm_X10_doubts s m args below meth c H locs 1 6 (aw_Exi D cA base ad σ below args s 1 6 z) (F0 m 67 ls [])) {H : Heap} {locs : List Loc} {ls : Array Slot} (hl : lv_has ls 5 [(0, .ref (ad x0)), (2, .int x2), (3, .int x3)]) (G : aw_G D cA base ad σ d s H locs) : W p l e rm_X10_doubts s m args below meth c H locs 1 6 (aw_Exi D cA base ad σ below args s 1 6 z) (F0 m 19 ls []) := by
  have hx := X.1; have hb := X.2.1; have hml := X.2.2.1; have hown := X.2.2.2.1
  unfold f_X10_doubts_B19 at hf
  refine lv_iload_n hx hb dX10_doubts_19 rfl (lv_at hl 2 rfl) ?_
  refine lv_aload_n hx hb dX10_doubts_20 rfl (lv_at hl 0 rfl) ?_
  obtain ⟨hc_11, hf⟩ := aw_chk_some hf
  obtain ⟨q_12, hq_13, hf⟩ := aw_bind_some hf
  refine gf_X10_12 hx hb G hown hc_11 hq_13 dX10_doubts_21 ?_
  obtain ⟨hc_14, hf⟩ := aw_chk_some hf
  refine gf_X10_112 hx hb G hown hc_14 dX10_doubts_24 ?_
  refine lv_icmp_ge (tgt := 67) hx hb dX10_doubts_27 (by decide) (fun hc => ?_) (fun hc => ?_)
  · have hf := aw_ite_t hc hf
    refine W.widen (k := 1) (n := 6) (Nat.le_of_ble_eq_true rfl) (Nat.le_of_ble_eq_true rfl) ?_
    exact hk19 _ _ hf _ _ _ (lv_sub hl [1] rfl) G
  · have hf := aw_ite_f hc hf
    refine lv_iconst (v := (0 : Int32)) hx hb dX10_doubts_30 (by decide) ?_
    refine lv_istore (lv' := [(4, .int ((0 : Int32))), (0, .ref (ad x0)), (2, .int x2), (3, .int x3)]) hx hb dX10_doubts_31 hl (by decide) rfl (fun ls hl => ?_)
    refine W.widen (k := 1) (n := 6) (Nat.le_of_ble_eq_true rfl) (Nat.le_of_ble_eq_true rfl) ?_
    refine w_X10_doubts_L33 X XT aw_FU hf  (fun x2_21 d_22 hf H locs ls hl G => ?_) (lv_sub hl [1, 2, 3, 0] rfl) G
    refine lv_iinc (v := x3 + 1) (lv' := [(3, .int (x3 + 1)), (0, .ref (ad x0)), (2, .int x2_21)]) hx hb dX10_doubts_61 hl (k := 2) rfl rfl (by decide) rfl (fun ls hl => ?_)
    refine lv_goto (tgt := 19) hx hb dX10_doubts_64 (by decide) ?_
    refine W.widen (k := 1) (n := 6) (Nat.le_of_ble_eq_true rfl) (Nat.le_of_ble_eq_true rfl) ?_
    exact hkb19 _ _ _ hf _ _ _ (lv_sub hl [1, 2, 0] rfl) G
theorem w_X10_doubts_L19 {z : (Nat ⊕ Int32) × Dt} (X : aw_X p c cX10_doubts 5 s RX10 m meth (some .int)) (XT : aw_XT l c) {k19 : Int32 → Dt → Option ((Nat ⊕ Int32) × Dt)} {x0 : Nat} (n : Nat) {x2 : Int32} {x3 : Int32} {d : Dt} (hf : f_X10_doubts_L19 σ n k19 x0 x2 x3 d = some z) (hk19 : ∀ (y2 : Int32) (d : Dt), k19 y2 d = some z → ∀ (H : Heap) (locs : List Loc) (ls : Array Slot), lv_has ls 5 [(2, .int y2)] → aw_G D cA base ad σ d s H locs → W p l e rm_X10_doubts s m args below meth c H locs 1 6 (aw_Exi D cA base ad σ below args s 1 6 z) (F0 m 67 ls [])) {H : Heap} {locs : List Loc} {ls : Array Slot} (hl : lv_has ls 5 [(0, .ref (ad x0)), (2, .int x2), (3, .int x3)]) (G : aw_G D cA base ad σ d s H locs) : W p l e rm_X10_doubts s m args below meth c H locs 1 6 (aw_Exi D cA base ad σ below args s 1 6 z) (F0 m 19 ls []) := by
  induction n generalizing x2 x3 d H locs ls with
  | zero => exact absurd (show (none : Option ((Nat ⊕ Int32) × Dt)) = some z from hf) (by simp)
  | succ n ih => exact w_X10_doubts_B19 X XT (kb19 := f_X10_doubts_L19 σ n k19 x0) hf  (fun x2 x3 d hf H locs ls hl G => ih hf hl G) hk19 hl G
end W_X10_doubts
set_option maxHeartbeats 4000000 in
set_option maxRecDepth 100000 in
theorem c_X10_doubts (l : Launch) (hst : l.stackTraces = false) {σ : Sg} {x0 : Nat} {x1 : Int32} {d : Dt} {z : (Nat ⊕ Int32) × Dt} (hf : f_X10_doubts σ x0 x1 d = some z) : aw_Xi l yX10_doubts (Cond.code yX10_doubts cX10_doubts 5 (some .int)) rm_X10_doubts (fun ad => [.ref (ad x0), .int x1]) σ d z := by
  intro D cA base ad
  refine aw_ofX (own := RX10) (cc := cX10_doubts) (nL := 5) (ret := some .int) hst (by decide) rfl rfl ?_
  intro p e s m below meth c X XT G
  have hx := X.1; have hb := X.2.1; have hml := X.2.2.1; have hown := X.2.2.2.1
  refine aw_ls (lv := [(0, .ref (ad x0)), (1, .int x1)]) (Nat.le_of_ble_eq_true rfl) rfl (fun ls hl => ?_)
  unfold f_X10_doubts at hf
  refine lv_aload_n hx hb dX10_doubts_0 rfl (lv_at hl 0 rfl) ?_
  refine lv_iload_n hx hb dX10_doubts_1 rfl (lv_at hl 1 rfl) ?_
  obtain ⟨hc_3, hf⟩ := aw_chk_some hf
  obtain ⟨z_1, hz_2, hf⟩ := aw_bind_some hf
  refine aw_XVV (As := [.int x1]) (rest := []) X XT G hl.1 cr_X10_176 (c_X10_requireDesign l XT.1 hz_2) rfl rfl rfl (by decide) hc_3 rfl ⟨Nat.le_of_ble_eq_true rfl, Nat.le_of_ble_eq_true rfl⟩ (Nat.le_of_ble_eq_true rfl) dX10_doubts_2 ⟨Nat.le_of_ble_eq_true rfl, Nat.le_of_ble_eq_true rfl⟩ hf (Nat.le_of_ble_eq_true rfl) (Nat.le_of_ble_eq_true rfl) (fun H locs G hf => ?_)
  refine lv_aload_n hx hb dX10_doubts_5 rfl (lv_at hl 0 rfl) ?_
  refine lv_aload_n hx hb dX10_doubts_6 rfl (lv_at hl 0 rfl) ?_
  obtain ⟨q_4, hq_5, hf⟩ := aw_bind_some hf
  refine gf_X10_29 hx hb G hown hc_3 hq_5 dX10_doubts_7 ?_
  refine lv_iload_n hx hb dX10_doubts_10 rfl (lv_at hl 1 rfl) ?_
  obtain ⟨hc_6, hf⟩ := aw_chk_some hf
  obtain ⟨q_7, hq_8, hf⟩ := aw_bind_some hf
  refine aw_qal hx hb G 26 _ rfl rfl (by decide) hc_6 hq_8 dX10_doubts_11 ?_
  obtain ⟨z_9, hz_10, hf⟩ := aw_bind_some hf
  refine aw_VV (As := [.ref (ad q_7)]) (rest := []) X G hl.1 cr_X10_203 (c_X10_spellAll l hz_10) ⟨rfl, rfl⟩ rfl rfl rfl (by decide) hc_3 rfl ⟨Nat.le_of_ble_eq_true rfl, Nat.le_of_ble_eq_true rfl⟩ (Nat.le_of_ble_eq_true rfl) dX10_doubts_12 ⟨Nat.le_of_ble_eq_true rfl, Nat.le_of_ble_eq_true rfl⟩ (fun H locs G => ?_)
  refine lv_iconst (v := (0 : Int32)) hx hb dX10_doubts_15 (by decide) ?_
  refine lv_istore_n (lv' := [(2, .int ((0 : Int32))), (0, .ref (ad x0)), (1, .int x1)]) hx hb dX10_doubts_16 rfl hl (by decide) rfl (fun ls hl => ?_)
  refine lv_iconst (v := (0 : Int32)) hx hb dX10_doubts_17 (by decide) ?_
  refine lv_istore_n (lv' := [(3, .int ((0 : Int32))), (2, .int ((0 : Int32))), (0, .ref (ad x0)), (1, .int x1)]) hx hb dX10_doubts_18 rfl hl (by decide) rfl (fun ls hl => ?_)
  refine W.widen (k := 1) (n := 6) (Nat.le_of_ble_eq_true rfl) (Nat.le_of_ble_eq_true rfl) ?_
  refine w_X10_doubts_L19 X XT aw_FU hf  (fun x2_23 d_24 hf H locs ls hl G => ?_) (lv_sub hl [2, 1, 0] rfl) G
  refine lv_iload_n hx hb dX10_doubts_67 rfl (lv_at hl 0 rfl) ?_
  exact aw_xreti X G hf dX10_doubts_68 (Nat.le_of_ble_eq_true rfl) (Nat.le_of_ble_eq_true rfl)
def rm_X10_elected : Room := { frames := 6, cells := 1, slots := 6, locals := 147 }
def f_X10_elected (σ : Sg) (x0 : Nat) (d : Dt) : Option ((Nat ⊕ Int32) × Dt) :=
  aw_chk (aw_O σ 10 13 x0) (if (d.1 x0 4) = 0 then some (Sum.inl 3, d) else (σ.2.2 x0 6).bind (fun q_2 => aw_chk (aw_O σ 0 7 q_2) ((f_X0_allPeople σ q_2 d).bind (fun z_4 => if z_4.1 = 0 then some (Sum.inr ((-1 : Int32)), z_4.2) else (f_X10_prepareBallot σ x0 z_4.2).bind (fun z_7 => (f_X0_winner σ q_2 z_7.2).bind (fun z_9 => some (Sum.inr z_9.1, z_9.2)))))))
section W_X10_elected
variable {p : Program} {l : Launch} {e : Env} {s : State} {m : MethodId} {args : Array Value} {below : List Frame} {meth : Method} {c : Code}
variable {D : va_G} {cA : Nat → ClassId} {base : Nat} {ad : Nat → Nat} {σ : Sg}
end W_X10_elected
set_option maxHeartbeats 4000000 in
set_option maxRecDepth 100000 in
theorem c_X10_elected (l : Launch) (hst : l.stackTraces = false) {σ : Sg} {x0 : Nat} {d : Dt} {z : (Nat ⊕ Int32) × Dt} (hf : f_X10_elected σ x0 d = some z) : aw_Xi l yX10_elected (Cond.code yX10_elected cX10_elected 1 (some .int)) rm_X10_elected (fun ad => [.ref (ad x0)]) σ d z := by
  intro D cA base ad
  refine aw_ofX (own := RX10) (cc := cX10_elected) (nL := 1) (ret := some .int) hst (by decide) rfl rfl ?_
  intro p e s m below meth c X XT G
  have hx := X.1; have hb := X.2.1; have hml := X.2.2.1; have hown := X.2.2.2.1
  refine aw_ls (lv := [(0, .ref (ad x0))]) (Nat.le_of_ble_eq_true rfl) rfl (fun ls hl => ?_)
  unfold f_X10_elected at hf
  refine lv_aload_n hx hb dX10_elected_0 rfl (lv_at hl 0 rfl) ?_
  obtain ⟨hc_1, hf⟩ := aw_chk_some hf
  refine gf_X10_33 hx hb G hown hc_1 dX10_elected_1 ?_
  refine lv_if_ne (tgt := 18) hx hb dX10_elected_4 (by decide) (fun hc => ?_) (fun hc => ?_)
  · have hf := aw_ite_f hc hf
    refine lv_aload_n hx hb dX10_elected_18 rfl (lv_at hl 0 rfl) ?_
    obtain ⟨q_2, hq_3, hf⟩ := aw_bind_some hf
    refine gf_X10_47 hx hb G hown hc_1 hq_3 dX10_elected_19 ?_
    obtain ⟨hc_6, hf⟩ := aw_chk_some hf
    obtain ⟨z_4, hz_5, hf⟩ := aw_bind_some hf
    refine aw_VI (As := []) (rest := []) X G hl.1 cr_X10_347 (c_X0_allPeople l hz_5) ⟨rfl, rfl⟩ rfl rfl rfl (by decide) hc_6 rfl ⟨Nat.le_of_ble_eq_true rfl, Nat.le_of_ble_eq_true rfl⟩ (Nat.le_of_ble_eq_true rfl) dX10_elected_22 ⟨Nat.le_of_ble_eq_true rfl, Nat.le_of_ble_eq_true rfl⟩ (fun H locs G => ?_)
    refine lv_if_ne (tgt := 30) hx hb dX10_elected_25 (by decide) (fun hc => ?_) (fun hc => ?_)
    · have hf := aw_ite_f hc hf
      refine lv_aload_n hx hb dX10_elected_30 rfl (lv_at hl 0 rfl) ?_
      obtain ⟨z_7, hz_8, hf⟩ := aw_bind_some hf
      refine aw_VV (As := []) (rest := []) X G hl.1 cr_X10_336 (c_X10_prepareBallot l hz_8) ⟨rfl, rfl⟩ rfl rfl rfl (by decide) hc_1 rfl ⟨Nat.le_of_ble_eq_true rfl, Nat.le_of_ble_eq_true rfl⟩ (Nat.le_of_ble_eq_true rfl) dX10_elected_31 ⟨Nat.le_of_ble_eq_true rfl, Nat.le_of_ble_eq_true rfl⟩ (fun H locs G => ?_)
      refine lv_aload_n hx hb dX10_elected_34 rfl (lv_at hl 0 rfl) ?_
      refine gf_X10_47 hx hb G hown hc_1 hq_3 dX10_elected_35 ?_
      obtain ⟨z_9, hz_10, hf⟩ := aw_bind_some hf
      refine aw_VI (As := []) (rest := []) X G hl.1 cr_X10_350 (c_X0_winner l hz_10) ⟨rfl, rfl⟩ rfl rfl rfl (by decide) hc_6 rfl ⟨Nat.le_of_ble_eq_true rfl, Nat.le_of_ble_eq_true rfl⟩ (Nat.le_of_ble_eq_true rfl) dX10_elected_38 ⟨Nat.le_of_ble_eq_true rfl, Nat.le_of_ble_eq_true rfl⟩ (fun H locs G => ?_)
      exact aw_xreti X G hf dX10_elected_41 (Nat.le_of_ble_eq_true rfl) (Nat.le_of_ble_eq_true rfl)
    · have hf := aw_ite_t hc hf
      refine lv_iconst (v := (-1 : Int32)) hx hb dX10_elected_28 (by decide) ?_
      exact aw_xreti X G hf dX10_elected_29 (Nat.le_of_ble_eq_true rfl) (Nat.le_of_ble_eq_true rfl)
  · have hf := aw_ite_t hc hf
    exact aw_throwW X XT G hl.1 3 hf tw_X10_99_103 "there is no design" (by decide +kernel) dX10_elected_7 dX10_elected_10 dX10_elected_11 dX10_elected_14 dX10_elected_17 ⟨Nat.le_of_ble_eq_true rfl, Nat.le_of_ble_eq_true rfl, Nat.le_of_ble_eq_true rfl, Nat.le_of_ble_eq_true rfl⟩ (Nat.le_of_ble_eq_true rfl) (Nat.le_of_ble_eq_true rfl)
def rm_X10_errors : Room := { frames := 7, cells := 2, slots := 12, locals := 124 }
def f_X10_errors_J14 (σ : Sg)  (d : Dt) : Option ((Nat ⊕ Int32) × Dt) :=
  some (Sum.inl 2, d)
def f_X10_errors_B66 (σ : Sg) (kb66 : Int32 → Int32 → Dt → Option ((Nat ⊕ Int32) × Dt)) (k66 : Int32 → Dt → Option ((Nat ⊕ Int32) × Dt)) (x0 : Nat) (x3 : Int64) (x5 : Int32) (x6 : Int32) (d : Dt) : Option ((Nat ⊕ Int32) × Dt) :=
  aw_chk (aw_O σ 10 13 x0) ((σ.2.2 x0 0).bind (fun q_25 => aw_chk (aw_O σ 9 4 q_25) (if (d.1 q_25 3) ≤ x6 then k66 x5 d else (σ.2.2 q_25 2).bind (fun q_28 => aw_chk (aw_I σ 20 q_28 x6) ((σ.2.2 x0 7).bind (fun q_31 => aw_chk (aw_O σ 7 3 q_31) ((f_X7_placesWith σ q_31 x6 x3 d).bind (fun z_33 => kb66 (x5 + ((d.1 q_28 x6.toNatClampNeg) * z_33.1)) (x6 + 1) z_33.2))))))))
def f_X10_errors_L66 (σ : Sg) (n : Nat) (k66 : Int32 → Dt → Option ((Nat ⊕ Int32) × Dt)) (x0 : Nat) (x3 : Int64) : Int32 → Int32 → Dt → Option ((Nat ⊕ Int32) × Dt) := match n with
  | 0 => fun _ _ _ => none
  | n + 1 => fun x5 x6 d => f_X10_errors_B66 σ (f_X10_errors_L66 σ n k66 x0 x3) k66 x0 x3 x5 x6 d
def f_X10_errors (σ : Sg) (x0 : Nat) (x1 : Int32) (x2 : Int32) (d : Dt) : Option ((Nat ⊕ Int32) × Dt) :=
  aw_chk (aw_O σ 10 13 x0) ((f_X10_requireDesign σ x0 x1 d).bind (fun z_1 => aw_th z_1 (fun _ => if x2 < 0 then f_X10_errors_J14 σ z_1.2 else if x2 ≤ ((4 : Int32)) then (σ.2.2 x0 3).bind (fun q_4 => aw_chk (aw_I σ 26 q_4 x1) ((σ.2.2 q_4 x1.toNatClampNeg).bind (fun q_7 => (f_X10_spellAll σ x0 q_7 z_1.2).bind (fun z_9 => (σ.2.2 x0 5).bind (fun q_11 => (σ.2.2 x0 7).bind (fun q_13 => aw_chk (aw_O σ 7 3 q_13) ((f_X7_signsInUse σ q_13 z_9.2).bind (fun z_15 => aw_chk (aw_O σ 1 5 q_7) ((f_X1_signSet σ q_7 z_15.2).bind (fun z_18 => aw_chk (aw_O σ 6 4 q_11) ((f_X6_mistaken σ q_11 z_15.1 z_18.1 x2 z_18.2).bind (fun z_21 => f_X10_errors_L66 σ aw_FU (fun x5_36 d_37 => some (Sum.inr x5_36, d_37)) x0 z_21.1 ((0 : Int32)) ((0 : Int32)) z_21.2)))))))))))) else f_X10_errors_J14 σ z_1.2)))
section W_X10_errors
variable {p : Program} {l : Launch} {e : Env} {s : State} {m : MethodId} {args : Array Value} {below : List Frame} {meth : Method} {c : Code}
variable {D : va_G} {cA : Nat → ClassId} {base : Nat} {ad : Nat → Nat} {σ : Sg}
set_option maxHeartbeats 4000000 in
set_option maxRecDepth 100000 in
theorem w_X10_errors_J14 {z : (Nat ⊕ Int32) × Dt} (X : aw_X p c cX10_errors 7 s RX10 m meth (some .int)) (XT : aw_XT l c)  {d : Dt} (hf : f_X10_errors_J14 σ d = some z)  {H : Heap} {locs : List Loc} {ls : Array Slot} (hl : lv_has ls 7 []) (G : aw_G D cA base ad σ d s H locs) : W p l e rm_X10_errors s m args below meth c H locs 1 6 (aw_Exi D cA base ad σ below args s 2 12 z) (F0 m 14 ls []) := by
  have hx := X.1; have hb := X.2.1; have hml := X.2.2.1; have hown := X.2.2.2.1
  unfold f_X10_errors_J14 at hf
  exact aw_throwW X XT G hl.1 2 hf tw_X10_89_93 "far is out of range" (by decide +kernel) dX10_errors_14 dX10_errors_17 dX10_errors_18 dX10_errors_21 dX10_errors_24 ⟨Nat.le_of_ble_eq_true rfl, Nat.le_of_ble_eq_true rfl, Nat.le_of_ble_eq_true rfl, Nat.le_of_ble_eq_true rfl⟩ (Nat.le_of_ble_eq_true rfl) (Nat.le_of_ble_eq_true rfl)
set_option maxHeartbeats 4000000 in
set_option maxRecDepth 100000 in
theorem w_X10_errors_B66 {z : (Nat ⊕ Int32) × Dt} (X : aw_X p c cX10_errors 7 s RX10 m meth (some .int)) (XT : aw_XT l c) {kb66 : Int32 → Int32 → Dt → Option ((Nat ⊕ Int32) × Dt)} {k66 : Int32 → Dt → Option ((Nat ⊕ Int32) × Dt)} {x0 : Nat} {x3 : Int64} {x5 : Int32} {x6 : Int32} {d : Dt} (hf : f_X10_errors_B66 σ kb66 k66 x0 x3 x5 x6 d = some z) (hkb66 : ∀ (y5 : Int32) (y6 : Int32) (d : Dt), kb66 y5 y6 d = some z → ∀ (H : Heap) (locs : List Loc) (ls : Array Slot), lv_has ls 7 [(0, .ref (ad x0)), (3, .long x3), (5, .int y5), (6, .int y6)] → aw_G D cA base ad σ d s H locs → W p l e rm_X10_errors s m args below meth c H locs 1 6 (aw_Exi D cA base ad σ below args s 2 12 z) (F0 m 66 ls [])) (hk66 : ∀ (y5 : Int32) (d : Dt), k66 y5 d = some z → ∀ (H : Heap) (locs : List Loc) (ls : Array Slot), lv_has ls 7 [(5, .int y5)] → aw_G D cA base ad σ d s H locs → W p l e rm_X10_errors s m args below meth c H locs 1 6 (aw_Exi D cA base ad σ below args s 2 12 z) (F0 m 110 ls [])) {H : Heap} {locs : List Loc} {ls : Array Slot} (hl : lv_has ls 7 [(0, .ref (ad x0)), (3, .long x3), (5, .int x5), (6, .int x6)]) (G : aw_G D cA base ad σ d s H locs) : W p l e rm_X10_errors s m args below meth c H locs 1 6 (aw_Exi D cA base ad σ below args s 2 12 z) (F0 m 66 ls []) := by
  have hx := X.1; have hb := X.2.1; have hml := X.2.2.1; have hown := X.2.2.2.1
  unfold f_X10_errors_B66 at hf
  refine lv_iload hx hb dX10_errors_66 (lv_at hl 3 rfl) ?_
  refine lv_aload_n hx hb dX10_errors_68 rfl (lv_at hl 0 rfl) ?_
  obtain ⟨hc_24, hf⟩ := aw_chk_some hf
  obtain ⟨q_25, hq_26, hf⟩ := aw_bind_some hf
  refine gf_X10_12 hx hb G hown hc_24 hq_26 dX10_errors_69 ?_
  obtain ⟨hc_27, hf⟩ := aw_chk_some hf
  refine gf_X10_112 hx hb G hown hc_27 dX10_errors_72 ?_
  refine lv_icmp_ge (tgt := 110) hx hb dX10_errors_75 (by decide) (fun hc => ?_) (fun hc => ?_)
  · have hf := aw_ite_t hc hf
    refine W.widen (k := 1) (n := 6) (Nat.le_of_ble_eq_true rfl) (Nat.le_of_ble_eq_true rfl) ?_
    exact hk66 _ _ hf _ _ _ (lv_sub hl [2] rfl) G
  · have hf := aw_ite_f hc hf
    refine lv_iload hx hb dX10_errors_78 (lv_at hl 2 rfl) ?_
    refine lv_aload_n hx hb dX10_errors_80 rfl (lv_at hl 0 rfl) ?_
    refine gf_X10_12 hx hb G hown hc_24 hq_26 dX10_errors_81 ?_
    obtain ⟨q_28, hq_29, hf⟩ := aw_bind_some hf
    refine gf_X10_212 hx hb G hown hc_27 hq_29 dX10_errors_84 ?_
    refine lv_iload hx hb dX10_errors_87 (lv_at hl 3 rfl) ?_
    obtain ⟨hc_30, hf⟩ := aw_chk_some hf
    refine aw_ial hx hb G hc_30 dX10_errors_89 ?_
    refine lv_aload_n hx hb dX10_errors_90 rfl (lv_at hl 0 rfl) ?_
    obtain ⟨q_31, hq_32, hf⟩ := aw_bind_some hf
    refine gf_X10_54 hx hb G hown hc_24 hq_32 dX10_errors_91 ?_
    refine lv_iload hx hb dX10_errors_94 (lv_at hl 3 rfl) ?_
    refine lv_lload_n hx hb dX10_errors_96 rfl (lv_at hl 1 rfl) ?_
    obtain ⟨hc_35, hf⟩ := aw_chk_some hf
    obtain ⟨z_33, hz_34, hf⟩ := aw_bind_some hf
    refine aw_VI (As := [.int x6, .long x3]) (rest := [.int (d.1 q_28 x6.toNatClampNeg), .int x5]) X G hl.1 cr_X10_265 (c_X7_placesWith l hz_34) ⟨rfl, rfl⟩ rfl rfl rfl (by decide) hc_35 rfl ⟨Nat.le_of_ble_eq_true rfl, Nat.le_of_ble_eq_true rfl⟩ (Nat.le_of_ble_eq_true rfl) dX10_errors_97 ⟨Nat.le_of_ble_eq_true rfl, Nat.le_of_ble_eq_true rfl⟩ (fun H locs G => ?_)
    refine lv_imul hx hb dX10_errors_100 ?_
    refine lv_iadd hx hb dX10_errors_101 ?_
    refine lv_istore (lv' := [(5, .int (x5 + ((d.1 q_28 x6.toNatClampNeg) * z_33.1))), (0, .ref (ad x0)), (3, .long x3), (6, .int x6)]) hx hb dX10_errors_102 hl (by decide) rfl (fun ls hl => ?_)
    refine lv_iinc (v := x6 + 1) (lv' := [(6, .int (x6 + 1)), (5, .int (x5 + ((d.1 q_28 x6.toNatClampNeg) * z_33.1))), (0, .ref (ad x0)), (3, .long x3)]) hx hb dX10_errors_104 hl (k := 3) rfl rfl (by decide) rfl (fun ls hl => ?_)
    refine lv_goto (tgt := 66) hx hb dX10_errors_107 (by decide) ?_
    refine W.widen (k := 1) (n := 6) (Nat.le_of_ble_eq_true rfl) (Nat.le_of_ble_eq_true rfl) ?_
    exact hkb66 _ _ _ hf _ _ _ (lv_sub hl [2, 3, 1, 0] rfl) G
theorem w_X10_errors_L66 {z : (Nat ⊕ Int32) × Dt} (X : aw_X p c cX10_errors 7 s RX10 m meth (some .int)) (XT : aw_XT l c) {k66 : Int32 → Dt → Option ((Nat ⊕ Int32) × Dt)} {x0 : Nat} {x3 : Int64} (n : Nat) {x5 : Int32} {x6 : Int32} {d : Dt} (hf : f_X10_errors_L66 σ n k66 x0 x3 x5 x6 d = some z) (hk66 : ∀ (y5 : Int32) (d : Dt), k66 y5 d = some z → ∀ (H : Heap) (locs : List Loc) (ls : Array Slot), lv_has ls 7 [(5, .int y5)] → aw_G D cA base ad σ d s H locs → W p l e rm_X10_errors s m args below meth c H locs 1 6 (aw_Exi D cA base ad σ below args s 2 12 z) (F0 m 110 ls [])) {H : Heap} {locs : List Loc} {ls : Array Slot} (hl : lv_has ls 7 [(0, .ref (ad x0)), (3, .long x3), (5, .int x5), (6, .int x6)]) (G : aw_G D cA base ad σ d s H locs) : W p l e rm_X10_errors s m args below meth c H locs 1 6 (aw_Exi D cA base ad σ below args s 2 12 z) (F0 m 66 ls []) := by
  induction n generalizing x5 x6 d H locs ls with
  | zero => exact absurd (show (none : Option ((Nat ⊕ Int32) × Dt)) = some z from hf) (by simp)
  | succ n ih => exact w_X10_errors_B66 X XT (kb66 := f_X10_errors_L66 σ n k66 x0 x3) hf  (fun x5 x6 d hf H locs ls hl G => ih hf hl G) hk66 hl G
end W_X10_errors
set_option maxHeartbeats 4000000 in
set_option maxRecDepth 100000 in
theorem c_X10_errors (l : Launch) (hst : l.stackTraces = false) {σ : Sg} {x0 : Nat} {x1 : Int32} {x2 : Int32} {d : Dt} {z : (Nat ⊕ Int32) × Dt} (hf : f_X10_errors σ x0 x1 x2 d = some z) : aw_Xi l yX10_errors (Cond.code yX10_errors cX10_errors 7 (some .int)) rm_X10_errors (fun ad => [.ref (ad x0), .int x1, .int x2]) σ d z := by
  intro D cA base ad
  refine aw_ofX (own := RX10) (cc := cX10_errors) (nL := 7) (ret := some .int) hst (by decide) rfl rfl ?_
  intro p e s m below meth c X XT G
  have hx := X.1; have hb := X.2.1; have hml := X.2.2.1; have hown := X.2.2.2.1
  refine aw_ls (lv := [(0, .ref (ad x0)), (1, .int x1), (2, .int x2)]) (Nat.le_of_ble_eq_true rfl) rfl (fun ls hl => ?_)
  unfold f_X10_errors at hf
  refine lv_aload_n hx hb dX10_errors_0 rfl (lv_at hl 0 rfl) ?_
  refine lv_iload_n hx hb dX10_errors_1 rfl (lv_at hl 1 rfl) ?_
  obtain ⟨hc_3, hf⟩ := aw_chk_some hf
  obtain ⟨z_1, hz_2, hf⟩ := aw_bind_some hf
  refine aw_XVV (As := [.int x1]) (rest := []) X XT G hl.1 cr_X10_176 (c_X10_requireDesign l XT.1 hz_2) rfl rfl rfl (by decide) hc_3 rfl ⟨Nat.le_of_ble_eq_true rfl, Nat.le_of_ble_eq_true rfl⟩ (Nat.le_of_ble_eq_true rfl) dX10_errors_2 ⟨Nat.le_of_ble_eq_true rfl, Nat.le_of_ble_eq_true rfl⟩ hf (Nat.le_of_ble_eq_true rfl) (Nat.le_of_ble_eq_true rfl) (fun H locs G hf => ?_)
  refine lv_iload_n hx hb dX10_errors_5 rfl (lv_at hl 2 rfl) ?_
  refine lv_if_lt (tgt := 14) hx hb dX10_errors_6 (by decide) (fun hc => ?_) (fun hc => ?_)
  · have hf := aw_ite_t hc hf
    refine W.widen (k := 1) (n := 6) (Nat.le_of_ble_eq_true rfl) (Nat.le_of_ble_eq_true rfl) ?_
    exact w_X10_errors_J14 X XT hf  (lv_sub hl [] rfl) G
  · have hf := aw_ite_f hc hf
    refine lv_iload_n hx hb dX10_errors_9 rfl (lv_at hl 2 rfl) ?_
    refine lv_iconst (v := (4 : Int32)) hx hb dX10_errors_10 (by decide) ?_
    refine lv_icmp_le (tgt := 25) hx hb dX10_errors_11 (by decide) (fun hc => ?_) (fun hc => ?_)
    · have hf := aw_ite_t hc hf
      refine lv_aload_n hx hb dX10_errors_25 rfl (lv_at hl 0 rfl) ?_
      refine lv_aload_n hx hb dX10_errors_26 rfl (lv_at hl 0 rfl) ?_
      obtain ⟨q_4, hq_5, hf⟩ := aw_bind_some hf
      refine gf_X10_29 hx hb G hown hc_3 hq_5 dX10_errors_27 ?_
      refine lv_iload_n hx hb dX10_errors_30 rfl (lv_at hl 1 rfl) ?_
      obtain ⟨hc_6, hf⟩ := aw_chk_some hf
      obtain ⟨q_7, hq_8, hf⟩ := aw_bind_some hf
      refine aw_qal hx hb G 26 _ rfl rfl (by decide) hc_6 hq_8 dX10_errors_31 ?_
      obtain ⟨z_9, hz_10, hf⟩ := aw_bind_some hf
      refine aw_VV (As := [.ref (ad q_7)]) (rest := []) X G hl.1 cr_X10_203 (c_X10_spellAll l hz_10) ⟨rfl, rfl⟩ rfl rfl rfl (by decide) hc_3 rfl ⟨Nat.le_of_ble_eq_true rfl, Nat.le_of_ble_eq_true rfl⟩ (Nat.le_of_ble_eq_true rfl) dX10_errors_32 ⟨Nat.le_of_ble_eq_true rfl, Nat.le_of_ble_eq_true rfl⟩ (fun H locs G => ?_)
      refine lv_aload_n hx hb dX10_errors_35 rfl (lv_at hl 0 rfl) ?_
      obtain ⟨q_11, hq_12, hf⟩ := aw_bind_some hf
      refine gf_X10_40 hx hb G hown hc_3 hq_12 dX10_errors_36 ?_
      refine lv_aload_n hx hb dX10_errors_39 rfl (lv_at hl 0 rfl) ?_
      obtain ⟨q_13, hq_14, hf⟩ := aw_bind_some hf
      refine gf_X10_54 hx hb G hown hc_3 hq_14 dX10_errors_40 ?_
      obtain ⟨hc_17, hf⟩ := aw_chk_some hf
      obtain ⟨z_15, hz_16, hf⟩ := aw_bind_some hf
      refine aw_VL (As := []) (rest := [.ref (ad q_11)]) X G hl.1 cr_X10_258 (c_X7_signsInUse l hz_16) ⟨rfl, rfl⟩ rfl rfl rfl (by decide) hc_17 rfl ⟨Nat.le_of_ble_eq_true rfl, Nat.le_of_ble_eq_true rfl⟩ (Nat.le_of_ble_eq_true rfl) dX10_errors_43 ⟨Nat.le_of_ble_eq_true rfl, Nat.le_of_ble_eq_true rfl⟩ (fun H locs G => ?_)
      refine lv_aload_n hx hb dX10_errors_46 rfl (lv_at hl 0 rfl) ?_
      refine gf_X10_29 hx hb G hown hc_3 hq_5 dX10_errors_47 ?_
      refine lv_iload_n hx hb dX10_errors_50 rfl (lv_at hl 1 rfl) ?_
      refine aw_qal hx hb G 26 _ rfl rfl (by decide) hc_6 hq_8 dX10_errors_51 ?_
      obtain ⟨hc_20, hf⟩ := aw_chk_some hf
      obtain ⟨z_18, hz_19, hf⟩ := aw_bind_some hf
      refine aw_VL (As := []) (rest := [.long z_15.1, .ref (ad q_11)]) X G hl.1 cr_X10_248 (c_X1_signSet l hz_19) ⟨rfl, rfl⟩ rfl rfl rfl (by decide) hc_20 rfl ⟨Nat.le_of_ble_eq_true rfl, Nat.le_of_ble_eq_true rfl⟩ (Nat.le_of_ble_eq_true rfl) dX10_errors_52 ⟨Nat.le_of_ble_eq_true rfl, Nat.le_of_ble_eq_true rfl⟩ (fun H locs G => ?_)
      refine lv_iload_n hx hb dX10_errors_55 rfl (lv_at hl 2 rfl) ?_
      obtain ⟨hc_23, hf⟩ := aw_chk_some hf
      obtain ⟨z_21, hz_22, hf⟩ := aw_bind_some hf
      refine aw_VL (As := [.long z_15.1, .long z_18.1, .int x2]) (rest := []) X G hl.1 cr_X10_261 (c_X6_mistaken l hz_22) ⟨rfl, rfl⟩ rfl rfl rfl (by decide) hc_23 rfl ⟨Nat.le_of_ble_eq_true rfl, Nat.le_of_ble_eq_true rfl⟩ (Nat.le_of_ble_eq_true rfl) dX10_errors_56 ⟨Nat.le_of_ble_eq_true rfl, Nat.le_of_ble_eq_true rfl⟩ (fun H locs G => ?_)
      refine lv_lstore_n (lv' := [(3, .long z_21.1), (0, .ref (ad x0)), (1, .int x1), (2, .int x2)]) hx hb dX10_errors_59 rfl hl (by decide) rfl (fun ls hl => ?_)
      refine lv_iconst (v := (0 : Int32)) hx hb dX10_errors_60 (by decide) ?_
      refine lv_istore (lv' := [(5, .int ((0 : Int32))), (3, .long z_21.1), (0, .ref (ad x0)), (1, .int x1), (2, .int x2)]) hx hb dX10_errors_61 hl (by decide) rfl (fun ls hl => ?_)
      refine lv_iconst (v := (0 : Int32)) hx hb dX10_errors_63 (by decide) ?_
      refine lv_istore (lv' := [(6, .int ((0 : Int32))), (5, .int ((0 : Int32))), (3, .long z_21.1), (0, .ref (ad x0)), (1, .int x1), (2, .int x2)]) hx hb dX10_errors_64 hl (by decide) rfl (fun ls hl => ?_)
      refine W.widen (k := 1) (n := 6) (Nat.le_of_ble_eq_true rfl) (Nat.le_of_ble_eq_true rfl) ?_
      refine w_X10_errors_L66 X XT aw_FU hf  (fun x5_36 d_37 hf H locs ls hl G => ?_) (lv_sub hl [3, 2, 1, 0] rfl) G
      refine lv_iload hx hb dX10_errors_110 (lv_at hl 0 rfl) ?_
      exact aw_xreti X G hf dX10_errors_112 (Nat.le_of_ble_eq_true rfl) (Nat.le_of_ble_eq_true rfl)
    · have hf := aw_ite_f hc hf
      refine W.widen (k := 1) (n := 6) (Nat.le_of_ble_eq_true rfl) (Nat.le_of_ble_eq_true rfl) ?_
      exact w_X10_errors_J14 X XT hf  (lv_sub hl [] rfl) G
def rm_X10_fit : Room := { frames := 7, cells := 2, slots := 12, locals := 111 }
def f_X10_fit (σ : Sg) (x0 : Nat) (x1 : Int32) (x2 : Int32) (d : Dt) : Option ((Nat ⊕ Int32) × Dt) :=
  aw_chk (aw_O σ 10 13 x0) ((f_X10_requireDesign σ x0 x1 d).bind (fun z_1 => aw_th z_1 (fun _ => (f_X10_requireDialect σ x0 x2 z_1.2).bind (fun z_4 => aw_th z_4 (fun _ => (σ.2.2 x0 3).bind (fun q_6 => aw_chk (aw_I σ 26 q_6 x1) ((σ.2.2 q_6 x1.toNatClampNeg).bind (fun q_9 => (f_X10_spellAll σ x0 q_9 z_4.2).bind (fun z_11 => (f_X10_fitOfSpelled σ x0 q_9 x2 z_11.2).bind (fun z_13 => some (Sum.inr z_13.1, z_13.2)))))))))))
section W_X10_fit
variable {p : Program} {l : Launch} {e : Env} {s : State} {m : MethodId} {args : Array Value} {below : List Frame} {meth : Method} {c : Code}
variable {D : va_G} {cA : Nat → ClassId} {base : Nat} {ad : Nat → Nat} {σ : Sg}
end W_X10_fit
set_option maxHeartbeats 4000000 in
set_option maxRecDepth 100000 in
theorem c_X10_fit (l : Launch) (hst : l.stackTraces = false) {σ : Sg} {x0 : Nat} {x1 : Int32} {x2 : Int32} {d : Dt} {z : (Nat ⊕ Int32) × Dt} (hf : f_X10_fit σ x0 x1 x2 d = some z) : aw_Xi l yX10_fit (Cond.code yX10_fit cX10_fit 3 (some .int)) rm_X10_fit (fun ad => [.ref (ad x0), .int x1, .int x2]) σ d z := by
  intro D cA base ad
  refine aw_ofX (own := RX10) (cc := cX10_fit) (nL := 3) (ret := some .int) hst (by decide) rfl rfl ?_
  intro p e s m below meth c X XT G
  have hx := X.1; have hb := X.2.1; have hml := X.2.2.1; have hown := X.2.2.2.1
  refine aw_ls (lv := [(0, .ref (ad x0)), (1, .int x1), (2, .int x2)]) (Nat.le_of_ble_eq_true rfl) rfl (fun ls hl => ?_)
  unfold f_X10_fit at hf
  refine lv_aload_n hx hb dX10_fit_0 rfl (lv_at hl 0 rfl) ?_
  refine lv_iload_n hx hb dX10_fit_1 rfl (lv_at hl 1 rfl) ?_
  obtain ⟨hc_3, hf⟩ := aw_chk_some hf
  obtain ⟨z_1, hz_2, hf⟩ := aw_bind_some hf
  refine aw_XVV (As := [.int x1]) (rest := []) X XT G hl.1 cr_X10_176 (c_X10_requireDesign l XT.1 hz_2) rfl rfl rfl (by decide) hc_3 rfl ⟨Nat.le_of_ble_eq_true rfl, Nat.le_of_ble_eq_true rfl⟩ (Nat.le_of_ble_eq_true rfl) dX10_fit_2 ⟨Nat.le_of_ble_eq_true rfl, Nat.le_of_ble_eq_true rfl⟩ hf (Nat.le_of_ble_eq_true rfl) (Nat.le_of_ble_eq_true rfl) (fun H locs G hf => ?_)
  refine lv_aload_n hx hb dX10_fit_5 rfl (lv_at hl 0 rfl) ?_
  refine lv_iload_n hx hb dX10_fit_6 rfl (lv_at hl 2 rfl) ?_
  obtain ⟨z_4, hz_5, hf⟩ := aw_bind_some hf
  refine aw_XVV (As := [.int x2]) (rest := []) X XT G hl.1 cr_X10_128 (c_X10_requireDialect l XT.1 hz_5) rfl rfl rfl (by decide) hc_3 rfl ⟨Nat.le_of_ble_eq_true rfl, Nat.le_of_ble_eq_true rfl⟩ (Nat.le_of_ble_eq_true rfl) dX10_fit_7 ⟨Nat.le_of_ble_eq_true rfl, Nat.le_of_ble_eq_true rfl⟩ hf (Nat.le_of_ble_eq_true rfl) (Nat.le_of_ble_eq_true rfl) (fun H locs G hf => ?_)
  refine lv_aload_n hx hb dX10_fit_10 rfl (lv_at hl 0 rfl) ?_
  refine lv_aload_n hx hb dX10_fit_11 rfl (lv_at hl 0 rfl) ?_
  obtain ⟨q_6, hq_7, hf⟩ := aw_bind_some hf
  refine gf_X10_29 hx hb G hown hc_3 hq_7 dX10_fit_12 ?_
  refine lv_iload_n hx hb dX10_fit_15 rfl (lv_at hl 1 rfl) ?_
  obtain ⟨hc_8, hf⟩ := aw_chk_some hf
  obtain ⟨q_9, hq_10, hf⟩ := aw_bind_some hf
  refine aw_qal hx hb G 26 _ rfl rfl (by decide) hc_8 hq_10 dX10_fit_16 ?_
  obtain ⟨z_11, hz_12, hf⟩ := aw_bind_some hf
  refine aw_VV (As := [.ref (ad q_9)]) (rest := []) X G hl.1 cr_X10_203 (c_X10_spellAll l hz_12) ⟨rfl, rfl⟩ rfl rfl rfl (by decide) hc_3 rfl ⟨Nat.le_of_ble_eq_true rfl, Nat.le_of_ble_eq_true rfl⟩ (Nat.le_of_ble_eq_true rfl) dX10_fit_17 ⟨Nat.le_of_ble_eq_true rfl, Nat.le_of_ble_eq_true rfl⟩ (fun H locs G => ?_)
  refine lv_aload_n hx hb dX10_fit_20 rfl (lv_at hl 0 rfl) ?_
  refine lv_aload_n hx hb dX10_fit_21 rfl (lv_at hl 0 rfl) ?_
  refine gf_X10_29 hx hb G hown hc_3 hq_7 dX10_fit_22 ?_
  refine lv_iload_n hx hb dX10_fit_25 rfl (lv_at hl 1 rfl) ?_
  refine aw_qal hx hb G 26 _ rfl rfl (by decide) hc_8 hq_10 dX10_fit_26 ?_
  refine lv_iload_n hx hb dX10_fit_27 rfl (lv_at hl 2 rfl) ?_
  obtain ⟨z_13, hz_14, hf⟩ := aw_bind_some hf
  refine aw_VI (As := [.ref (ad q_9), .int x2]) (rest := []) X G hl.1 cr_X10_226 (c_X10_fitOfSpelled l hz_14) ⟨rfl, rfl⟩ rfl rfl rfl (by decide) hc_3 rfl ⟨Nat.le_of_ble_eq_true rfl, Nat.le_of_ble_eq_true rfl⟩ (Nat.le_of_ble_eq_true rfl) dX10_fit_28 ⟨Nat.le_of_ble_eq_true rfl, Nat.le_of_ble_eq_true rfl⟩ (fun H locs G => ?_)
  exact aw_xreti X G hf dX10_fit_31 (Nat.le_of_ble_eq_true rfl) (Nat.le_of_ble_eq_true rfl)
def rm_X10_requireGroup : Room := { frames := 6, cells := 1, slots := 6, locals := 90 }
def f_X10_requireGroup_J9 (σ : Sg)  (d : Dt) : Option ((Nat ⊕ Unit) × Dt) :=
  some (Sum.inl 1, d)
def f_X10_requireGroup (σ : Sg) (x0 : Nat) (x1 : Int32) (d : Dt) : Option ((Nat ⊕ Unit) × Dt) :=
  if x1 < 0 then f_X10_requireGroup_J9 σ d else if x1 < ((4 : Int32)) then some (Sum.inr (), d) else f_X10_requireGroup_J9 σ d
section W_X10_requireGroup
variable {p : Program} {l : Launch} {e : Env} {s : State} {m : MethodId} {args : Array Value} {below : List Frame} {meth : Method} {c : Code}
variable {D : va_G} {cA : Nat → ClassId} {base : Nat} {ad : Nat → Nat} {σ : Sg}
set_option maxHeartbeats 4000000 in
set_option maxRecDepth 100000 in
theorem w_X10_requireGroup_J9 {z : (Nat ⊕ Unit) × Dt} (X : aw_X p c cX10_requireGroup 2 s RX10 m meth (none)) (XT : aw_XT l c)  {d : Dt} (hf : f_X10_requireGroup_J9 σ d = some z)  {H : Heap} {locs : List Loc} {ls : Array Slot} (hl : lv_has ls 2 []) (G : aw_G D cA base ad σ d s H locs) : W p l e rm_X10_requireGroup s m args below meth c H locs 0 0 (aw_Exv D cA base ad σ below args s 1 6 z) (F0 m 9 ls []) := by
  have hx := X.1; have hb := X.2.1; have hml := X.2.2.1; have hown := X.2.2.2.1
  unfold f_X10_requireGroup_J9 at hf
  exact aw_throwW X XT G hl.1 1 hf tw_X10_132_136 "no such group" (by decide +kernel) dX10_requireGroup_9 dX10_requireGroup_12 dX10_requireGroup_13 dX10_requireGroup_16 dX10_requireGroup_19 ⟨Nat.le_of_ble_eq_true rfl, Nat.le_of_ble_eq_true rfl, Nat.le_of_ble_eq_true rfl, Nat.le_of_ble_eq_true rfl⟩ (Nat.le_of_ble_eq_true rfl) (Nat.le_of_ble_eq_true rfl)
end W_X10_requireGroup
set_option maxHeartbeats 4000000 in
set_option maxRecDepth 100000 in
theorem c_X10_requireGroup (l : Launch) (hst : l.stackTraces = false) {σ : Sg} {x0 : Nat} {x1 : Int32} {d : Dt} {z : (Nat ⊕ Unit) × Dt} (hf : f_X10_requireGroup σ x0 x1 d = some z) : aw_Xv l yX10_requireGroup (Cond.code yX10_requireGroup cX10_requireGroup 2 (none)) rm_X10_requireGroup (fun ad => [.ref (ad x0), .int x1]) σ d z := by
  intro D cA base ad
  refine aw_ofX (own := RX10) (cc := cX10_requireGroup) (nL := 2) (ret := none) hst (by decide) rfl rfl ?_
  intro p e s m below meth c X XT G
  have hx := X.1; have hb := X.2.1; have hml := X.2.2.1; have hown := X.2.2.2.1
  refine aw_ls (lv := [(0, .ref (ad x0)), (1, .int x1)]) (Nat.le_of_ble_eq_true rfl) rfl (fun ls hl => ?_)
  unfold f_X10_requireGroup at hf
  refine lv_iload_n hx hb dX10_requireGroup_0 rfl (lv_at hl 1 rfl) ?_
  refine lv_if_lt (tgt := 9) hx hb dX10_requireGroup_1 (by decide) (fun hc => ?_) (fun hc => ?_)
  · have hf := aw_ite_t hc hf
    exact w_X10_requireGroup_J9 X XT hf  (lv_sub hl [] rfl) G
  · have hf := aw_ite_f hc hf
    refine lv_iload_n hx hb dX10_requireGroup_4 rfl (lv_at hl 1 rfl) ?_
    refine lv_iconst (v := (4 : Int32)) hx hb dX10_requireGroup_5 (by decide) ?_
    refine lv_icmp_lt (tgt := 20) hx hb dX10_requireGroup_6 (by decide) (fun hc => ?_) (fun hc => ?_)
    · have hf := aw_ite_t hc hf
      exact aw_xretv X G hf dX10_requireGroup_20 (Nat.le_of_ble_eq_true rfl) (Nat.le_of_ble_eq_true rfl)
    · have hf := aw_ite_f hc hf
      exact w_X10_requireGroup_J9 X XT hf  (lv_sub hl [] rfl) G
def rm_X10_group : Room := { frames := 7, cells := 3, slots := 18, locals := 111 }
def f_X10_group_J22 (σ : Sg)  (d : Dt) : Option ((Nat ⊕ Int32) × Dt) :=
  some (Sum.inl 2, d)
def f_X10_group_J44 (σ : Sg)  (d : Dt) : Option ((Nat ⊕ Int32) × Dt) :=
  some (Sum.inl 2, d)
def f_X10_group (σ : Sg) (x0 : Nat) (x1 : Int32) (x2 : Int32) (x3 : Int32) (x4 : Int32) (d : Dt) : Option ((Nat ⊕ Int32) × Dt) :=
  aw_chk (aw_O σ 10 13 x0) ((f_X10_requireGroup σ x0 x1 d).bind (fun z_1 => aw_th z_1 (fun _ => (f_X10_requireDialect σ x0 x4 z_1.2).bind (fun z_4 => aw_th z_4 (fun _ => if x2 < 0 then f_X10_group_J22 σ z_4.2 else if x2 ≤ ((999 : Int32)) then if x3 < 0 then f_X10_group_J44 σ z_4.2 else if x3 ≤ ((999 : Int32)) then (σ.2.2 x0 6).bind (fun q_6 => aw_chk (aw_O σ 0 7 q_6) ((σ.2.2 q_6 0).bind (fun q_9 => aw_chk (aw_I σ 20 q_9 x1) ((σ.2.2 q_6 1).bind (fun q_12 => aw_chk (aw_I σ 20 q_12 x1) ((σ.2.2 q_6 2).bind (fun q_15 => aw_chk (aw_I σ 20 q_15 x1) (some (Sum.inr (z_4.2.1 q_9 x1.toNatClampNeg), aw_sI (aw_sI (aw_sI z_4.2 q_9 x1.toNatClampNeg x2) q_12 x1.toNatClampNeg x3) q_15 x1.toNatClampNeg x4))))))))) else f_X10_group_J44 σ z_4.2 else f_X10_group_J22 σ z_4.2)))))
section W_X10_group
variable {p : Program} {l : Launch} {e : Env} {s : State} {m : MethodId} {args : Array Value} {below : List Frame} {meth : Method} {c : Code}
variable {D : va_G} {cA : Nat → ClassId} {base : Nat} {ad : Nat → Nat} {σ : Sg}
set_option maxHeartbeats 4000000 in
set_option maxRecDepth 100000 in
theorem w_X10_group_J22 {z : (Nat ⊕ Int32) × Dt} (X : aw_X p c cX10_group 6 s RX10 m meth (some .int)) (XT : aw_XT l c)  {d : Dt} (hf : f_X10_group_J22 σ d = some z)  {H : Heap} {locs : List Loc} {ls : Array Slot} (hl : lv_has ls 6 []) (G : aw_G D cA base ad σ d s H locs) : W p l e rm_X10_group s m args below meth c H locs 2 12 (aw_Exi D cA base ad σ below args s 3 18 z) (F0 m 22 ls []) := by
  have hx := X.1; have hb := X.2.1; have hml := X.2.2.1; have hown := X.2.2.2.1
  unfold f_X10_group_J22 at hf
  exact aw_throwW X XT G hl.1 2 hf tw_X10_89_93 "people are not from 0 to 999" (by decide +kernel) dX10_group_22 dX10_group_25 dX10_group_26 dX10_group_29 dX10_group_32 ⟨Nat.le_of_ble_eq_true rfl, Nat.le_of_ble_eq_true rfl, Nat.le_of_ble_eq_true rfl, Nat.le_of_ble_eq_true rfl⟩ (Nat.le_of_ble_eq_true rfl) (Nat.le_of_ble_eq_true rfl)
set_option maxHeartbeats 4000000 in
set_option maxRecDepth 100000 in
theorem w_X10_group_J44 {z : (Nat ⊕ Int32) × Dt} (X : aw_X p c cX10_group 6 s RX10 m meth (some .int)) (XT : aw_XT l c)  {d : Dt} (hf : f_X10_group_J44 σ d = some z)  {H : Heap} {locs : List Loc} {ls : Array Slot} (hl : lv_has ls 6 []) (G : aw_G D cA base ad σ d s H locs) : W p l e rm_X10_group s m args below meth c H locs 2 12 (aw_Exi D cA base ad σ below args s 3 18 z) (F0 m 44 ls []) := by
  have hx := X.1; have hb := X.2.1; have hml := X.2.2.1; have hown := X.2.2.2.1
  unfold f_X10_group_J44 at hf
  exact aw_throwW X XT G hl.1 2 hf tw_X10_89_93 "worths are not from 0 to 999" (by decide +kernel) dX10_group_44 dX10_group_47 dX10_group_48 dX10_group_51 dX10_group_54 ⟨Nat.le_of_ble_eq_true rfl, Nat.le_of_ble_eq_true rfl, Nat.le_of_ble_eq_true rfl, Nat.le_of_ble_eq_true rfl⟩ (Nat.le_of_ble_eq_true rfl) (Nat.le_of_ble_eq_true rfl)
end W_X10_group
set_option maxHeartbeats 4000000 in
set_option maxRecDepth 100000 in
theorem c_X10_group (l : Launch) (hst : l.stackTraces = false) {σ : Sg} {x0 : Nat} {x1 : Int32} {x2 : Int32} {x3 : Int32} {x4 : Int32} {d : Dt} {z : (Nat ⊕ Int32) × Dt} (hf : f_X10_group σ x0 x1 x2 x3 x4 d = some z) : aw_Xi l yX10_group (Cond.code yX10_group cX10_group 6 (some .int)) rm_X10_group (fun ad => [.ref (ad x0), .int x1, .int x2, .int x3, .int x4]) σ d z := by
  intro D cA base ad
  refine aw_ofX (own := RX10) (cc := cX10_group) (nL := 6) (ret := some .int) hst (by decide) rfl rfl ?_
  intro p e s m below meth c X XT G
  have hx := X.1; have hb := X.2.1; have hml := X.2.2.1; have hown := X.2.2.2.1
  refine aw_ls (lv := [(0, .ref (ad x0)), (1, .int x1), (2, .int x2), (3, .int x3), (4, .int x4)]) (Nat.le_of_ble_eq_true rfl) rfl (fun ls hl => ?_)
  unfold f_X10_group at hf
  refine lv_aload_n hx hb dX10_group_0 rfl (lv_at hl 0 rfl) ?_
  refine lv_iload_n hx hb dX10_group_1 rfl (lv_at hl 1 rfl) ?_
  obtain ⟨hc_3, hf⟩ := aw_chk_some hf
  obtain ⟨z_1, hz_2, hf⟩ := aw_bind_some hf
  refine aw_XVV (As := [.int x1]) (rest := []) X XT G hl.1 cr_X10_317 (c_X10_requireGroup l XT.1 hz_2) rfl rfl rfl (by decide) hc_3 rfl ⟨Nat.le_of_ble_eq_true rfl, Nat.le_of_ble_eq_true rfl⟩ (Nat.le_of_ble_eq_true rfl) dX10_group_2 ⟨Nat.le_of_ble_eq_true rfl, Nat.le_of_ble_eq_true rfl⟩ hf (Nat.le_of_ble_eq_true rfl) (Nat.le_of_ble_eq_true rfl) (fun H locs G hf => ?_)
  refine lv_aload_n hx hb dX10_group_5 rfl (lv_at hl 0 rfl) ?_
  refine lv_iload hx hb dX10_group_6 (lv_at hl 4 rfl) ?_
  obtain ⟨z_4, hz_5, hf⟩ := aw_bind_some hf
  refine aw_XVV (As := [.int x4]) (rest := []) X XT G hl.1 cr_X10_128 (c_X10_requireDialect l XT.1 hz_5) rfl rfl rfl (by decide) hc_3 rfl ⟨Nat.le_of_ble_eq_true rfl, Nat.le_of_ble_eq_true rfl⟩ (Nat.le_of_ble_eq_true rfl) dX10_group_8 ⟨Nat.le_of_ble_eq_true rfl, Nat.le_of_ble_eq_true rfl⟩ hf (Nat.le_of_ble_eq_true rfl) (Nat.le_of_ble_eq_true rfl) (fun H locs G hf => ?_)
  refine lv_iload_n hx hb dX10_group_11 rfl (lv_at hl 2 rfl) ?_
  refine lv_if_lt (tgt := 22) hx hb dX10_group_12 (by decide) (fun hc => ?_) (fun hc => ?_)
  · have hf := aw_ite_t hc hf
    refine W.widen (k := 2) (n := 12) (Nat.le_of_ble_eq_true rfl) (Nat.le_of_ble_eq_true rfl) ?_
    exact w_X10_group_J22 X XT hf  (lv_sub hl [] rfl) G
  · have hf := aw_ite_f hc hf
    refine lv_iload_n hx hb dX10_group_15 rfl (lv_at hl 2 rfl) ?_
    refine lv_sipush (v := (999 : Int32)) hx hb dX10_group_16 (by decide) ?_
    refine lv_icmp_le (tgt := 33) hx hb dX10_group_19 (by decide) (fun hc => ?_) (fun hc => ?_)
    · have hf := aw_ite_t hc hf
      refine lv_iload_n hx hb dX10_group_33 rfl (lv_at hl 3 rfl) ?_
      refine lv_if_lt (tgt := 44) hx hb dX10_group_34 (by decide) (fun hc => ?_) (fun hc => ?_)
      · have hf := aw_ite_t hc hf
        refine W.widen (k := 2) (n := 12) (Nat.le_of_ble_eq_true rfl) (Nat.le_of_ble_eq_true rfl) ?_
        exact w_X10_group_J44 X XT hf  (lv_sub hl [] rfl) G
      · have hf := aw_ite_f hc hf
        refine lv_iload_n hx hb dX10_group_37 rfl (lv_at hl 3 rfl) ?_
        refine lv_sipush (v := (999 : Int32)) hx hb dX10_group_38 (by decide) ?_
        refine lv_icmp_le (tgt := 55) hx hb dX10_group_41 (by decide) (fun hc => ?_) (fun hc => ?_)
        · have hf := aw_ite_t hc hf
          refine lv_aload_n hx hb dX10_group_55 rfl (lv_at hl 0 rfl) ?_
          obtain ⟨q_6, hq_7, hf⟩ := aw_bind_some hf
          refine gf_X10_47 hx hb G hown hc_3 hq_7 dX10_group_56 ?_
          obtain ⟨hc_8, hf⟩ := aw_chk_some hf
          obtain ⟨q_9, hq_10, hf⟩ := aw_bind_some hf
          refine gf_X10_324 hx hb G hown hc_8 hq_10 dX10_group_59 ?_
          refine lv_iload_n hx hb dX10_group_62 rfl (lv_at hl 1 rfl) ?_
          obtain ⟨hc_11, hf⟩ := aw_chk_some hf
          refine aw_ial hx hb G hc_11 dX10_group_63 ?_
          refine lv_istore (lv' := [(5, .int (z_4.2.1 q_9 x1.toNatClampNeg)), (0, .ref (ad x0)), (1, .int x1), (2, .int x2), (3, .int x3), (4, .int x4)]) hx hb dX10_group_64 hl (by decide) rfl (fun ls hl => ?_)
          refine lv_aload_n hx hb dX10_group_66 rfl (lv_at hl 1 rfl) ?_
          refine gf_X10_47 hx hb G hown hc_3 hq_7 dX10_group_67 ?_
          refine gf_X10_324 hx hb G hown hc_8 hq_10 dX10_group_70 ?_
          refine lv_iload_n hx hb dX10_group_73 rfl (lv_at hl 2 rfl) ?_
          refine lv_iload_n hx hb dX10_group_74 rfl (lv_at hl 3 rfl) ?_
          refine aw_ias hx hb G hc_11 dX10_group_75 (fun H locs G => ?_)
          refine lv_aload_n hx hb dX10_group_76 rfl (lv_at hl 1 rfl) ?_
          refine gf_X10_47 hx hb G hown hc_3 hq_7 dX10_group_77 ?_
          obtain ⟨q_12, hq_13, hf⟩ := aw_bind_some hf
          refine gf_X10_327 hx hb G hown hc_8 hq_13 dX10_group_80 ?_
          refine lv_iload_n hx hb dX10_group_83 rfl (lv_at hl 2 rfl) ?_
          refine lv_iload_n hx hb dX10_group_84 rfl (lv_at hl 4 rfl) ?_
          obtain ⟨hc_14, hf⟩ := aw_chk_some hf
          refine aw_ias hx hb G hc_14 dX10_group_85 (fun H locs G => ?_)
          refine lv_aload_n hx hb dX10_group_86 rfl (lv_at hl 1 rfl) ?_
          refine gf_X10_47 hx hb G hown hc_3 hq_7 dX10_group_87 ?_
          obtain ⟨q_15, hq_16, hf⟩ := aw_bind_some hf
          refine gf_X10_330 hx hb G hown hc_8 hq_16 dX10_group_90 ?_
          refine lv_iload_n hx hb dX10_group_93 rfl (lv_at hl 2 rfl) ?_
          refine lv_iload hx hb dX10_group_94 (lv_at hl 5 rfl) ?_
          obtain ⟨hc_17, hf⟩ := aw_chk_some hf
          refine aw_ias hx hb G hc_17 dX10_group_96 (fun H locs G => ?_)
          refine lv_iload hx hb dX10_group_97 (lv_at hl 0 rfl) ?_
          exact aw_xreti X G hf dX10_group_99 (Nat.le_of_ble_eq_true rfl) (Nat.le_of_ble_eq_true rfl)
        · have hf := aw_ite_f hc hf
          refine W.widen (k := 2) (n := 12) (Nat.le_of_ble_eq_true rfl) (Nat.le_of_ble_eq_true rfl) ?_
          exact w_X10_group_J44 X XT hf  (lv_sub hl [] rfl) G
    · have hf := aw_ite_f hc hf
      refine W.widen (k := 2) (n := 12) (Nat.le_of_ble_eq_true rfl) (Nat.le_of_ble_eq_true rfl) ?_
      exact w_X10_group_J22 X XT hf  (lv_sub hl [] rfl) G
def rm_X10_key : Room := { frames := 7, cells := 3, slots := 18, locals := 111 }
def f_X10_key_J20 (σ : Sg)  (d : Dt) : Option ((Nat ⊕ Int32) × Dt) :=
  some (Sum.inl 1, d)
def f_X10_key (σ : Sg) (x0 : Nat) (x1 : Int32) (x2 : Int32) (x3 : Int32) (d : Dt) : Option ((Nat ⊕ Int32) × Dt) :=
  aw_chk (aw_O σ 10 13 x0) ((f_X10_requireDesign σ x0 x1 d).bind (fun z_1 => aw_th z_1 (fun _ => (f_X10_requireSign σ x0 x2 z_1.2).bind (fun z_4 => aw_th z_4 (fun _ => if x3 < 0 then f_X10_key_J20 σ z_4.2 else if x3 < ((50 : Int32)) then (σ.2.2 x0 3).bind (fun q_6 => aw_chk (aw_I σ 26 q_6 x1) ((σ.2.2 q_6 x1.toNatClampNeg).bind (fun q_9 => aw_chk (aw_O σ 1 5 q_9) ((f_X1_putOnKey σ q_9 x2 x3 z_4.2).bind (fun z_11 => some (Sum.inr z_11.1, z_11.2)))))) else f_X10_key_J20 σ z_4.2)))))
section W_X10_key
variable {p : Program} {l : Launch} {e : Env} {s : State} {m : MethodId} {args : Array Value} {below : List Frame} {meth : Method} {c : Code}
variable {D : va_G} {cA : Nat → ClassId} {base : Nat} {ad : Nat → Nat} {σ : Sg}
set_option maxHeartbeats 4000000 in
set_option maxRecDepth 100000 in
theorem w_X10_key_J20 {z : (Nat ⊕ Int32) × Dt} (X : aw_X p c cX10_key 4 s RX10 m meth (some .int)) (XT : aw_XT l c)  {d : Dt} (hf : f_X10_key_J20 σ d = some z)  {H : Heap} {locs : List Loc} {ls : Array Slot} (hl : lv_has ls 4 []) (G : aw_G D cA base ad σ d s H locs) : W p l e rm_X10_key s m args below meth c H locs 2 12 (aw_Exi D cA base ad σ below args s 3 18 z) (F0 m 20 ls []) := by
  have hx := X.1; have hb := X.2.1; have hml := X.2.2.1; have hown := X.2.2.2.1
  unfold f_X10_key_J20 at hf
  exact aw_throwW X XT G hl.1 1 hf tw_X10_132_136 "no such key" (by decide +kernel) dX10_key_20 dX10_key_23 dX10_key_24 dX10_key_27 dX10_key_30 ⟨Nat.le_of_ble_eq_true rfl, Nat.le_of_ble_eq_true rfl, Nat.le_of_ble_eq_true rfl, Nat.le_of_ble_eq_true rfl⟩ (Nat.le_of_ble_eq_true rfl) (Nat.le_of_ble_eq_true rfl)
end W_X10_key
set_option maxHeartbeats 4000000 in
set_option maxRecDepth 100000 in
theorem c_X10_key (l : Launch) (hst : l.stackTraces = false) {σ : Sg} {x0 : Nat} {x1 : Int32} {x2 : Int32} {x3 : Int32} {d : Dt} {z : (Nat ⊕ Int32) × Dt} (hf : f_X10_key σ x0 x1 x2 x3 d = some z) : aw_Xi l yX10_key (Cond.code yX10_key cX10_key 4 (some .int)) rm_X10_key (fun ad => [.ref (ad x0), .int x1, .int x2, .int x3]) σ d z := by
  intro D cA base ad
  refine aw_ofX (own := RX10) (cc := cX10_key) (nL := 4) (ret := some .int) hst (by decide) rfl rfl ?_
  intro p e s m below meth c X XT G
  have hx := X.1; have hb := X.2.1; have hml := X.2.2.1; have hown := X.2.2.2.1
  refine aw_ls (lv := [(0, .ref (ad x0)), (1, .int x1), (2, .int x2), (3, .int x3)]) (Nat.le_of_ble_eq_true rfl) rfl (fun ls hl => ?_)
  unfold f_X10_key at hf
  refine lv_aload_n hx hb dX10_key_0 rfl (lv_at hl 0 rfl) ?_
  refine lv_iload_n hx hb dX10_key_1 rfl (lv_at hl 1 rfl) ?_
  obtain ⟨hc_3, hf⟩ := aw_chk_some hf
  obtain ⟨z_1, hz_2, hf⟩ := aw_bind_some hf
  refine aw_XVV (As := [.int x1]) (rest := []) X XT G hl.1 cr_X10_176 (c_X10_requireDesign l XT.1 hz_2) rfl rfl rfl (by decide) hc_3 rfl ⟨Nat.le_of_ble_eq_true rfl, Nat.le_of_ble_eq_true rfl⟩ (Nat.le_of_ble_eq_true rfl) dX10_key_2 ⟨Nat.le_of_ble_eq_true rfl, Nat.le_of_ble_eq_true rfl⟩ hf (Nat.le_of_ble_eq_true rfl) (Nat.le_of_ble_eq_true rfl) (fun H locs G hf => ?_)
  refine lv_aload_n hx hb dX10_key_5 rfl (lv_at hl 0 rfl) ?_
  refine lv_iload_n hx hb dX10_key_6 rfl (lv_at hl 2 rfl) ?_
  obtain ⟨z_4, hz_5, hf⟩ := aw_bind_some hf
  refine aw_XVV (As := [.int x2]) (rest := []) X XT G hl.1 cr_X10_230 (c_X10_requireSign l XT.1 hz_5) rfl rfl rfl (by decide) hc_3 rfl ⟨Nat.le_of_ble_eq_true rfl, Nat.le_of_ble_eq_true rfl⟩ (Nat.le_of_ble_eq_true rfl) dX10_key_7 ⟨Nat.le_of_ble_eq_true rfl, Nat.le_of_ble_eq_true rfl⟩ hf (Nat.le_of_ble_eq_true rfl) (Nat.le_of_ble_eq_true rfl) (fun H locs G hf => ?_)
  refine lv_iload_n hx hb dX10_key_10 rfl (lv_at hl 3 rfl) ?_
  refine lv_if_lt (tgt := 20) hx hb dX10_key_11 (by decide) (fun hc => ?_) (fun hc => ?_)
  · have hf := aw_ite_t hc hf
    refine W.widen (k := 2) (n := 12) (Nat.le_of_ble_eq_true rfl) (Nat.le_of_ble_eq_true rfl) ?_
    exact w_X10_key_J20 X XT hf  (lv_sub hl [] rfl) G
  · have hf := aw_ite_f hc hf
    refine lv_iload_n hx hb dX10_key_14 rfl (lv_at hl 3 rfl) ?_
    refine lv_bipush (v := (50 : Int32)) hx hb dX10_key_15 (by decide) ?_
    refine lv_icmp_lt (tgt := 31) hx hb dX10_key_17 (by decide) (fun hc => ?_) (fun hc => ?_)
    · have hf := aw_ite_t hc hf
      refine lv_aload_n hx hb dX10_key_31 rfl (lv_at hl 0 rfl) ?_
      obtain ⟨q_6, hq_7, hf⟩ := aw_bind_some hf
      refine gf_X10_29 hx hb G hown hc_3 hq_7 dX10_key_32 ?_
      refine lv_iload_n hx hb dX10_key_35 rfl (lv_at hl 1 rfl) ?_
      obtain ⟨hc_8, hf⟩ := aw_chk_some hf
      obtain ⟨q_9, hq_10, hf⟩ := aw_bind_some hf
      refine aw_qal hx hb G 26 _ rfl rfl (by decide) hc_8 hq_10 dX10_key_36 ?_
      refine lv_iload_n hx hb dX10_key_37 rfl (lv_at hl 2 rfl) ?_
      refine lv_iload_n hx hb dX10_key_38 rfl (lv_at hl 3 rfl) ?_
      obtain ⟨hc_13, hf⟩ := aw_chk_some hf
      obtain ⟨z_11, hz_12, hf⟩ := aw_bind_some hf
      refine aw_VI (As := [.int x2, .int x3]) (rest := []) X G hl.1 cr_X10_302 (c_X1_putOnKey l hz_12) ⟨rfl, rfl⟩ rfl rfl rfl (by decide) hc_13 rfl ⟨Nat.le_of_ble_eq_true rfl, Nat.le_of_ble_eq_true rfl⟩ (Nat.le_of_ble_eq_true rfl) dX10_key_39 ⟨Nat.le_of_ble_eq_true rfl, Nat.le_of_ble_eq_true rfl⟩ (fun H locs G => ?_)
      exact aw_xreti X G hf dX10_key_42 (Nat.le_of_ble_eq_true rfl) (Nat.le_of_ble_eq_true rfl)
    · have hf := aw_ite_f hc hf
      refine W.widen (k := 2) (n := 12) (Nat.le_of_ble_eq_true rfl) (Nat.le_of_ble_eq_true rfl) ?_
      exact w_X10_key_J20 X XT hf  (lv_sub hl [] rfl) G
def rm_X10_leastCost : Room := { frames := 7, cells := 2, slots := 12, locals := 111 }
def f_X10_leastCost (σ : Sg) (x0 : Nat) (x1 : Int32) (d : Dt) : Option ((Nat ⊕ Int32) × Dt) :=
  aw_chk (aw_O σ 10 13 x0) ((f_X10_requireDesign σ x0 x1 d).bind (fun z_1 => aw_th z_1 (fun _ => (σ.2.2 x0 3).bind (fun q_4 => aw_chk (aw_I σ 26 q_4 x1) ((σ.2.2 q_4 x1.toNatClampNeg).bind (fun q_7 => (f_X10_spellAll σ x0 q_7 z_1.2).bind (fun z_9 => (σ.2.2 x0 11).bind (fun q_11 => (σ.2.2 x0 7).bind (fun q_13 => (σ.2.2 x0 0).bind (fun q_15 => aw_chk (aw_O σ 9 4 q_15) ((σ.2.2 q_15 2).bind (fun q_18 => aw_chk (aw_O σ 4 8 q_11) ((f_X4_take σ q_11 q_13 q_18 z_9.2).bind (fun z_20 => (f_J13_bitCount_95d88 σ (z_20.2.2 q_11 3) z_20.2).bind (fun z_23 => if z_23.1 ≤ ((10 : Int32)) then (f_X4_leastOfOrders σ q_11 z_23.2).bind (fun z_25 => some (Sum.inr z_25.1, z_25.2)) else some (Sum.inl 3, z_23.2))))))))))))))))
section W_X10_leastCost
variable {p : Program} {l : Launch} {e : Env} {s : State} {m : MethodId} {args : Array Value} {below : List Frame} {meth : Method} {c : Code}
variable {D : va_G} {cA : Nat → ClassId} {base : Nat} {ad : Nat → Nat} {σ : Sg}
end W_X10_leastCost
set_option maxHeartbeats 4000000 in
set_option maxRecDepth 100000 in
theorem c_X10_leastCost (l : Launch) (hst : l.stackTraces = false) {σ : Sg} {x0 : Nat} {x1 : Int32} {d : Dt} {z : (Nat ⊕ Int32) × Dt} (hf : f_X10_leastCost σ x0 x1 d = some z) : aw_Xi l yX10_leastCost (Cond.code yX10_leastCost cX10_leastCost 2 (some .int)) rm_X10_leastCost (fun ad => [.ref (ad x0), .int x1]) σ d z := by
  intro D cA base ad
  refine aw_ofX (own := RX10) (cc := cX10_leastCost) (nL := 2) (ret := some .int) hst (by decide) rfl rfl ?_
  intro p e s m below meth c X XT G
  have hx := X.1; have hb := X.2.1; have hml := X.2.2.1; have hown := X.2.2.2.1
  refine aw_ls (lv := [(0, .ref (ad x0)), (1, .int x1)]) (Nat.le_of_ble_eq_true rfl) rfl (fun ls hl => ?_)
  unfold f_X10_leastCost at hf
  refine lv_aload_n hx hb dX10_leastCost_0 rfl (lv_at hl 0 rfl) ?_
  refine lv_iload_n hx hb dX10_leastCost_1 rfl (lv_at hl 1 rfl) ?_
  obtain ⟨hc_3, hf⟩ := aw_chk_some hf
  obtain ⟨z_1, hz_2, hf⟩ := aw_bind_some hf
  refine aw_XVV (As := [.int x1]) (rest := []) X XT G hl.1 cr_X10_176 (c_X10_requireDesign l XT.1 hz_2) rfl rfl rfl (by decide) hc_3 rfl ⟨Nat.le_of_ble_eq_true rfl, Nat.le_of_ble_eq_true rfl⟩ (Nat.le_of_ble_eq_true rfl) dX10_leastCost_2 ⟨Nat.le_of_ble_eq_true rfl, Nat.le_of_ble_eq_true rfl⟩ hf (Nat.le_of_ble_eq_true rfl) (Nat.le_of_ble_eq_true rfl) (fun H locs G hf => ?_)
  refine lv_aload_n hx hb dX10_leastCost_5 rfl (lv_at hl 0 rfl) ?_
  refine lv_aload_n hx hb dX10_leastCost_6 rfl (lv_at hl 0 rfl) ?_
  obtain ⟨q_4, hq_5, hf⟩ := aw_bind_some hf
  refine gf_X10_29 hx hb G hown hc_3 hq_5 dX10_leastCost_7 ?_
  refine lv_iload_n hx hb dX10_leastCost_10 rfl (lv_at hl 1 rfl) ?_
  obtain ⟨hc_6, hf⟩ := aw_chk_some hf
  obtain ⟨q_7, hq_8, hf⟩ := aw_bind_some hf
  refine aw_qal hx hb G 26 _ rfl rfl (by decide) hc_6 hq_8 dX10_leastCost_11 ?_
  obtain ⟨z_9, hz_10, hf⟩ := aw_bind_some hf
  refine aw_VV (As := [.ref (ad q_7)]) (rest := []) X G hl.1 cr_X10_203 (c_X10_spellAll l hz_10) ⟨rfl, rfl⟩ rfl rfl rfl (by decide) hc_3 rfl ⟨Nat.le_of_ble_eq_true rfl, Nat.le_of_ble_eq_true rfl⟩ (Nat.le_of_ble_eq_true rfl) dX10_leastCost_12 ⟨Nat.le_of_ble_eq_true rfl, Nat.le_of_ble_eq_true rfl⟩ (fun H locs G => ?_)
  refine lv_aload_n hx hb dX10_leastCost_15 rfl (lv_at hl 0 rfl) ?_
  obtain ⟨q_11, hq_12, hf⟩ := aw_bind_some hf
  refine gf_X10_78 hx hb G hown hc_3 hq_12 dX10_leastCost_16 ?_
  refine lv_aload_n hx hb dX10_leastCost_19 rfl (lv_at hl 0 rfl) ?_
  obtain ⟨q_13, hq_14, hf⟩ := aw_bind_some hf
  refine gf_X10_54 hx hb G hown hc_3 hq_14 dX10_leastCost_20 ?_
  refine lv_aload_n hx hb dX10_leastCost_23 rfl (lv_at hl 0 rfl) ?_
  obtain ⟨q_15, hq_16, hf⟩ := aw_bind_some hf
  refine gf_X10_12 hx hb G hown hc_3 hq_16 dX10_leastCost_24 ?_
  obtain ⟨hc_17, hf⟩ := aw_chk_some hf
  obtain ⟨q_18, hq_19, hf⟩ := aw_bind_some hf
  refine gf_X10_212 hx hb G hown hc_17 hq_19 dX10_leastCost_27 ?_
  obtain ⟨hc_22, hf⟩ := aw_chk_some hf
  obtain ⟨z_20, hz_21, hf⟩ := aw_bind_some hf
  refine aw_VV (As := [.ref (ad q_13), .ref (ad q_18)]) (rest := []) X G hl.1 cr_X10_282 (c_X4_take l hz_21) ⟨rfl, rfl⟩ rfl rfl rfl (by decide) hc_22 rfl ⟨Nat.le_of_ble_eq_true rfl, Nat.le_of_ble_eq_true rfl⟩ (Nat.le_of_ble_eq_true rfl) dX10_leastCost_30 ⟨Nat.le_of_ble_eq_true rfl, Nat.le_of_ble_eq_true rfl⟩ (fun H locs G => ?_)
  refine lv_aload_n hx hb dX10_leastCost_33 rfl (lv_at hl 0 rfl) ?_
  refine gf_X10_78 hx hb G hown hc_3 hq_12 dX10_leastCost_34 ?_
  refine gf_X10_286 hx hb G hown hc_22 dX10_leastCost_37 ?_
  obtain ⟨z_23, hz_24, hf⟩ := aw_bind_some hf
  refine aw_SI (As := [.long (z_20.2.2 q_11 3)]) (rest := []) X G hl.1 cr_X10_290 (c_J13_bitCount_95d88 l hz_24) ⟨rfl, rfl⟩ rfl rfl rfl ⟨Nat.le_of_ble_eq_true rfl, Nat.le_of_ble_eq_true rfl⟩ (Nat.le_of_ble_eq_true rfl) dX10_leastCost_40 ⟨Nat.le_of_ble_eq_true rfl, Nat.le_of_ble_eq_true rfl⟩ (fun H locs G => ?_)
  refine lv_bipush (v := (10 : Int32)) hx hb dX10_leastCost_43 (by decide) ?_
  refine lv_icmp_le (tgt := 59) hx hb dX10_leastCost_45 (by decide) (fun hc => ?_) (fun hc => ?_)
  · have hf := aw_ite_t hc hf
    refine lv_aload_n hx hb dX10_leastCost_59 rfl (lv_at hl 0 rfl) ?_
    refine gf_X10_78 hx hb G hown hc_3 hq_12 dX10_leastCost_60 ?_
    obtain ⟨z_25, hz_26, hf⟩ := aw_bind_some hf
    refine aw_VI (As := []) (rest := []) X G hl.1 cr_X10_297 (c_X4_leastOfOrders l hz_26) ⟨rfl, rfl⟩ rfl rfl rfl (by decide) hc_22 rfl ⟨Nat.le_of_ble_eq_true rfl, Nat.le_of_ble_eq_true rfl⟩ (Nat.le_of_ble_eq_true rfl) dX10_leastCost_63 ⟨Nat.le_of_ble_eq_true rfl, Nat.le_of_ble_eq_true rfl⟩ (fun H locs G => ?_)
    exact aw_xreti X G hf dX10_leastCost_66 (Nat.le_of_ble_eq_true rfl) (Nat.le_of_ble_eq_true rfl)
  · have hf := aw_ite_f hc hf
    exact aw_throwW X XT G hl.1 3 hf tw_X10_99_103 "more than 10 signs are in use" (by decide +kernel) dX10_leastCost_48 dX10_leastCost_51 dX10_leastCost_52 dX10_leastCost_55 dX10_leastCost_58 ⟨Nat.le_of_ble_eq_true rfl, Nat.le_of_ble_eq_true rfl, Nat.le_of_ble_eq_true rfl, Nat.le_of_ble_eq_true rfl⟩ (Nat.le_of_ble_eq_true rfl) (Nat.le_of_ble_eq_true rfl)
def rm_X10_load : Room := { frames := 7, cells := 1, slots := 6, locals := 111 }
def f_X10_load (σ : Sg) (x0 : Nat) (x1 : Int32) (d : Dt) : Option ((Nat ⊕ Int32) × Dt) :=
  aw_chk (aw_O σ 10 13 x0) ((f_X10_requireDesign σ x0 x1 d).bind (fun z_1 => aw_th z_1 (fun _ => (σ.2.2 x0 3).bind (fun q_4 => aw_chk (aw_I σ 26 q_4 x1) ((σ.2.2 q_4 x1.toNatClampNeg).bind (fun q_7 => (f_X10_spellAll σ x0 q_7 z_1.2).bind (fun z_9 => (σ.2.2 x0 7).bind (fun q_11 => (σ.2.2 x0 0).bind (fun q_13 => aw_chk (aw_O σ 9 4 q_13) ((σ.2.2 q_13 2).bind (fun q_16 => aw_chk (aw_O σ 7 3 q_11) ((f_X7_doubtfulWeight σ q_11 q_16 z_9.2).bind (fun z_18 => some (Sum.inr z_18.1, z_18.2))))))))))))))
section W_X10_load
variable {p : Program} {l : Launch} {e : Env} {s : State} {m : MethodId} {args : Array Value} {below : List Frame} {meth : Method} {c : Code}
variable {D : va_G} {cA : Nat → ClassId} {base : Nat} {ad : Nat → Nat} {σ : Sg}
end W_X10_load
set_option maxHeartbeats 4000000 in
set_option maxRecDepth 100000 in
theorem c_X10_load (l : Launch) (hst : l.stackTraces = false) {σ : Sg} {x0 : Nat} {x1 : Int32} {d : Dt} {z : (Nat ⊕ Int32) × Dt} (hf : f_X10_load σ x0 x1 d = some z) : aw_Xi l yX10_load (Cond.code yX10_load cX10_load 2 (some .int)) rm_X10_load (fun ad => [.ref (ad x0), .int x1]) σ d z := by
  intro D cA base ad
  refine aw_ofX (own := RX10) (cc := cX10_load) (nL := 2) (ret := some .int) hst (by decide) rfl rfl ?_
  intro p e s m below meth c X XT G
  have hx := X.1; have hb := X.2.1; have hml := X.2.2.1; have hown := X.2.2.2.1
  refine aw_ls (lv := [(0, .ref (ad x0)), (1, .int x1)]) (Nat.le_of_ble_eq_true rfl) rfl (fun ls hl => ?_)
  unfold f_X10_load at hf
  refine lv_aload_n hx hb dX10_load_0 rfl (lv_at hl 0 rfl) ?_
  refine lv_iload_n hx hb dX10_load_1 rfl (lv_at hl 1 rfl) ?_
  obtain ⟨hc_3, hf⟩ := aw_chk_some hf
  obtain ⟨z_1, hz_2, hf⟩ := aw_bind_some hf
  refine aw_XVV (As := [.int x1]) (rest := []) X XT G hl.1 cr_X10_176 (c_X10_requireDesign l XT.1 hz_2) rfl rfl rfl (by decide) hc_3 rfl ⟨Nat.le_of_ble_eq_true rfl, Nat.le_of_ble_eq_true rfl⟩ (Nat.le_of_ble_eq_true rfl) dX10_load_2 ⟨Nat.le_of_ble_eq_true rfl, Nat.le_of_ble_eq_true rfl⟩ hf (Nat.le_of_ble_eq_true rfl) (Nat.le_of_ble_eq_true rfl) (fun H locs G hf => ?_)
  refine lv_aload_n hx hb dX10_load_5 rfl (lv_at hl 0 rfl) ?_
  refine lv_aload_n hx hb dX10_load_6 rfl (lv_at hl 0 rfl) ?_
  obtain ⟨q_4, hq_5, hf⟩ := aw_bind_some hf
  refine gf_X10_29 hx hb G hown hc_3 hq_5 dX10_load_7 ?_
  refine lv_iload_n hx hb dX10_load_10 rfl (lv_at hl 1 rfl) ?_
  obtain ⟨hc_6, hf⟩ := aw_chk_some hf
  obtain ⟨q_7, hq_8, hf⟩ := aw_bind_some hf
  refine aw_qal hx hb G 26 _ rfl rfl (by decide) hc_6 hq_8 dX10_load_11 ?_
  obtain ⟨z_9, hz_10, hf⟩ := aw_bind_some hf
  refine aw_VV (As := [.ref (ad q_7)]) (rest := []) X G hl.1 cr_X10_203 (c_X10_spellAll l hz_10) ⟨rfl, rfl⟩ rfl rfl rfl (by decide) hc_3 rfl ⟨Nat.le_of_ble_eq_true rfl, Nat.le_of_ble_eq_true rfl⟩ (Nat.le_of_ble_eq_true rfl) dX10_load_12 ⟨Nat.le_of_ble_eq_true rfl, Nat.le_of_ble_eq_true rfl⟩ (fun H locs G => ?_)
  refine lv_aload_n hx hb dX10_load_15 rfl (lv_at hl 0 rfl) ?_
  obtain ⟨q_11, hq_12, hf⟩ := aw_bind_some hf
  refine gf_X10_54 hx hb G hown hc_3 hq_12 dX10_load_16 ?_
  refine lv_aload_n hx hb dX10_load_19 rfl (lv_at hl 0 rfl) ?_
  obtain ⟨q_13, hq_14, hf⟩ := aw_bind_some hf
  refine gf_X10_12 hx hb G hown hc_3 hq_14 dX10_load_20 ?_
  obtain ⟨hc_15, hf⟩ := aw_chk_some hf
  obtain ⟨q_16, hq_17, hf⟩ := aw_bind_some hf
  refine gf_X10_212 hx hb G hown hc_15 hq_17 dX10_load_23 ?_
  obtain ⟨hc_20, hf⟩ := aw_chk_some hf
  obtain ⟨z_18, hz_19, hf⟩ := aw_bind_some hf
  refine aw_VI (As := [.ref (ad q_16)]) (rest := []) X G hl.1 cr_X10_215 (c_X7_doubtfulWeight l hz_19) ⟨rfl, rfl⟩ rfl rfl rfl (by decide) hc_20 rfl ⟨Nat.le_of_ble_eq_true rfl, Nat.le_of_ble_eq_true rfl⟩ (Nat.le_of_ble_eq_true rfl) dX10_load_26 ⟨Nat.le_of_ble_eq_true rfl, Nat.le_of_ble_eq_true rfl⟩ (fun H locs G => ?_)
  exact aw_xreti X G hf dX10_load_29 (Nat.le_of_ble_eq_true rfl) (Nat.le_of_ble_eq_true rfl)
def rm_X10_requireTone : Room := { frames := 6, cells := 1, slots := 6, locals := 90 }
def f_X10_requireTone_J9 (σ : Sg)  (d : Dt) : Option ((Nat ⊕ Unit) × Dt) :=
  some (Sum.inl 1, d)
def f_X10_requireTone (σ : Sg) (x0 : Nat) (x1 : Int32) (d : Dt) : Option ((Nat ⊕ Unit) × Dt) :=
  if x1 < 0 then f_X10_requireTone_J9 σ d else if x1 < ((3 : Int32)) then some (Sum.inr (), d) else f_X10_requireTone_J9 σ d
section W_X10_requireTone
variable {p : Program} {l : Launch} {e : Env} {s : State} {m : MethodId} {args : Array Value} {below : List Frame} {meth : Method} {c : Code}
variable {D : va_G} {cA : Nat → ClassId} {base : Nat} {ad : Nat → Nat} {σ : Sg}
set_option maxHeartbeats 4000000 in
set_option maxRecDepth 100000 in
theorem w_X10_requireTone_J9 {z : (Nat ⊕ Unit) × Dt} (X : aw_X p c cX10_requireTone 2 s RX10 m meth (none)) (XT : aw_XT l c)  {d : Dt} (hf : f_X10_requireTone_J9 σ d = some z)  {H : Heap} {locs : List Loc} {ls : Array Slot} (hl : lv_has ls 2 []) (G : aw_G D cA base ad σ d s H locs) : W p l e rm_X10_requireTone s m args below meth c H locs 0 0 (aw_Exv D cA base ad σ below args s 1 6 z) (F0 m 9 ls []) := by
  have hx := X.1; have hb := X.2.1; have hml := X.2.2.1; have hown := X.2.2.2.1
  unfold f_X10_requireTone_J9 at hf
  exact aw_throwW X XT G hl.1 1 hf tw_X10_132_136 "no such tone" (by decide +kernel) dX10_requireTone_9 dX10_requireTone_12 dX10_requireTone_13 dX10_requireTone_16 dX10_requireTone_19 ⟨Nat.le_of_ble_eq_true rfl, Nat.le_of_ble_eq_true rfl, Nat.le_of_ble_eq_true rfl, Nat.le_of_ble_eq_true rfl⟩ (Nat.le_of_ble_eq_true rfl) (Nat.le_of_ble_eq_true rfl)
end W_X10_requireTone
set_option maxHeartbeats 4000000 in
set_option maxRecDepth 100000 in
theorem c_X10_requireTone (l : Launch) (hst : l.stackTraces = false) {σ : Sg} {x0 : Nat} {x1 : Int32} {d : Dt} {z : (Nat ⊕ Unit) × Dt} (hf : f_X10_requireTone σ x0 x1 d = some z) : aw_Xv l yX10_requireTone (Cond.code yX10_requireTone cX10_requireTone 2 (none)) rm_X10_requireTone (fun ad => [.ref (ad x0), .int x1]) σ d z := by
  intro D cA base ad
  refine aw_ofX (own := RX10) (cc := cX10_requireTone) (nL := 2) (ret := none) hst (by decide) rfl rfl ?_
  intro p e s m below meth c X XT G
  have hx := X.1; have hb := X.2.1; have hml := X.2.2.1; have hown := X.2.2.2.1
  refine aw_ls (lv := [(0, .ref (ad x0)), (1, .int x1)]) (Nat.le_of_ble_eq_true rfl) rfl (fun ls hl => ?_)
  unfold f_X10_requireTone at hf
  refine lv_iload_n hx hb dX10_requireTone_0 rfl (lv_at hl 1 rfl) ?_
  refine lv_if_lt (tgt := 9) hx hb dX10_requireTone_1 (by decide) (fun hc => ?_) (fun hc => ?_)
  · have hf := aw_ite_t hc hf
    exact w_X10_requireTone_J9 X XT hf  (lv_sub hl [] rfl) G
  · have hf := aw_ite_f hc hf
    refine lv_iload_n hx hb dX10_requireTone_4 rfl (lv_at hl 1 rfl) ?_
    refine lv_iconst (v := (3 : Int32)) hx hb dX10_requireTone_5 (by decide) ?_
    refine lv_icmp_lt (tgt := 20) hx hb dX10_requireTone_6 (by decide) (fun hc => ?_) (fun hc => ?_)
    · have hf := aw_ite_t hc hf
      exact aw_xretv X G hf dX10_requireTone_20 (Nat.le_of_ble_eq_true rfl) (Nat.le_of_ble_eq_true rfl)
    · have hf := aw_ite_f hc hf
      exact w_X10_requireTone_J9 X XT hf  (lv_sub hl [] rfl) G
def rm_X10_loadIf : Room := { frames := 7, cells := 2, slots := 12, locals := 111 }
def f_X10_loadIf_J37 (σ : Sg) (t2 : Int32) (t1 : Int32) (t0 : Nat) (x0 : Nat) (x1 : Int32) (x2 : Int32) (x3 : Nat) (x4 : Int32) (d : Dt) : Option ((Nat ⊕ Int32) × Dt) :=
  aw_chk (aw_I σ 22 t0 t1) (aw_chk (aw_O σ 10 13 x0) ((σ.2.2 x0 3).bind (fun q_17 => aw_chk (aw_I σ 26 q_17 x1) ((σ.2.2 q_17 x1.toNatClampNeg).bind (fun q_20 => (f_X10_spellAll σ x0 q_20 (aw_sI d t0 t1.toNatClampNeg (vp_nar .boolean t2))).bind (fun z_22 => aw_chk (aw_I σ 22 x3 x2) ((σ.2.2 x0 7).bind (fun q_25 => (σ.2.2 x0 0).bind (fun q_27 => aw_chk (aw_O σ 9 4 q_27) ((σ.2.2 q_27 2).bind (fun q_30 => aw_chk (aw_O σ 7 3 q_25) ((f_X7_doubtfulWeight σ q_25 q_30 (aw_sI z_22.2 x3 x2.toNatClampNeg (vp_nar .boolean x4))).bind (fun z_32 => some (Sum.inr z_32.1, z_32.2))))))))))))))
def f_X10_loadIf (σ : Sg) (x0 : Nat) (x1 : Int32) (x2 : Int32) (d : Dt) : Option ((Nat ⊕ Int32) × Dt) :=
  aw_chk (aw_O σ 10 13 x0) ((f_X10_requireDesign σ x0 x1 d).bind (fun z_1 => aw_th z_1 (fun _ => (f_X10_requireTone σ x0 x2 z_1.2).bind (fun z_4 => aw_th z_4 (fun _ => (σ.2.2 x0 3).bind (fun q_6 => aw_chk (aw_I σ 26 q_6 x1) ((σ.2.2 q_6 x1.toNatClampNeg).bind (fun q_9 => aw_chk (aw_O σ 1 5 q_9) ((σ.2.2 q_9 3).bind (fun q_12 => aw_chk (aw_I σ 22 q_12 x2) (if (z_4.2.1 q_12 x2.toNatClampNeg) = 0 then f_X10_loadIf_J37 σ ((1 : Int32)) x2 q_12 x0 x1 x2 q_12 (z_4.2.1 q_12 x2.toNatClampNeg) z_4.2 else f_X10_loadIf_J37 σ ((0 : Int32)) x2 q_12 x0 x1 x2 q_12 (z_4.2.1 q_12 x2.toNatClampNeg) z_4.2)))))))))))
section W_X10_loadIf
variable {p : Program} {l : Launch} {e : Env} {s : State} {m : MethodId} {args : Array Value} {below : List Frame} {meth : Method} {c : Code}
variable {D : va_G} {cA : Nat → ClassId} {base : Nat} {ad : Nat → Nat} {σ : Sg}
set_option maxHeartbeats 4000000 in
set_option maxRecDepth 100000 in
theorem w_X10_loadIf_J37 {z : (Nat ⊕ Int32) × Dt} (X : aw_X p c cX10_loadIf 5 s RX10 m meth (some .int)) (XT : aw_XT l c) {t2 : Int32} {t1 : Int32} {t0 : Nat} {x0 : Nat} {x1 : Int32} {x2 : Int32} {x3 : Nat} {x4 : Int32} {d : Dt} (hf : f_X10_loadIf_J37 σ t2 t1 t0 x0 x1 x2 x3 x4 d = some z)  {H : Heap} {locs : List Loc} {ls : Array Slot} (hl : lv_has ls 5 [(0, .ref (ad x0)), (1, .int x1), (2, .int x2), (3, .ref (ad x3)), (4, .int x4)]) (G : aw_G D cA base ad σ d s H locs) : W p l e rm_X10_loadIf s m args below meth c H locs 2 12 (aw_Exi D cA base ad σ below args s 2 12 z) (F0 m 37 ls [.int t2, .int t1, .ref (ad t0)]) := by
  have hx := X.1; have hb := X.2.1; have hml := X.2.2.1; have hown := X.2.2.2.1
  unfold f_X10_loadIf_J37 at hf
  obtain ⟨hc_15, hf⟩ := aw_chk_some hf
  refine aw_zas hx hb G hc_15 dX10_loadIf_37 (fun H locs G => ?_)
  refine lv_aload_n hx hb dX10_loadIf_38 rfl (lv_at hl 0 rfl) ?_
  refine lv_aload_n hx hb dX10_loadIf_39 rfl (lv_at hl 0 rfl) ?_
  obtain ⟨hc_16, hf⟩ := aw_chk_some hf
  obtain ⟨q_17, hq_18, hf⟩ := aw_bind_some hf
  refine gf_X10_29 hx hb G hown hc_16 hq_18 dX10_loadIf_40 ?_
  refine lv_iload_n hx hb dX10_loadIf_43 rfl (lv_at hl 1 rfl) ?_
  obtain ⟨hc_19, hf⟩ := aw_chk_some hf
  obtain ⟨q_20, hq_21, hf⟩ := aw_bind_some hf
  refine aw_qal hx hb G 26 _ rfl rfl (by decide) hc_19 hq_21 dX10_loadIf_44 ?_
  obtain ⟨z_22, hz_23, hf⟩ := aw_bind_some hf
  refine aw_VV (As := [.ref (ad q_20)]) (rest := []) X G hl.1 cr_X10_203 (c_X10_spellAll l hz_23) ⟨rfl, rfl⟩ rfl rfl rfl (by decide) hc_16 rfl ⟨Nat.le_of_ble_eq_true rfl, Nat.le_of_ble_eq_true rfl⟩ (Nat.le_of_ble_eq_true rfl) dX10_loadIf_45 ⟨Nat.le_of_ble_eq_true rfl, Nat.le_of_ble_eq_true rfl⟩ (fun H locs G => ?_)
  refine lv_aload_n hx hb dX10_loadIf_48 rfl (lv_at hl 3 rfl) ?_
  refine lv_iload_n hx hb dX10_loadIf_49 rfl (lv_at hl 2 rfl) ?_
  refine lv_iload hx hb dX10_loadIf_50 (lv_at hl 4 rfl) ?_
  obtain ⟨hc_24, hf⟩ := aw_chk_some hf
  refine aw_zas hx hb G hc_24 dX10_loadIf_52 (fun H locs G => ?_)
  refine lv_aload_n hx hb dX10_loadIf_53 rfl (lv_at hl 0 rfl) ?_
  obtain ⟨q_25, hq_26, hf⟩ := aw_bind_some hf
  refine gf_X10_54 hx hb G hown hc_16 hq_26 dX10_loadIf_54 ?_
  refine lv_aload_n hx hb dX10_loadIf_57 rfl (lv_at hl 0 rfl) ?_
  obtain ⟨q_27, hq_28, hf⟩ := aw_bind_some hf
  refine gf_X10_12 hx hb G hown hc_16 hq_28 dX10_loadIf_58 ?_
  obtain ⟨hc_29, hf⟩ := aw_chk_some hf
  obtain ⟨q_30, hq_31, hf⟩ := aw_bind_some hf
  refine gf_X10_212 hx hb G hown hc_29 hq_31 dX10_loadIf_61 ?_
  obtain ⟨hc_34, hf⟩ := aw_chk_some hf
  obtain ⟨z_32, hz_33, hf⟩ := aw_bind_some hf
  refine aw_VI (As := [.ref (ad q_30)]) (rest := []) X G hl.1 cr_X10_215 (c_X7_doubtfulWeight l hz_33) ⟨rfl, rfl⟩ rfl rfl rfl (by decide) hc_34 rfl ⟨Nat.le_of_ble_eq_true rfl, Nat.le_of_ble_eq_true rfl⟩ (Nat.le_of_ble_eq_true rfl) dX10_loadIf_64 ⟨Nat.le_of_ble_eq_true rfl, Nat.le_of_ble_eq_true rfl⟩ (fun H locs G => ?_)
  exact aw_xreti X G hf dX10_loadIf_67 (Nat.le_of_ble_eq_true rfl) (Nat.le_of_ble_eq_true rfl)
end W_X10_loadIf
set_option maxHeartbeats 4000000 in
set_option maxRecDepth 100000 in
theorem c_X10_loadIf (l : Launch) (hst : l.stackTraces = false) {σ : Sg} {x0 : Nat} {x1 : Int32} {x2 : Int32} {d : Dt} {z : (Nat ⊕ Int32) × Dt} (hf : f_X10_loadIf σ x0 x1 x2 d = some z) : aw_Xi l yX10_loadIf (Cond.code yX10_loadIf cX10_loadIf 5 (some .int)) rm_X10_loadIf (fun ad => [.ref (ad x0), .int x1, .int x2]) σ d z := by
  intro D cA base ad
  refine aw_ofX (own := RX10) (cc := cX10_loadIf) (nL := 5) (ret := some .int) hst (by decide) rfl rfl ?_
  intro p e s m below meth c X XT G
  have hx := X.1; have hb := X.2.1; have hml := X.2.2.1; have hown := X.2.2.2.1
  refine aw_ls (lv := [(0, .ref (ad x0)), (1, .int x1), (2, .int x2)]) (Nat.le_of_ble_eq_true rfl) rfl (fun ls hl => ?_)
  unfold f_X10_loadIf at hf
  refine lv_aload_n hx hb dX10_loadIf_0 rfl (lv_at hl 0 rfl) ?_
  refine lv_iload_n hx hb dX10_loadIf_1 rfl (lv_at hl 1 rfl) ?_
  obtain ⟨hc_3, hf⟩ := aw_chk_some hf
  obtain ⟨z_1, hz_2, hf⟩ := aw_bind_some hf
  refine aw_XVV (As := [.int x1]) (rest := []) X XT G hl.1 cr_X10_176 (c_X10_requireDesign l XT.1 hz_2) rfl rfl rfl (by decide) hc_3 rfl ⟨Nat.le_of_ble_eq_true rfl, Nat.le_of_ble_eq_true rfl⟩ (Nat.le_of_ble_eq_true rfl) dX10_loadIf_2 ⟨Nat.le_of_ble_eq_true rfl, Nat.le_of_ble_eq_true rfl⟩ hf (Nat.le_of_ble_eq_true rfl) (Nat.le_of_ble_eq_true rfl) (fun H locs G hf => ?_)
  refine lv_aload_n hx hb dX10_loadIf_5 rfl (lv_at hl 0 rfl) ?_
  refine lv_iload_n hx hb dX10_loadIf_6 rfl (lv_at hl 2 rfl) ?_
  obtain ⟨z_4, hz_5, hf⟩ := aw_bind_some hf
  refine aw_XVV (As := [.int x2]) (rest := []) X XT G hl.1 cr_X10_196 (c_X10_requireTone l XT.1 hz_5) rfl rfl rfl (by decide) hc_3 rfl ⟨Nat.le_of_ble_eq_true rfl, Nat.le_of_ble_eq_true rfl⟩ (Nat.le_of_ble_eq_true rfl) dX10_loadIf_7 ⟨Nat.le_of_ble_eq_true rfl, Nat.le_of_ble_eq_true rfl⟩ hf (Nat.le_of_ble_eq_true rfl) (Nat.le_of_ble_eq_true rfl) (fun H locs G hf => ?_)
  refine lv_aload_n hx hb dX10_loadIf_10 rfl (lv_at hl 0 rfl) ?_
  obtain ⟨q_6, hq_7, hf⟩ := aw_bind_some hf
  refine gf_X10_29 hx hb G hown hc_3 hq_7 dX10_loadIf_11 ?_
  refine lv_iload_n hx hb dX10_loadIf_14 rfl (lv_at hl 1 rfl) ?_
  obtain ⟨hc_8, hf⟩ := aw_chk_some hf
  obtain ⟨q_9, hq_10, hf⟩ := aw_bind_some hf
  refine aw_qal hx hb G 26 _ rfl rfl (by decide) hc_8 hq_10 dX10_loadIf_15 ?_
  obtain ⟨hc_11, hf⟩ := aw_chk_some hf
  obtain ⟨q_12, hq_13, hf⟩ := aw_bind_some hf
  refine gf_X10_199 hx hb G hown hc_11 hq_13 dX10_loadIf_16 ?_
  refine lv_astore_n (lv' := [(3, .ref (ad q_12)), (0, .ref (ad x0)), (1, .int x1), (2, .int x2)]) hx hb dX10_loadIf_19 rfl hl (by decide) rfl (fun ls hl => ?_)
  refine lv_aload_n hx hb dX10_loadIf_20 rfl (lv_at hl 0 rfl) ?_
  refine lv_iload_n hx hb dX10_loadIf_21 rfl (lv_at hl 3 rfl) ?_
  obtain ⟨hc_14, hf⟩ := aw_chk_some hf
  refine aw_zal hx hb G hc_14 dX10_loadIf_22 ?_
  refine lv_istore (lv' := [(4, .int (z_4.2.1 q_12 x2.toNatClampNeg)), (3, .ref (ad q_12)), (0, .ref (ad x0)), (1, .int x1), (2, .int x2)]) hx hb dX10_loadIf_23 hl (by decide) rfl (fun ls hl => ?_)
  refine lv_aload_n hx hb dX10_loadIf_25 rfl (lv_at hl 1 rfl) ?_
  refine lv_iload_n hx hb dX10_loadIf_26 rfl (lv_at hl 4 rfl) ?_
  refine lv_iload hx hb dX10_loadIf_27 (lv_at hl 0 rfl) ?_
  refine lv_if_ne (tgt := 36) hx hb dX10_loadIf_29 (by decide) (fun hc => ?_) (fun hc => ?_)
  · have hf := aw_ite_f hc hf
    refine lv_iconst (v := (0 : Int32)) hx hb dX10_loadIf_36 (by decide) ?_
    refine W.widen (k := 2) (n := 12) (Nat.le_of_ble_eq_true rfl) (Nat.le_of_ble_eq_true rfl) ?_
    exact w_X10_loadIf_J37 X XT hf  (lv_sub hl [2, 3, 4, 1, 0] rfl) G
  · have hf := aw_ite_t hc hf
    refine lv_iconst (v := (1 : Int32)) hx hb dX10_loadIf_32 (by decide) ?_
    refine lv_goto (tgt := 37) hx hb dX10_loadIf_33 (by decide) ?_
    refine W.widen (k := 2) (n := 12) (Nat.le_of_ble_eq_true rfl) (Nat.le_of_ble_eq_true rfl) ?_
    exact w_X10_loadIf_J37 X XT hf  (lv_sub hl [2, 3, 4, 1, 0] rfl) G
def rm_X10_lost : Room := { frames := 7, cells := 2, slots := 12, locals := 117 }
def f_X10_lost_J55 (σ : Sg) (kb21 : Int32 → Int32 → Dt → Option ((Nat ⊕ Int32) × Dt)) (x0 : Nat) (x3 : Int32) (x4 : Int32) (d : Dt) : Option ((Nat ⊕ Int32) × Dt) :=
  kb21 x3 (x4 + 1) d
def f_X10_lost_B21 (σ : Sg) (kb21 : Int32 → Int32 → Dt → Option ((Nat ⊕ Int32) × Dt)) (k21 : Int32 → Dt → Option ((Nat ⊕ Int32) × Dt)) (x0 : Nat) (x3 : Int32) (x4 : Int32) (d : Dt) : Option ((Nat ⊕ Int32) × Dt) :=
  aw_chk (aw_O σ 10 13 x0) ((σ.2.2 x0 0).bind (fun q_9 => aw_chk (aw_O σ 9 4 q_9) (if (d.1 q_9 3) ≤ x4 then k21 x3 d else (f_X10_isSplitByReform σ x0 x4 d).bind (fun z_12 => if z_12.1 = 0 then f_X10_lost_J55 σ kb21 x0 x3 x4 z_12.2 else (σ.2.2 q_9 2).bind (fun q_14 => aw_chk (aw_I σ 20 q_14 x4) (f_X10_lost_J55 σ kb21 x0 (x3 + (z_12.2.1 q_14 x4.toNatClampNeg)) x4 z_12.2))))))
def f_X10_lost_L21 (σ : Sg) (n : Nat) (k21 : Int32 → Dt → Option ((Nat ⊕ Int32) × Dt)) (x0 : Nat) : Int32 → Int32 → Dt → Option ((Nat ⊕ Int32) × Dt) := match n with
  | 0 => fun _ _ _ => none
  | n + 1 => fun x3 x4 d => f_X10_lost_B21 σ (f_X10_lost_L21 σ n k21 x0) k21 x0 x3 x4 d
def f_X10_lost (σ : Sg) (x0 : Nat) (x1 : Int32) (x2 : Int32) (d : Dt) : Option ((Nat ⊕ Int32) × Dt) :=
  aw_chk (aw_O σ 10 13 x0) ((f_X10_requireDesign σ x0 x1 d).bind (fun z_1 => aw_th z_1 (fun _ => (f_X10_requireDesign σ x0 x2 z_1.2).bind (fun z_4 => aw_th z_4 (fun _ => (f_X10_spellBoth σ x0 x1 x2 z_4.2).bind (fun z_6 => f_X10_lost_L21 σ aw_FU (fun x3_17 d_18 => some (Sum.inr x3_17, d_18)) x0 ((0 : Int32)) ((0 : Int32)) z_6.2))))))
section W_X10_lost
variable {p : Program} {l : Launch} {e : Env} {s : State} {m : MethodId} {args : Array Value} {below : List Frame} {meth : Method} {c : Code}
variable {D : va_G} {cA : Nat → ClassId} {base : Nat} {ad : Nat → Nat} {σ : Sg}
set_option maxHeartbeats 4000000 in
set_option maxRecDepth 100000 in
theorem w_X10_lost_J55 {z : (Nat ⊕ Int32) × Dt} (X : aw_X p c cX10_lost 5 s RX10 m meth (some .int)) (XT : aw_XT l c) {kb21 : Int32 → Int32 → Dt → Option ((Nat ⊕ Int32) × Dt)} {x0 : Nat} {x3 : Int32} {x4 : Int32} {d : Dt} (hf : f_X10_lost_J55 σ kb21 x0 x3 x4 d = some z) (hkb21 : ∀ (y3 : Int32) (y4 : Int32) (d : Dt), kb21 y3 y4 d = some z → ∀ (H : Heap) (locs : List Loc) (ls : Array Slot), lv_has ls 5 [(0, .ref (ad x0)), (3, .int y3), (4, .int y4)] → aw_G D cA base ad σ d s H locs → W p l e rm_X10_lost s m args below meth c H locs 2 12 (aw_Exi D cA base ad σ below args s 2 12 z) (F0 m 21 ls [])) {H : Heap} {locs : List Loc} {ls : Array Slot} (hl : lv_has ls 5 [(0, .ref (ad x0)), (3, .int x3), (4, .int x4)]) (G : aw_G D cA base ad σ d s H locs) : W p l e rm_X10_lost s m args below meth c H locs 2 12 (aw_Exi D cA base ad σ below args s 2 12 z) (F0 m 55 ls []) := by
  have hx := X.1; have hb := X.2.1; have hml := X.2.2.1; have hown := X.2.2.2.1
  unfold f_X10_lost_J55 at hf
  refine lv_iinc (v := x4 + 1) (lv' := [(4, .int (x4 + 1)), (0, .ref (ad x0)), (3, .int x3)]) hx hb dX10_lost_55 hl (k := 2) rfl rfl (by decide) rfl (fun ls hl => ?_)
  refine lv_goto (tgt := 21) hx hb dX10_lost_58 (by decide) ?_
  refine W.widen (k := 2) (n := 12) (Nat.le_of_ble_eq_true rfl) (Nat.le_of_ble_eq_true rfl) ?_
  exact hkb21 _ _ _ hf _ _ _ (lv_sub hl [1, 2, 0] rfl) G
set_option maxHeartbeats 4000000 in
set_option maxRecDepth 100000 in
theorem w_X10_lost_B21 {z : (Nat ⊕ Int32) × Dt} (X : aw_X p c cX10_lost 5 s RX10 m meth (some .int)) (XT : aw_XT l c) {kb21 : Int32 → Int32 → Dt → Option ((Nat ⊕ Int32) × Dt)} {k21 : Int32 → Dt → Option ((Nat ⊕ Int32) × Dt)} {x0 : Nat} {x3 : Int32} {x4 : Int32} {d : Dt} (hf : f_X10_lost_B21 σ kb21 k21 x0 x3 x4 d = some z) (hkb21 : ∀ (y3 : Int32) (y4 : Int32) (d : Dt), kb21 y3 y4 d = some z → ∀ (H : Heap) (locs : List Loc) (ls : Array Slot), lv_has ls 5 [(0, .ref (ad x0)), (3, .int y3), (4, .int y4)] → aw_G D cA base ad σ d s H locs → W p l e rm_X10_lost s m args below meth c H locs 2 12 (aw_Exi D cA base ad σ below args s 2 12 z) (F0 m 21 ls [])) (hk21 : ∀ (y3 : Int32) (d : Dt), k21 y3 d = some z → ∀ (H : Heap) (locs : List Loc) (ls : Array Slot), lv_has ls 5 [(3, .int y3)] → aw_G D cA base ad σ d s H locs → W p l e rm_X10_lost s m args below meth c H locs 2 12 (aw_Exi D cA base ad σ below args s 2 12 z) (F0 m 61 ls [])) {H : Heap} {locs : List Loc} {ls : Array Slot} (hl : lv_has ls 5 [(0, .ref (ad x0)), (3, .int x3), (4, .int x4)]) (G : aw_G D cA base ad σ d s H locs) : W p l e rm_X10_lost s m args below meth c H locs 2 12 (aw_Exi D cA base ad σ below args s 2 12 z) (F0 m 21 ls []) := by
  have hx := X.1; have hb := X.2.1; have hml := X.2.2.1; have hown := X.2.2.2.1
  unfold f_X10_lost_B21 at hf
  refine lv_iload hx hb dX10_lost_21 (lv_at hl 2 rfl) ?_
  refine lv_aload_n hx hb dX10_lost_23 rfl (lv_at hl 0 rfl) ?_
  obtain ⟨hc_8, hf⟩ := aw_chk_some hf
  obtain ⟨q_9, hq_10, hf⟩ := aw_bind_some hf
  refine gf_X10_12 hx hb G hown hc_8 hq_10 dX10_lost_24 ?_
  obtain ⟨hc_11, hf⟩ := aw_chk_some hf
  refine gf_X10_112 hx hb G hown hc_11 dX10_lost_27 ?_
  refine lv_icmp_ge (tgt := 61) hx hb dX10_lost_30 (by decide) (fun hc => ?_) (fun hc => ?_)
  · have hf := aw_ite_t hc hf
    refine W.widen (k := 2) (n := 12) (Nat.le_of_ble_eq_true rfl) (Nat.le_of_ble_eq_true rfl) ?_
    exact hk21 _ _ hf _ _ _ (lv_sub hl [1] rfl) G
  · have hf := aw_ite_f hc hf
    refine lv_aload_n hx hb dX10_lost_33 rfl (lv_at hl 0 rfl) ?_
    refine lv_iload hx hb dX10_lost_34 (lv_at hl 2 rfl) ?_
    obtain ⟨z_12, hz_13, hf⟩ := aw_bind_some hf
    refine aw_VI (As := [.int x4]) (rest := []) X G hl.1 cr_X10_359 (c_X10_isSplitByReform l hz_13) ⟨rfl, rfl⟩ rfl rfl rfl (by decide) hc_8 rfl ⟨Nat.le_of_ble_eq_true rfl, Nat.le_of_ble_eq_true rfl⟩ (Nat.le_of_ble_eq_true rfl) dX10_lost_36 ⟨Nat.le_of_ble_eq_true rfl, Nat.le_of_ble_eq_true rfl⟩ (fun H locs G => ?_)
    refine lv_if_eq (tgt := 55) hx hb dX10_lost_39 (by decide) (fun hc => ?_) (fun hc => ?_)
    · have hf := aw_ite_t hc hf
      refine W.widen (k := 2) (n := 12) (Nat.le_of_ble_eq_true rfl) (Nat.le_of_ble_eq_true rfl) ?_
      exact w_X10_lost_J55 X XT hf hkb21 (lv_sub hl [0, 1, 2] rfl) G
    · have hf := aw_ite_f hc hf
      refine lv_iload_n hx hb dX10_lost_42 rfl (lv_at hl 1 rfl) ?_
      refine lv_aload_n hx hb dX10_lost_43 rfl (lv_at hl 0 rfl) ?_
      refine gf_X10_12 hx hb G hown hc_8 hq_10 dX10_lost_44 ?_
      obtain ⟨q_14, hq_15, hf⟩ := aw_bind_some hf
      refine gf_X10_212 hx hb G hown hc_11 hq_15 dX10_lost_47 ?_
      refine lv_iload hx hb dX10_lost_50 (lv_at hl 2 rfl) ?_
      obtain ⟨hc_16, hf⟩ := aw_chk_some hf
      refine aw_ial hx hb G hc_16 dX10_lost_52 ?_
      refine lv_iadd hx hb dX10_lost_53 ?_
      refine lv_istore_n (lv' := [(3, .int (x3 + (z_12.2.1 q_14 x4.toNatClampNeg))), (0, .ref (ad x0)), (4, .int x4)]) hx hb dX10_lost_54 rfl hl (by decide) rfl (fun ls hl => ?_)
      refine W.widen (k := 2) (n := 12) (Nat.le_of_ble_eq_true rfl) (Nat.le_of_ble_eq_true rfl) ?_
      exact w_X10_lost_J55 X XT hf hkb21 (lv_sub hl [1, 0, 2] rfl) G
theorem w_X10_lost_L21 {z : (Nat ⊕ Int32) × Dt} (X : aw_X p c cX10_lost 5 s RX10 m meth (some .int)) (XT : aw_XT l c) {k21 : Int32 → Dt → Option ((Nat ⊕ Int32) × Dt)} {x0 : Nat} (n : Nat) {x3 : Int32} {x4 : Int32} {d : Dt} (hf : f_X10_lost_L21 σ n k21 x0 x3 x4 d = some z) (hk21 : ∀ (y3 : Int32) (d : Dt), k21 y3 d = some z → ∀ (H : Heap) (locs : List Loc) (ls : Array Slot), lv_has ls 5 [(3, .int y3)] → aw_G D cA base ad σ d s H locs → W p l e rm_X10_lost s m args below meth c H locs 2 12 (aw_Exi D cA base ad σ below args s 2 12 z) (F0 m 61 ls [])) {H : Heap} {locs : List Loc} {ls : Array Slot} (hl : lv_has ls 5 [(0, .ref (ad x0)), (3, .int x3), (4, .int x4)]) (G : aw_G D cA base ad σ d s H locs) : W p l e rm_X10_lost s m args below meth c H locs 2 12 (aw_Exi D cA base ad σ below args s 2 12 z) (F0 m 21 ls []) := by
  induction n generalizing x3 x4 d H locs ls with
  | zero => exact absurd (show (none : Option ((Nat ⊕ Int32) × Dt)) = some z from hf) (by simp)
  | succ n ih => exact w_X10_lost_B21 X XT (kb21 := f_X10_lost_L21 σ n k21 x0) hf  (fun x3 x4 d hf H locs ls hl G => ih hf hl G) hk21 hl G
end W_X10_lost
set_option maxHeartbeats 4000000 in
set_option maxRecDepth 100000 in
theorem c_X10_lost (l : Launch) (hst : l.stackTraces = false) {σ : Sg} {x0 : Nat} {x1 : Int32} {x2 : Int32} {d : Dt} {z : (Nat ⊕ Int32) × Dt} (hf : f_X10_lost σ x0 x1 x2 d = some z) : aw_Xi l yX10_lost (Cond.code yX10_lost cX10_lost 5 (some .int)) rm_X10_lost (fun ad => [.ref (ad x0), .int x1, .int x2]) σ d z := by
  intro D cA base ad
  refine aw_ofX (own := RX10) (cc := cX10_lost) (nL := 5) (ret := some .int) hst (by decide) rfl rfl ?_
  intro p e s m below meth c X XT G
  have hx := X.1; have hb := X.2.1; have hml := X.2.2.1; have hown := X.2.2.2.1
  refine aw_ls (lv := [(0, .ref (ad x0)), (1, .int x1), (2, .int x2)]) (Nat.le_of_ble_eq_true rfl) rfl (fun ls hl => ?_)
  unfold f_X10_lost at hf
  refine lv_aload_n hx hb dX10_lost_0 rfl (lv_at hl 0 rfl) ?_
  refine lv_iload_n hx hb dX10_lost_1 rfl (lv_at hl 1 rfl) ?_
  obtain ⟨hc_3, hf⟩ := aw_chk_some hf
  obtain ⟨z_1, hz_2, hf⟩ := aw_bind_some hf
  refine aw_XVV (As := [.int x1]) (rest := []) X XT G hl.1 cr_X10_176 (c_X10_requireDesign l XT.1 hz_2) rfl rfl rfl (by decide) hc_3 rfl ⟨Nat.le_of_ble_eq_true rfl, Nat.le_of_ble_eq_true rfl⟩ (Nat.le_of_ble_eq_true rfl) dX10_lost_2 ⟨Nat.le_of_ble_eq_true rfl, Nat.le_of_ble_eq_true rfl⟩ hf (Nat.le_of_ble_eq_true rfl) (Nat.le_of_ble_eq_true rfl) (fun H locs G hf => ?_)
  refine lv_aload_n hx hb dX10_lost_5 rfl (lv_at hl 0 rfl) ?_
  refine lv_iload_n hx hb dX10_lost_6 rfl (lv_at hl 2 rfl) ?_
  obtain ⟨z_4, hz_5, hf⟩ := aw_bind_some hf
  refine aw_XVV (As := [.int x2]) (rest := []) X XT G hl.1 cr_X10_176 (c_X10_requireDesign l XT.1 hz_5) rfl rfl rfl (by decide) hc_3 rfl ⟨Nat.le_of_ble_eq_true rfl, Nat.le_of_ble_eq_true rfl⟩ (Nat.le_of_ble_eq_true rfl) dX10_lost_7 ⟨Nat.le_of_ble_eq_true rfl, Nat.le_of_ble_eq_true rfl⟩ hf (Nat.le_of_ble_eq_true rfl) (Nat.le_of_ble_eq_true rfl) (fun H locs G hf => ?_)
  refine lv_aload_n hx hb dX10_lost_10 rfl (lv_at hl 0 rfl) ?_
  refine lv_iload_n hx hb dX10_lost_11 rfl (lv_at hl 1 rfl) ?_
  refine lv_iload_n hx hb dX10_lost_12 rfl (lv_at hl 2 rfl) ?_
  obtain ⟨z_6, hz_7, hf⟩ := aw_bind_some hf
  refine aw_VV (As := [.int x1, .int x2]) (rest := []) X G hl.1 cr_X10_353 (c_X10_spellBoth l hz_7) ⟨rfl, rfl⟩ rfl rfl rfl (by decide) hc_3 rfl ⟨Nat.le_of_ble_eq_true rfl, Nat.le_of_ble_eq_true rfl⟩ (Nat.le_of_ble_eq_true rfl) dX10_lost_13 ⟨Nat.le_of_ble_eq_true rfl, Nat.le_of_ble_eq_true rfl⟩ (fun H locs G => ?_)
  refine lv_iconst (v := (0 : Int32)) hx hb dX10_lost_16 (by decide) ?_
  refine lv_istore_n (lv' := [(3, .int ((0 : Int32))), (0, .ref (ad x0)), (1, .int x1), (2, .int x2)]) hx hb dX10_lost_17 rfl hl (by decide) rfl (fun ls hl => ?_)
  refine lv_iconst (v := (0 : Int32)) hx hb dX10_lost_18 (by decide) ?_
  refine lv_istore (lv' := [(4, .int ((0 : Int32))), (3, .int ((0 : Int32))), (0, .ref (ad x0)), (1, .int x1), (2, .int x2)]) hx hb dX10_lost_19 hl (by decide) rfl (fun ls hl => ?_)
  refine W.widen (k := 2) (n := 12) (Nat.le_of_ble_eq_true rfl) (Nat.le_of_ble_eq_true rfl) ?_
  refine w_X10_lost_L21 X XT aw_FU hf  (fun x3_17 d_18 hf H locs ls hl G => ?_) (lv_sub hl [2, 1, 0] rfl) G
  refine lv_iload_n hx hb dX10_lost_61 rfl (lv_at hl 0 rfl) ?_
  exact aw_xreti X G hf dX10_lost_62 (Nat.le_of_ble_eq_true rfl) (Nat.le_of_ble_eq_true rfl)
def rm_X10_mark : Room := { frames := 7, cells := 2, slots := 12, locals := 111 }
def f_X10_mark (σ : Sg) (x0 : Nat) (x1 : Int32) (x2 : Int32) (x3 : Int32) (d : Dt) : Option ((Nat ⊕ Int32) × Dt) :=
  aw_chk (aw_O σ 10 13 x0) ((f_X10_requireDesign σ x0 x1 d).bind (fun z_1 => aw_th z_1 (fun _ => (f_X10_requireTone σ x0 x2 z_1.2).bind (fun z_4 => aw_th z_4 (fun _ => (σ.2.2 x0 3).bind (fun q_6 => aw_chk (aw_I σ 26 q_6 x1) ((σ.2.2 q_6 x1.toNatClampNeg).bind (fun q_9 => aw_chk (aw_O σ 1 5 q_9) ((σ.2.2 q_9 3).bind (fun q_12 => aw_chk (aw_I σ 22 q_12 x2) (aw_chk ((z_4.2.1 q_12 x2.toNatClampNeg) &&& 1 = (z_4.2.1 q_12 x2.toNatClampNeg)) (some (Sum.inr (z_4.2.1 q_12 x2.toNatClampNeg), aw_sI z_4.2 q_12 x2.toNatClampNeg (vp_nar .boolean x3))))))))))))))
section W_X10_mark
variable {p : Program} {l : Launch} {e : Env} {s : State} {m : MethodId} {args : Array Value} {below : List Frame} {meth : Method} {c : Code}
variable {D : va_G} {cA : Nat → ClassId} {base : Nat} {ad : Nat → Nat} {σ : Sg}
end W_X10_mark
set_option maxHeartbeats 4000000 in
set_option maxRecDepth 100000 in
theorem c_X10_mark (l : Launch) (hst : l.stackTraces = false) {σ : Sg} {x0 : Nat} {x1 : Int32} {x2 : Int32} {x3 : Int32} {d : Dt} {z : (Nat ⊕ Int32) × Dt} (hf : f_X10_mark σ x0 x1 x2 x3 d = some z) : aw_Xi l yX10_mark (Cond.code yX10_mark cX10_mark 5 (some .boolean)) rm_X10_mark (fun ad => [.ref (ad x0), .int x1, .int x2, .int x3]) σ d z := by
  intro D cA base ad
  refine aw_ofX (own := RX10) (cc := cX10_mark) (nL := 5) (ret := some .boolean) hst (by decide) rfl rfl ?_
  intro p e s m below meth c X XT G
  have hx := X.1; have hb := X.2.1; have hml := X.2.2.1; have hown := X.2.2.2.1
  refine aw_ls (lv := [(0, .ref (ad x0)), (1, .int x1), (2, .int x2), (3, .int x3)]) (Nat.le_of_ble_eq_true rfl) rfl (fun ls hl => ?_)
  unfold f_X10_mark at hf
  refine lv_aload_n hx hb dX10_mark_0 rfl (lv_at hl 0 rfl) ?_
  refine lv_iload_n hx hb dX10_mark_1 rfl (lv_at hl 1 rfl) ?_
  obtain ⟨hc_3, hf⟩ := aw_chk_some hf
  obtain ⟨z_1, hz_2, hf⟩ := aw_bind_some hf
  refine aw_XVV (As := [.int x1]) (rest := []) X XT G hl.1 cr_X10_176 (c_X10_requireDesign l XT.1 hz_2) rfl rfl rfl (by decide) hc_3 rfl ⟨Nat.le_of_ble_eq_true rfl, Nat.le_of_ble_eq_true rfl⟩ (Nat.le_of_ble_eq_true rfl) dX10_mark_2 ⟨Nat.le_of_ble_eq_true rfl, Nat.le_of_ble_eq_true rfl⟩ hf (Nat.le_of_ble_eq_true rfl) (Nat.le_of_ble_eq_true rfl) (fun H locs G hf => ?_)
  refine lv_aload_n hx hb dX10_mark_5 rfl (lv_at hl 0 rfl) ?_
  refine lv_iload_n hx hb dX10_mark_6 rfl (lv_at hl 2 rfl) ?_
  obtain ⟨z_4, hz_5, hf⟩ := aw_bind_some hf
  refine aw_XVV (As := [.int x2]) (rest := []) X XT G hl.1 cr_X10_196 (c_X10_requireTone l XT.1 hz_5) rfl rfl rfl (by decide) hc_3 rfl ⟨Nat.le_of_ble_eq_true rfl, Nat.le_of_ble_eq_true rfl⟩ (Nat.le_of_ble_eq_true rfl) dX10_mark_7 ⟨Nat.le_of_ble_eq_true rfl, Nat.le_of_ble_eq_true rfl⟩ hf (Nat.le_of_ble_eq_true rfl) (Nat.le_of_ble_eq_true rfl) (fun H locs G hf => ?_)
  refine lv_aload_n hx hb dX10_mark_10 rfl (lv_at hl 0 rfl) ?_
  obtain ⟨q_6, hq_7, hf⟩ := aw_bind_some hf
  refine gf_X10_29 hx hb G hown hc_3 hq_7 dX10_mark_11 ?_
  refine lv_iload_n hx hb dX10_mark_14 rfl (lv_at hl 1 rfl) ?_
  obtain ⟨hc_8, hf⟩ := aw_chk_some hf
  obtain ⟨q_9, hq_10, hf⟩ := aw_bind_some hf
  refine aw_qal hx hb G 26 _ rfl rfl (by decide) hc_8 hq_10 dX10_mark_15 ?_
  obtain ⟨hc_11, hf⟩ := aw_chk_some hf
  obtain ⟨q_12, hq_13, hf⟩ := aw_bind_some hf
  refine gf_X10_199 hx hb G hown hc_11 hq_13 dX10_mark_16 ?_
  refine lv_iload_n hx hb dX10_mark_19 rfl (lv_at hl 2 rfl) ?_
  obtain ⟨hc_14, hf⟩ := aw_chk_some hf
  refine aw_zal hx hb G hc_14 dX10_mark_20 ?_
  refine lv_istore (lv' := [(4, .int (z_4.2.1 q_12 x2.toNatClampNeg)), (0, .ref (ad x0)), (1, .int x1), (2, .int x2), (3, .int x3)]) hx hb dX10_mark_21 hl (by decide) rfl (fun ls hl => ?_)
  refine lv_aload_n hx hb dX10_mark_23 rfl (lv_at hl 1 rfl) ?_
  refine gf_X10_29 hx hb G hown hc_3 hq_7 dX10_mark_24 ?_
  refine lv_iload_n hx hb dX10_mark_27 rfl (lv_at hl 2 rfl) ?_
  refine aw_qal hx hb G 26 _ rfl rfl (by decide) hc_8 hq_10 dX10_mark_28 ?_
  refine gf_X10_199 hx hb G hown hc_11 hq_13 dX10_mark_29 ?_
  refine lv_iload_n hx hb dX10_mark_32 rfl (lv_at hl 3 rfl) ?_
  refine lv_iload_n hx hb dX10_mark_33 rfl (lv_at hl 4 rfl) ?_
  refine aw_zas hx hb G hc_14 dX10_mark_34 (fun H locs G => ?_)
  refine lv_iload hx hb dX10_mark_35 (lv_at hl 0 rfl) ?_
  obtain ⟨hc_15, hf⟩ := aw_chk_some hf
  exact aw_xretz X G hc_15 hf dX10_mark_37 (Nat.le_of_ble_eq_true rfl) (Nat.le_of_ble_eq_true rfl)
def rm_X10_requirePlace : Room := { frames := 6, cells := 1, slots := 6, locals := 90 }
def f_X10_requirePlace (σ : Sg) (x0 : Nat) (x1 : Int32) (d : Dt) : Option ((Nat ⊕ Unit) × Dt) :=
  if 0 ≤ x1 then some (Sum.inr (), d) else some (Sum.inl 1, d)
section W_X10_requirePlace
variable {p : Program} {l : Launch} {e : Env} {s : State} {m : MethodId} {args : Array Value} {below : List Frame} {meth : Method} {c : Code}
variable {D : va_G} {cA : Nat → ClassId} {base : Nat} {ad : Nat → Nat} {σ : Sg}
end W_X10_requirePlace
set_option maxHeartbeats 4000000 in
set_option maxRecDepth 100000 in
theorem c_X10_requirePlace (l : Launch) (hst : l.stackTraces = false) {σ : Sg} {x0 : Nat} {x1 : Int32} {d : Dt} {z : (Nat ⊕ Unit) × Dt} (hf : f_X10_requirePlace σ x0 x1 d = some z) : aw_Xv l yX10_requirePlace (Cond.code yX10_requirePlace cX10_requirePlace 2 (none)) rm_X10_requirePlace (fun ad => [.ref (ad x0), .int x1]) σ d z := by
  intro D cA base ad
  refine aw_ofX (own := RX10) (cc := cX10_requirePlace) (nL := 2) (ret := none) hst (by decide) rfl rfl ?_
  intro p e s m below meth c X XT G
  have hx := X.1; have hb := X.2.1; have hml := X.2.2.1; have hown := X.2.2.2.1
  refine aw_ls (lv := [(0, .ref (ad x0)), (1, .int x1)]) (Nat.le_of_ble_eq_true rfl) rfl (fun ls hl => ?_)
  unfold f_X10_requirePlace at hf
  refine lv_iload_n hx hb dX10_requirePlace_0 rfl (lv_at hl 1 rfl) ?_
  refine lv_if_ge (tgt := 15) hx hb dX10_requirePlace_1 (by decide) (fun hc => ?_) (fun hc => ?_)
  · have hf := aw_ite_t hc hf
    exact aw_xretv X G hf dX10_requirePlace_15 (Nat.le_of_ble_eq_true rfl) (Nat.le_of_ble_eq_true rfl)
  · have hf := aw_ite_f hc hf
    exact aw_throwW X XT G hl.1 1 hf tw_X10_132_136 "place is below 0" (by decide +kernel) dX10_requirePlace_4 dX10_requirePlace_7 dX10_requirePlace_8 dX10_requirePlace_11 dX10_requirePlace_14 ⟨Nat.le_of_ble_eq_true rfl, Nat.le_of_ble_eq_true rfl, Nat.le_of_ble_eq_true rfl, Nat.le_of_ble_eq_true rfl⟩ (Nat.le_of_ble_eq_true rfl) (Nat.le_of_ble_eq_true rfl)
def rm_X10_primer : Room := { frames := 7, cells := 2, slots := 12, locals := 120 }
def f_X10_primer_J44 (σ : Sg) (t0 : Int32) (d : Dt) : Option ((Nat ⊕ Int32) × Dt) :=
  some (Sum.inr t0, d)
def f_X10_primer (σ : Sg) (x0 : Nat) (x1 : Int32) (x2 : Int32) (d : Dt) : Option ((Nat ⊕ Int32) × Dt) :=
  aw_chk (aw_O σ 10 13 x0) ((f_X10_requireDesign σ x0 x1 d).bind (fun z_1 => aw_th z_1 (fun _ => (f_X10_requirePlace σ x0 x2 z_1.2).bind (fun z_4 => aw_th z_4 (fun _ => (σ.2.2 x0 3).bind (fun q_6 => aw_chk (aw_I σ 26 q_6 x1) ((σ.2.2 q_6 x1.toNatClampNeg).bind (fun q_9 => (f_X10_prepareQuickPrimer σ x0 q_9 z_4.2).bind (fun z_11 => (σ.2.2 x0 11).bind (fun q_13 => aw_chk (aw_O σ 4 8 q_13) (if (z_11.2.1 q_13 5) ≤ x2 then f_X10_primer_J44 σ ((-1 : Int32)) z_11.2 else (σ.2.2 q_13 4).bind (fun q_16 => aw_chk (aw_I σ 20 q_16 x2) (f_X10_primer_J44 σ (z_11.2.1 q_16 x2.toNatClampNeg) z_11.2)))))))))))))
section W_X10_primer
variable {p : Program} {l : Launch} {e : Env} {s : State} {m : MethodId} {args : Array Value} {below : List Frame} {meth : Method} {c : Code}
variable {D : va_G} {cA : Nat → ClassId} {base : Nat} {ad : Nat → Nat} {σ : Sg}
set_option maxHeartbeats 4000000 in
set_option maxRecDepth 100000 in
theorem w_X10_primer_J44 {z : (Nat ⊕ Int32) × Dt} (X : aw_X p c cX10_primer 3 s RX10 m meth (some .int)) (XT : aw_XT l c) {t0 : Int32} {d : Dt} (hf : f_X10_primer_J44 σ t0 d = some z)  {H : Heap} {locs : List Loc} {ls : Array Slot} (hl : lv_has ls 3 []) (G : aw_G D cA base ad σ d s H locs) : W p l e rm_X10_primer s m args below meth c H locs 2 12 (aw_Exi D cA base ad σ below args s 2 12 z) (F0 m 44 ls [.int t0]) := by
  have hx := X.1; have hb := X.2.1; have hml := X.2.2.1; have hown := X.2.2.2.1
  unfold f_X10_primer_J44 at hf
  exact aw_xreti X G hf dX10_primer_44 (Nat.le_of_ble_eq_true rfl) (Nat.le_of_ble_eq_true rfl)
end W_X10_primer
set_option maxHeartbeats 4000000 in
set_option maxRecDepth 100000 in
theorem c_X10_primer (l : Launch) (hst : l.stackTraces = false) {σ : Sg} {x0 : Nat} {x1 : Int32} {x2 : Int32} {d : Dt} {z : (Nat ⊕ Int32) × Dt} (hf : f_X10_primer σ x0 x1 x2 d = some z) : aw_Xi l yX10_primer (Cond.code yX10_primer cX10_primer 3 (some .int)) rm_X10_primer (fun ad => [.ref (ad x0), .int x1, .int x2]) σ d z := by
  intro D cA base ad
  refine aw_ofX (own := RX10) (cc := cX10_primer) (nL := 3) (ret := some .int) hst (by decide) rfl rfl ?_
  intro p e s m below meth c X XT G
  have hx := X.1; have hb := X.2.1; have hml := X.2.2.1; have hown := X.2.2.2.1
  refine aw_ls (lv := [(0, .ref (ad x0)), (1, .int x1), (2, .int x2)]) (Nat.le_of_ble_eq_true rfl) rfl (fun ls hl => ?_)
  unfold f_X10_primer at hf
  refine lv_aload_n hx hb dX10_primer_0 rfl (lv_at hl 0 rfl) ?_
  refine lv_iload_n hx hb dX10_primer_1 rfl (lv_at hl 1 rfl) ?_
  obtain ⟨hc_3, hf⟩ := aw_chk_some hf
  obtain ⟨z_1, hz_2, hf⟩ := aw_bind_some hf
  refine aw_XVV (As := [.int x1]) (rest := []) X XT G hl.1 cr_X10_176 (c_X10_requireDesign l XT.1 hz_2) rfl rfl rfl (by decide) hc_3 rfl ⟨Nat.le_of_ble_eq_true rfl, Nat.le_of_ble_eq_true rfl⟩ (Nat.le_of_ble_eq_true rfl) dX10_primer_2 ⟨Nat.le_of_ble_eq_true rfl, Nat.le_of_ble_eq_true rfl⟩ hf (Nat.le_of_ble_eq_true rfl) (Nat.le_of_ble_eq_true rfl) (fun H locs G hf => ?_)
  refine lv_aload_n hx hb dX10_primer_5 rfl (lv_at hl 0 rfl) ?_
  refine lv_iload_n hx hb dX10_primer_6 rfl (lv_at hl 2 rfl) ?_
  obtain ⟨z_4, hz_5, hf⟩ := aw_bind_some hf
  refine aw_XVV (As := [.int x2]) (rest := []) X XT G hl.1 cr_X10_153 (c_X10_requirePlace l XT.1 hz_5) rfl rfl rfl (by decide) hc_3 rfl ⟨Nat.le_of_ble_eq_true rfl, Nat.le_of_ble_eq_true rfl⟩ (Nat.le_of_ble_eq_true rfl) dX10_primer_7 ⟨Nat.le_of_ble_eq_true rfl, Nat.le_of_ble_eq_true rfl⟩ hf (Nat.le_of_ble_eq_true rfl) (Nat.le_of_ble_eq_true rfl) (fun H locs G hf => ?_)
  refine lv_aload_n hx hb dX10_primer_10 rfl (lv_at hl 0 rfl) ?_
  refine lv_aload_n hx hb dX10_primer_11 rfl (lv_at hl 0 rfl) ?_
  obtain ⟨q_6, hq_7, hf⟩ := aw_bind_some hf
  refine gf_X10_29 hx hb G hown hc_3 hq_7 dX10_primer_12 ?_
  refine lv_iload_n hx hb dX10_primer_15 rfl (lv_at hl 1 rfl) ?_
  obtain ⟨hc_8, hf⟩ := aw_chk_some hf
  obtain ⟨q_9, hq_10, hf⟩ := aw_bind_some hf
  refine aw_qal hx hb G 26 _ rfl rfl (by decide) hc_8 hq_10 dX10_primer_16 ?_
  obtain ⟨z_11, hz_12, hf⟩ := aw_bind_some hf
  refine aw_VV (As := [.ref (ad q_9)]) (rest := []) X G hl.1 cr_X10_269 (c_X10_prepareQuickPrimer l hz_12) ⟨rfl, rfl⟩ rfl rfl rfl (by decide) hc_3 rfl ⟨Nat.le_of_ble_eq_true rfl, Nat.le_of_ble_eq_true rfl⟩ (Nat.le_of_ble_eq_true rfl) dX10_primer_17 ⟨Nat.le_of_ble_eq_true rfl, Nat.le_of_ble_eq_true rfl⟩ (fun H locs G => ?_)
  refine lv_iload_n hx hb dX10_primer_20 rfl (lv_at hl 2 rfl) ?_
  refine lv_aload_n hx hb dX10_primer_21 rfl (lv_at hl 0 rfl) ?_
  obtain ⟨q_13, hq_14, hf⟩ := aw_bind_some hf
  refine gf_X10_78 hx hb G hown hc_3 hq_14 dX10_primer_22 ?_
  obtain ⟨hc_15, hf⟩ := aw_chk_some hf
  refine gf_X10_272 hx hb G hown hc_15 dX10_primer_25 ?_
  refine lv_icmp_ge (tgt := 43) hx hb dX10_primer_28 (by decide) (fun hc => ?_) (fun hc => ?_)
  · have hf := aw_ite_t hc hf
    refine lv_iconst (v := (-1 : Int32)) hx hb dX10_primer_43 (by decide) ?_
    refine W.widen (k := 2) (n := 12) (Nat.le_of_ble_eq_true rfl) (Nat.le_of_ble_eq_true rfl) ?_
    exact w_X10_primer_J44 X XT hf  (lv_sub hl [] rfl) G
  · have hf := aw_ite_f hc hf
    refine lv_aload_n hx hb dX10_primer_31 rfl (lv_at hl 0 rfl) ?_
    refine gf_X10_78 hx hb G hown hc_3 hq_14 dX10_primer_32 ?_
    obtain ⟨q_16, hq_17, hf⟩ := aw_bind_some hf
    refine gf_X10_275 hx hb G hown hc_15 hq_17 dX10_primer_35 ?_
    refine lv_iload_n hx hb dX10_primer_38 rfl (lv_at hl 2 rfl) ?_
    obtain ⟨hc_18, hf⟩ := aw_chk_some hf
    refine aw_ial hx hb G hc_18 dX10_primer_39 ?_
    refine lv_goto (tgt := 44) hx hb dX10_primer_40 (by decide) ?_
    refine W.widen (k := 2) (n := 12) (Nat.le_of_ble_eq_true rfl) (Nat.le_of_ble_eq_true rfl) ?_
    exact w_X10_primer_J44 X XT hf  (lv_sub hl [] rfl) G
def rm_X10_requireWord : Room := { frames := 6, cells := 1, slots := 6, locals := 90 }
def f_X10_requireWord_J15 (σ : Sg)  (d : Dt) : Option ((Nat ⊕ Unit) × Dt) :=
  some (Sum.inl 1, d)
def f_X10_requireWord (σ : Sg) (x0 : Nat) (x1 : Int32) (d : Dt) : Option ((Nat ⊕ Unit) × Dt) :=
  if x1 < 0 then f_X10_requireWord_J15 σ d else aw_chk (aw_O σ 10 13 x0) ((σ.2.2 x0 0).bind (fun q_2 => aw_chk (aw_O σ 9 4 q_2) (if x1 < (d.1 q_2 3) then some (Sum.inr (), d) else f_X10_requireWord_J15 σ d)))
section W_X10_requireWord
variable {p : Program} {l : Launch} {e : Env} {s : State} {m : MethodId} {args : Array Value} {below : List Frame} {meth : Method} {c : Code}
variable {D : va_G} {cA : Nat → ClassId} {base : Nat} {ad : Nat → Nat} {σ : Sg}
set_option maxHeartbeats 4000000 in
set_option maxRecDepth 100000 in
theorem w_X10_requireWord_J15 {z : (Nat ⊕ Unit) × Dt} (X : aw_X p c cX10_requireWord 2 s RX10 m meth (none)) (XT : aw_XT l c)  {d : Dt} (hf : f_X10_requireWord_J15 σ d = some z)  {H : Heap} {locs : List Loc} {ls : Array Slot} (hl : lv_has ls 2 []) (G : aw_G D cA base ad σ d s H locs) : W p l e rm_X10_requireWord s m args below meth c H locs 0 0 (aw_Exv D cA base ad σ below args s 1 6 z) (F0 m 15 ls []) := by
  have hx := X.1; have hb := X.2.1; have hml := X.2.2.1; have hown := X.2.2.2.1
  unfold f_X10_requireWord_J15 at hf
  exact aw_throwW X XT G hl.1 1 hf tw_X10_132_136 "no such word" (by decide +kernel) dX10_requireWord_15 dX10_requireWord_18 dX10_requireWord_19 dX10_requireWord_22 dX10_requireWord_25 ⟨Nat.le_of_ble_eq_true rfl, Nat.le_of_ble_eq_true rfl, Nat.le_of_ble_eq_true rfl, Nat.le_of_ble_eq_true rfl⟩ (Nat.le_of_ble_eq_true rfl) (Nat.le_of_ble_eq_true rfl)
end W_X10_requireWord
set_option maxHeartbeats 4000000 in
set_option maxRecDepth 100000 in
theorem c_X10_requireWord (l : Launch) (hst : l.stackTraces = false) {σ : Sg} {x0 : Nat} {x1 : Int32} {d : Dt} {z : (Nat ⊕ Unit) × Dt} (hf : f_X10_requireWord σ x0 x1 d = some z) : aw_Xv l yX10_requireWord (Cond.code yX10_requireWord cX10_requireWord 2 (none)) rm_X10_requireWord (fun ad => [.ref (ad x0), .int x1]) σ d z := by
  intro D cA base ad
  refine aw_ofX (own := RX10) (cc := cX10_requireWord) (nL := 2) (ret := none) hst (by decide) rfl rfl ?_
  intro p e s m below meth c X XT G
  have hx := X.1; have hb := X.2.1; have hml := X.2.2.1; have hown := X.2.2.2.1
  refine aw_ls (lv := [(0, .ref (ad x0)), (1, .int x1)]) (Nat.le_of_ble_eq_true rfl) rfl (fun ls hl => ?_)
  unfold f_X10_requireWord at hf
  refine lv_iload_n hx hb dX10_requireWord_0 rfl (lv_at hl 1 rfl) ?_
  refine lv_if_lt (tgt := 15) hx hb dX10_requireWord_1 (by decide) (fun hc => ?_) (fun hc => ?_)
  · have hf := aw_ite_t hc hf
    exact w_X10_requireWord_J15 X XT hf  (lv_sub hl [] rfl) G
  · have hf := aw_ite_f hc hf
    refine lv_iload_n hx hb dX10_requireWord_4 rfl (lv_at hl 1 rfl) ?_
    refine lv_aload_n hx hb dX10_requireWord_5 rfl (lv_at hl 0 rfl) ?_
    obtain ⟨hc_1, hf⟩ := aw_chk_some hf
    obtain ⟨q_2, hq_3, hf⟩ := aw_bind_some hf
    refine gf_X10_12 hx hb G hown hc_1 hq_3 dX10_requireWord_6 ?_
    obtain ⟨hc_4, hf⟩ := aw_chk_some hf
    refine gf_X10_112 hx hb G hown hc_4 dX10_requireWord_9 ?_
    refine lv_icmp_lt (tgt := 26) hx hb dX10_requireWord_12 (by decide) (fun hc => ?_) (fun hc => ?_)
    · have hf := aw_ite_t hc hf
      exact aw_xretv X G hf dX10_requireWord_26 (Nat.le_of_ble_eq_true rfl) (Nat.le_of_ble_eq_true rfl)
    · have hf := aw_ite_f hc hf
      exact w_X10_requireWord_J15 X XT hf  (lv_sub hl [] rfl) G
def rm_X10_readings : Room := { frames := 7, cells := 2, slots := 12, locals := 111 }
def f_X10_readings (σ : Sg) (x0 : Nat) (x1 : Int32) (x2 : Int32) (d : Dt) : Option ((Nat ⊕ Int64) × Dt) :=
  aw_chk (aw_O σ 10 13 x0) ((f_X10_requireDesign σ x0 x1 d).bind (fun z_1 => aw_th z_1 (fun _ => (f_X10_requireWord σ x0 x2 z_1.2).bind (fun z_4 => aw_th z_4 (fun _ => (σ.2.2 x0 3).bind (fun q_6 => aw_chk (aw_I σ 26 q_6 x1) ((σ.2.2 q_6 x1.toNatClampNeg).bind (fun q_9 => (f_X10_spellAll σ x0 q_9 z_4.2).bind (fun z_11 => (σ.2.2 x0 10).bind (fun q_13 => (σ.2.2 x0 7).bind (fun q_15 => aw_chk (aw_O σ 7 3 q_15) ((σ.2.2 q_15 0).bind (fun q_18 => aw_chk (aw_I σ 23 q_18 x2) ((σ.2.2 q_18 x2.toNatClampNeg).bind (fun q_21 => (σ.2.2 q_15 1).bind (fun q_23 => aw_chk (aw_I σ 20 q_23 x2) (aw_chk (aw_O σ 5 6 q_13) ((f_X5_countByUnits σ q_13 q_9 q_21 (z_11.2.1 q_23 x2.toNatClampNeg) z_11.2).bind (fun z_26 => some (Sum.inr z_26.1, z_26.2))))))))))))))))))))
section W_X10_readings
variable {p : Program} {l : Launch} {e : Env} {s : State} {m : MethodId} {args : Array Value} {below : List Frame} {meth : Method} {c : Code}
variable {D : va_G} {cA : Nat → ClassId} {base : Nat} {ad : Nat → Nat} {σ : Sg}
end W_X10_readings
set_option maxHeartbeats 4000000 in
set_option maxRecDepth 100000 in
theorem c_X10_readings (l : Launch) (hst : l.stackTraces = false) {σ : Sg} {x0 : Nat} {x1 : Int32} {x2 : Int32} {d : Dt} {z : (Nat ⊕ Int64) × Dt} (hf : f_X10_readings σ x0 x1 x2 d = some z) : aw_Xl l yX10_readings (Cond.code yX10_readings cX10_readings 3 (some .long)) rm_X10_readings (fun ad => [.ref (ad x0), .int x1, .int x2]) σ d z := by
  intro D cA base ad
  refine aw_ofX (own := RX10) (cc := cX10_readings) (nL := 3) (ret := some .long) hst (by decide) rfl rfl ?_
  intro p e s m below meth c X XT G
  have hx := X.1; have hb := X.2.1; have hml := X.2.2.1; have hown := X.2.2.2.1
  refine aw_ls (lv := [(0, .ref (ad x0)), (1, .int x1), (2, .int x2)]) (Nat.le_of_ble_eq_true rfl) rfl (fun ls hl => ?_)
  unfold f_X10_readings at hf
  refine lv_aload_n hx hb dX10_readings_0 rfl (lv_at hl 0 rfl) ?_
  refine lv_iload_n hx hb dX10_readings_1 rfl (lv_at hl 1 rfl) ?_
  obtain ⟨hc_3, hf⟩ := aw_chk_some hf
  obtain ⟨z_1, hz_2, hf⟩ := aw_bind_some hf
  refine aw_XVV (As := [.int x1]) (rest := []) X XT G hl.1 cr_X10_176 (c_X10_requireDesign l XT.1 hz_2) rfl rfl rfl (by decide) hc_3 rfl ⟨Nat.le_of_ble_eq_true rfl, Nat.le_of_ble_eq_true rfl⟩ (Nat.le_of_ble_eq_true rfl) dX10_readings_2 ⟨Nat.le_of_ble_eq_true rfl, Nat.le_of_ble_eq_true rfl⟩ hf (Nat.le_of_ble_eq_true rfl) (Nat.le_of_ble_eq_true rfl) (fun H locs G hf => ?_)
  refine lv_aload_n hx hb dX10_readings_5 rfl (lv_at hl 0 rfl) ?_
  refine lv_iload_n hx hb dX10_readings_6 rfl (lv_at hl 2 rfl) ?_
  obtain ⟨z_4, hz_5, hf⟩ := aw_bind_some hf
  refine aw_XVV (As := [.int x2]) (rest := []) X XT G hl.1 cr_X10_150 (c_X10_requireWord l XT.1 hz_5) rfl rfl rfl (by decide) hc_3 rfl ⟨Nat.le_of_ble_eq_true rfl, Nat.le_of_ble_eq_true rfl⟩ (Nat.le_of_ble_eq_true rfl) dX10_readings_7 ⟨Nat.le_of_ble_eq_true rfl, Nat.le_of_ble_eq_true rfl⟩ hf (Nat.le_of_ble_eq_true rfl) (Nat.le_of_ble_eq_true rfl) (fun H locs G hf => ?_)
  refine lv_aload_n hx hb dX10_readings_10 rfl (lv_at hl 0 rfl) ?_
  refine lv_aload_n hx hb dX10_readings_11 rfl (lv_at hl 0 rfl) ?_
  obtain ⟨q_6, hq_7, hf⟩ := aw_bind_some hf
  refine gf_X10_29 hx hb G hown hc_3 hq_7 dX10_readings_12 ?_
  refine lv_iload_n hx hb dX10_readings_15 rfl (lv_at hl 1 rfl) ?_
  obtain ⟨hc_8, hf⟩ := aw_chk_some hf
  obtain ⟨q_9, hq_10, hf⟩ := aw_bind_some hf
  refine aw_qal hx hb G 26 _ rfl rfl (by decide) hc_8 hq_10 dX10_readings_16 ?_
  obtain ⟨z_11, hz_12, hf⟩ := aw_bind_some hf
  refine aw_VV (As := [.ref (ad q_9)]) (rest := []) X G hl.1 cr_X10_203 (c_X10_spellAll l hz_12) ⟨rfl, rfl⟩ rfl rfl rfl (by decide) hc_3 rfl ⟨Nat.le_of_ble_eq_true rfl, Nat.le_of_ble_eq_true rfl⟩ (Nat.le_of_ble_eq_true rfl) dX10_readings_17 ⟨Nat.le_of_ble_eq_true rfl, Nat.le_of_ble_eq_true rfl⟩ (fun H locs G => ?_)
  refine lv_aload_n hx hb dX10_readings_20 rfl (lv_at hl 0 rfl) ?_
  obtain ⟨q_13, hq_14, hf⟩ := aw_bind_some hf
  refine gf_X10_71 hx hb G hown hc_3 hq_14 dX10_readings_21 ?_
  refine lv_aload_n hx hb dX10_readings_24 rfl (lv_at hl 0 rfl) ?_
  refine gf_X10_29 hx hb G hown hc_3 hq_7 dX10_readings_25 ?_
  refine lv_iload_n hx hb dX10_readings_28 rfl (lv_at hl 1 rfl) ?_
  refine aw_qal hx hb G 26 _ rfl rfl (by decide) hc_8 hq_10 dX10_readings_29 ?_
  refine lv_aload_n hx hb dX10_readings_30 rfl (lv_at hl 0 rfl) ?_
  obtain ⟨q_15, hq_16, hf⟩ := aw_bind_some hf
  refine gf_X10_54 hx hb G hown hc_3 hq_16 dX10_readings_31 ?_
  obtain ⟨hc_17, hf⟩ := aw_chk_some hf
  obtain ⟨q_18, hq_19, hf⟩ := aw_bind_some hf
  refine gf_X10_208 hx hb G hown hc_17 hq_19 dX10_readings_34 ?_
  refine lv_iload_n hx hb dX10_readings_37 rfl (lv_at hl 2 rfl) ?_
  obtain ⟨hc_20, hf⟩ := aw_chk_some hf
  obtain ⟨q_21, hq_22, hf⟩ := aw_bind_some hf
  refine aw_qal hx hb G 23 _ rfl rfl (by decide) hc_20 hq_22 dX10_readings_38 ?_
  refine lv_aload_n hx hb dX10_readings_39 rfl (lv_at hl 0 rfl) ?_
  refine gf_X10_54 hx hb G hown hc_3 hq_16 dX10_readings_40 ?_
  obtain ⟨q_23, hq_24, hf⟩ := aw_bind_some hf
  refine gf_X10_207 hx hb G hown hc_17 hq_24 dX10_readings_43 ?_
  refine lv_iload_n hx hb dX10_readings_46 rfl (lv_at hl 2 rfl) ?_
  obtain ⟨hc_25, hf⟩ := aw_chk_some hf
  refine aw_ial hx hb G hc_25 dX10_readings_47 ?_
  obtain ⟨hc_28, hf⟩ := aw_chk_some hf
  obtain ⟨z_26, hz_27, hf⟩ := aw_bind_some hf
  refine aw_VL (As := [.ref (ad q_9), .ref (ad q_21), .int (z_11.2.1 q_23 x2.toNatClampNeg)]) (rest := []) X G hl.1 cr_X10_219 (c_X5_countByUnits l hz_27) ⟨rfl, rfl⟩ rfl rfl rfl (by decide) hc_28 rfl ⟨Nat.le_of_ble_eq_true rfl, Nat.le_of_ble_eq_true rfl⟩ (Nat.le_of_ble_eq_true rfl) dX10_readings_48 ⟨Nat.le_of_ble_eq_true rfl, Nat.le_of_ble_eq_true rfl⟩ (fun H locs G => ?_)
  exact aw_xretl X G hf dX10_readings_51 (Nat.le_of_ble_eq_true rfl) (Nat.le_of_ble_eq_true rfl)
def rm_X10_readingsAnew : Room := { frames := 7, cells := 2, slots := 12, locals := 111 }
def f_X10_readingsAnew (σ : Sg) (x0 : Nat) (x1 : Int32) (x2 : Int32) (d : Dt) : Option ((Nat ⊕ Int64) × Dt) :=
  aw_chk (aw_O σ 10 13 x0) ((f_X10_requireDesign σ x0 x1 d).bind (fun z_1 => aw_th z_1 (fun _ => (f_X10_requireWord σ x0 x2 z_1.2).bind (fun z_4 => aw_th z_4 (fun _ => (σ.2.2 x0 3).bind (fun q_6 => aw_chk (aw_I σ 26 q_6 x1) ((σ.2.2 q_6 x1.toNatClampNeg).bind (fun q_9 => (f_X10_spellAll σ x0 q_9 z_4.2).bind (fun z_11 => (σ.2.2 x0 10).bind (fun q_13 => (σ.2.2 x0 7).bind (fun q_15 => aw_chk (aw_O σ 7 3 q_15) ((σ.2.2 q_15 0).bind (fun q_18 => aw_chk (aw_I σ 23 q_18 x2) ((σ.2.2 q_18 x2.toNatClampNeg).bind (fun q_21 => (σ.2.2 q_15 1).bind (fun q_23 => aw_chk (aw_I σ 20 q_23 x2) (aw_chk (aw_O σ 5 6 q_13) ((f_X5_countBySyllables σ q_13 q_9 q_21 (z_11.2.1 q_23 x2.toNatClampNeg) z_11.2).bind (fun z_26 => some (Sum.inr z_26.1, z_26.2))))))))))))))))))))
section W_X10_readingsAnew
variable {p : Program} {l : Launch} {e : Env} {s : State} {m : MethodId} {args : Array Value} {below : List Frame} {meth : Method} {c : Code}
variable {D : va_G} {cA : Nat → ClassId} {base : Nat} {ad : Nat → Nat} {σ : Sg}
end W_X10_readingsAnew
set_option maxHeartbeats 4000000 in
set_option maxRecDepth 100000 in
theorem c_X10_readingsAnew (l : Launch) (hst : l.stackTraces = false) {σ : Sg} {x0 : Nat} {x1 : Int32} {x2 : Int32} {d : Dt} {z : (Nat ⊕ Int64) × Dt} (hf : f_X10_readingsAnew σ x0 x1 x2 d = some z) : aw_Xl l yX10_readingsAnew (Cond.code yX10_readingsAnew cX10_readingsAnew 3 (some .long)) rm_X10_readingsAnew (fun ad => [.ref (ad x0), .int x1, .int x2]) σ d z := by
  intro D cA base ad
  refine aw_ofX (own := RX10) (cc := cX10_readingsAnew) (nL := 3) (ret := some .long) hst (by decide) rfl rfl ?_
  intro p e s m below meth c X XT G
  have hx := X.1; have hb := X.2.1; have hml := X.2.2.1; have hown := X.2.2.2.1
  refine aw_ls (lv := [(0, .ref (ad x0)), (1, .int x1), (2, .int x2)]) (Nat.le_of_ble_eq_true rfl) rfl (fun ls hl => ?_)
  unfold f_X10_readingsAnew at hf
  refine lv_aload_n hx hb dX10_readingsAnew_0 rfl (lv_at hl 0 rfl) ?_
  refine lv_iload_n hx hb dX10_readingsAnew_1 rfl (lv_at hl 1 rfl) ?_
  obtain ⟨hc_3, hf⟩ := aw_chk_some hf
  obtain ⟨z_1, hz_2, hf⟩ := aw_bind_some hf
  refine aw_XVV (As := [.int x1]) (rest := []) X XT G hl.1 cr_X10_176 (c_X10_requireDesign l XT.1 hz_2) rfl rfl rfl (by decide) hc_3 rfl ⟨Nat.le_of_ble_eq_true rfl, Nat.le_of_ble_eq_true rfl⟩ (Nat.le_of_ble_eq_true rfl) dX10_readingsAnew_2 ⟨Nat.le_of_ble_eq_true rfl, Nat.le_of_ble_eq_true rfl⟩ hf (Nat.le_of_ble_eq_true rfl) (Nat.le_of_ble_eq_true rfl) (fun H locs G hf => ?_)
  refine lv_aload_n hx hb dX10_readingsAnew_5 rfl (lv_at hl 0 rfl) ?_
  refine lv_iload_n hx hb dX10_readingsAnew_6 rfl (lv_at hl 2 rfl) ?_
  obtain ⟨z_4, hz_5, hf⟩ := aw_bind_some hf
  refine aw_XVV (As := [.int x2]) (rest := []) X XT G hl.1 cr_X10_150 (c_X10_requireWord l XT.1 hz_5) rfl rfl rfl (by decide) hc_3 rfl ⟨Nat.le_of_ble_eq_true rfl, Nat.le_of_ble_eq_true rfl⟩ (Nat.le_of_ble_eq_true rfl) dX10_readingsAnew_7 ⟨Nat.le_of_ble_eq_true rfl, Nat.le_of_ble_eq_true rfl⟩ hf (Nat.le_of_ble_eq_true rfl) (Nat.le_of_ble_eq_true rfl) (fun H locs G hf => ?_)
  refine lv_aload_n hx hb dX10_readingsAnew_10 rfl (lv_at hl 0 rfl) ?_
  refine lv_aload_n hx hb dX10_readingsAnew_11 rfl (lv_at hl 0 rfl) ?_
  obtain ⟨q_6, hq_7, hf⟩ := aw_bind_some hf
  refine gf_X10_29 hx hb G hown hc_3 hq_7 dX10_readingsAnew_12 ?_
  refine lv_iload_n hx hb dX10_readingsAnew_15 rfl (lv_at hl 1 rfl) ?_
  obtain ⟨hc_8, hf⟩ := aw_chk_some hf
  obtain ⟨q_9, hq_10, hf⟩ := aw_bind_some hf
  refine aw_qal hx hb G 26 _ rfl rfl (by decide) hc_8 hq_10 dX10_readingsAnew_16 ?_
  obtain ⟨z_11, hz_12, hf⟩ := aw_bind_some hf
  refine aw_VV (As := [.ref (ad q_9)]) (rest := []) X G hl.1 cr_X10_203 (c_X10_spellAll l hz_12) ⟨rfl, rfl⟩ rfl rfl rfl (by decide) hc_3 rfl ⟨Nat.le_of_ble_eq_true rfl, Nat.le_of_ble_eq_true rfl⟩ (Nat.le_of_ble_eq_true rfl) dX10_readingsAnew_17 ⟨Nat.le_of_ble_eq_true rfl, Nat.le_of_ble_eq_true rfl⟩ (fun H locs G => ?_)
  refine lv_aload_n hx hb dX10_readingsAnew_20 rfl (lv_at hl 0 rfl) ?_
  obtain ⟨q_13, hq_14, hf⟩ := aw_bind_some hf
  refine gf_X10_71 hx hb G hown hc_3 hq_14 dX10_readingsAnew_21 ?_
  refine lv_aload_n hx hb dX10_readingsAnew_24 rfl (lv_at hl 0 rfl) ?_
  refine gf_X10_29 hx hb G hown hc_3 hq_7 dX10_readingsAnew_25 ?_
  refine lv_iload_n hx hb dX10_readingsAnew_28 rfl (lv_at hl 1 rfl) ?_
  refine aw_qal hx hb G 26 _ rfl rfl (by decide) hc_8 hq_10 dX10_readingsAnew_29 ?_
  refine lv_aload_n hx hb dX10_readingsAnew_30 rfl (lv_at hl 0 rfl) ?_
  obtain ⟨q_15, hq_16, hf⟩ := aw_bind_some hf
  refine gf_X10_54 hx hb G hown hc_3 hq_16 dX10_readingsAnew_31 ?_
  obtain ⟨hc_17, hf⟩ := aw_chk_some hf
  obtain ⟨q_18, hq_19, hf⟩ := aw_bind_some hf
  refine gf_X10_208 hx hb G hown hc_17 hq_19 dX10_readingsAnew_34 ?_
  refine lv_iload_n hx hb dX10_readingsAnew_37 rfl (lv_at hl 2 rfl) ?_
  obtain ⟨hc_20, hf⟩ := aw_chk_some hf
  obtain ⟨q_21, hq_22, hf⟩ := aw_bind_some hf
  refine aw_qal hx hb G 23 _ rfl rfl (by decide) hc_20 hq_22 dX10_readingsAnew_38 ?_
  refine lv_aload_n hx hb dX10_readingsAnew_39 rfl (lv_at hl 0 rfl) ?_
  refine gf_X10_54 hx hb G hown hc_3 hq_16 dX10_readingsAnew_40 ?_
  obtain ⟨q_23, hq_24, hf⟩ := aw_bind_some hf
  refine gf_X10_207 hx hb G hown hc_17 hq_24 dX10_readingsAnew_43 ?_
  refine lv_iload_n hx hb dX10_readingsAnew_46 rfl (lv_at hl 2 rfl) ?_
  obtain ⟨hc_25, hf⟩ := aw_chk_some hf
  refine aw_ial hx hb G hc_25 dX10_readingsAnew_47 ?_
  obtain ⟨hc_28, hf⟩ := aw_chk_some hf
  obtain ⟨z_26, hz_27, hf⟩ := aw_bind_some hf
  refine aw_VL (As := [.ref (ad q_9), .ref (ad q_21), .int (z_11.2.1 q_23 x2.toNatClampNeg)]) (rest := []) X G hl.1 cr_X10_223 (c_X5_countBySyllables l hz_27) ⟨rfl, rfl⟩ rfl rfl rfl (by decide) hc_28 rfl ⟨Nat.le_of_ble_eq_true rfl, Nat.le_of_ble_eq_true rfl⟩ (Nat.le_of_ble_eq_true rfl) dX10_readingsAnew_48 ⟨Nat.le_of_ble_eq_true rfl, Nat.le_of_ble_eq_true rfl⟩ (fun H locs G => ?_)
  exact aw_xretl X G hf dX10_readingsAnew_51 (Nat.le_of_ble_eq_true rfl) (Nat.le_of_ble_eq_true rfl)
