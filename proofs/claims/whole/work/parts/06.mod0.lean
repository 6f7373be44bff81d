/-! X11_thrown X11_fails X11_isIn X11_isWord X11_isDesign X11_isDialect X11_isSign X11_syllable X11_word X11_isValue X11_change X11_times X11_of X11_speaks X11_spoken X11_design X11_isUnit X11_units X11_isOf X11_assign -/
def rm_X11_thrown : Room := { frames := 0, cells := 0, slots := 0, locals := 0 }
def f_X11_thrown (σ : Sg) (x0 : Nat) (d : Dt) : Option (Int32 × Dt) :=
  aw_chk (aw_O σ 11 32 x0) (some (d.1 x0 31, d))
section W_X11_thrown
variable {p : Program} {l : Launch} {e : Env} {s : State} {m : MethodId} {args : Array Value} {below : List Frame} {meth : Method} {c : Code}
variable {D : va_G} {cA : Nat → ClassId} {base : Nat} {ad : Nat → Nat} {σ : Sg}
end W_X11_thrown
set_option maxHeartbeats 4000000 in
set_option maxRecDepth 100000 in
theorem c_X11_thrown (l : Launch) {σ : Sg} {x0 : Nat} {d : Dt} {z : Int32 × Dt} (hf : f_X11_thrown σ x0 d = some z) : aw_Mi l yX11_thrown (Cond.code yX11_thrown cX11_thrown 1 (some .int)) rm_X11_thrown (fun ad => [.ref (ad x0)]) σ d z := by
  intro D cA base ad
  refine aw_ofW (own := RX11) (cc := cX11_thrown) (nL := 1) (ret := some .int) (by decide) rfl rfl ?_
  intro p e s m below meth c X hnm G
  have hx := X.1; have hb := X.2.1; have hml := X.2.2.1; have hown := X.2.2.2.1
  refine aw_ls (lv := [(0, .ref (ad x0))]) (Nat.le_of_ble_eq_true rfl) rfl (fun ls hl => ?_)
  unfold f_X11_thrown at hf
  refine lv_aload_n hx hb dX11_thrown_0 rfl (lv_at hl 0 rfl) ?_
  obtain ⟨hc_1, hf⟩ := aw_chk_some hf
  refine gf_X11_96 hx hb G hown hc_1 dX11_thrown_1 ?_
  exact aw_reti X G hf dX11_thrown_4
def rm_X11_fails : Room := { frames := 0, cells := 0, slots := 0, locals := 0 }
def f_X11_fails_J14 (σ : Sg) (t0 : Int32) (d : Dt) : Option (Int32 × Dt) :=
  aw_chk (t0 &&& 1 = t0) (some (t0, d))
def f_X11_fails (σ : Sg) (x0 : Nat) (x1 : Int32) (d : Dt) : Option (Int32 × Dt) :=
  aw_chk (aw_O σ 11 32 x0) (if x1 ≤ 0 then f_X11_fails_J14 σ ((0 : Int32)) (aw_sI d x0 31 x1) else f_X11_fails_J14 σ ((1 : Int32)) (aw_sI d x0 31 x1))
section W_X11_fails
variable {p : Program} {l : Launch} {e : Env} {s : State} {m : MethodId} {args : Array Value} {below : List Frame} {meth : Method} {c : Code}
variable {D : va_G} {cA : Nat → ClassId} {base : Nat} {ad : Nat → Nat} {σ : Sg}
set_option maxHeartbeats 4000000 in
set_option maxRecDepth 100000 in
theorem w_X11_fails_J14 {z : Int32 × Dt} (X : aw_X p c cX11_fails 2 s RX11 m meth (some .boolean)) {t0 : Int32} {d : Dt} (hf : f_X11_fails_J14 σ t0 d = some z)  {H : Heap} {locs : List Loc} {ls : Array Slot} (hl : lv_has ls 2 []) (G : aw_G D cA base ad σ d s H locs) : W p l e rm_X11_fails s m args below meth c H locs 0 0 (aw_Ei D cA base ad σ below args s z) (F0 m 14 ls [.int t0]) := by
  have hx := X.1; have hb := X.2.1; have hml := X.2.2.1; have hown := X.2.2.2.1
  unfold f_X11_fails_J14 at hf
  obtain ⟨hc_2, hf⟩ := aw_chk_some hf
  exact aw_retz X G hc_2 hf dX11_fails_14
end W_X11_fails
set_option maxHeartbeats 4000000 in
set_option maxRecDepth 100000 in
theorem c_X11_fails (l : Launch) {σ : Sg} {x0 : Nat} {x1 : Int32} {d : Dt} {z : Int32 × Dt} (hf : f_X11_fails σ x0 x1 d = some z) : aw_Mi l yX11_fails (Cond.code yX11_fails cX11_fails 2 (some .boolean)) rm_X11_fails (fun ad => [.ref (ad x0), .int x1]) σ d z := by
  intro D cA base ad
  refine aw_ofW (own := RX11) (cc := cX11_fails) (nL := 2) (ret := some .boolean) (by decide) rfl rfl ?_
  intro p e s m below meth c X hnm G
  have hx := X.1; have hb := X.2.1; have hml := X.2.2.1; have hown := X.2.2.2.1
  refine aw_ls (lv := [(0, .ref (ad x0)), (1, .int x1)]) (Nat.le_of_ble_eq_true rfl) rfl (fun ls hl => ?_)
  unfold f_X11_fails at hf
  refine lv_aload_n hx hb dX11_fails_0 rfl (lv_at hl 0 rfl) ?_
  refine lv_iload_n hx hb dX11_fails_1 rfl (lv_at hl 1 rfl) ?_
  obtain ⟨hc_1, hf⟩ := aw_chk_some hf
  refine pf_X11_96 hx hb G hown hc_1 dX11_fails_2 (fun H locs G => ?_)
  refine lv_iload_n hx hb dX11_fails_5 rfl (lv_at hl 1 rfl) ?_
  refine lv_if_le (tgt := 13) hx hb dX11_fails_6 (by decide) (fun hc => ?_) (fun hc => ?_)
  · have hf := aw_ite_t hc hf
    refine lv_iconst (v := (0 : Int32)) hx hb dX11_fails_13 (by decide) ?_
    exact w_X11_fails_J14 X hf  (lv_sub hl [] rfl) G
  · have hf := aw_ite_f hc hf
    refine lv_iconst (v := (1 : Int32)) hx hb dX11_fails_9 (by decide) ?_
    refine lv_goto (tgt := 14) hx hb dX11_fails_10 (by decide) ?_
    exact w_X11_fails_J14 X hf  (lv_sub hl [] rfl) G
def rm_X11_isIn : Room := { frames := 0, cells := 0, slots := 0, locals := 0 }
def f_X11_isIn_J15 (σ : Sg) (t0 : Int32) (d : Dt) : Option (Int32 × Dt) :=
  aw_chk (t0 &&& 1 = t0) (some (t0, d))
def f_X11_isIn_J14 (σ : Sg)  (d : Dt) : Option (Int32 × Dt) :=
  f_X11_isIn_J15 σ ((0 : Int32)) d
def f_X11_isIn (σ : Sg) (x0 : Int32) (x1 : Int32) (x2 : Int32) (d : Dt) : Option (Int32 × Dt) :=
  if x0 < x1 then f_X11_isIn_J14 σ d else if x2 < x0 then f_X11_isIn_J14 σ d else f_X11_isIn_J15 σ ((1 : Int32)) d
section W_X11_isIn
variable {p : Program} {l : Launch} {e : Env} {s : State} {m : MethodId} {args : Array Value} {below : List Frame} {meth : Method} {c : Code}
variable {D : va_G} {cA : Nat → ClassId} {base : Nat} {ad : Nat → Nat} {σ : Sg}
set_option maxHeartbeats 4000000 in
set_option maxRecDepth 100000 in
theorem w_X11_isIn_J15 {z : Int32 × Dt} (X : aw_X p c cX11_isIn 3 s RX11 m meth (some .boolean)) {t0 : Int32} {d : Dt} (hf : f_X11_isIn_J15 σ t0 d = some z)  {H : Heap} {locs : List Loc} {ls : Array Slot} (hl : lv_has ls 3 []) (G : aw_G D cA base ad σ d s H locs) : W p l e rm_X11_isIn s m args below meth c H locs 0 0 (aw_Ei D cA base ad σ below args s z) (F0 m 15 ls [.int t0]) := by
  have hx := X.1; have hb := X.2.1; have hml := X.2.2.1; have hown := X.2.2.2.1
  unfold f_X11_isIn_J15 at hf
  obtain ⟨hc_1, hf⟩ := aw_chk_some hf
  exact aw_retz X G hc_1 hf dX11_isIn_15
set_option maxHeartbeats 4000000 in
set_option maxRecDepth 100000 in
theorem w_X11_isIn_J14 {z : Int32 × Dt} (X : aw_X p c cX11_isIn 3 s RX11 m meth (some .boolean))  {d : Dt} (hf : f_X11_isIn_J14 σ d = some z)  {H : Heap} {locs : List Loc} {ls : Array Slot} (hl : lv_has ls 3 []) (G : aw_G D cA base ad σ d s H locs) : W p l e rm_X11_isIn s m args below meth c H locs 0 0 (aw_Ei D cA base ad σ below args s z) (F0 m 14 ls []) := by
  have hx := X.1; have hb := X.2.1; have hml := X.2.2.1; have hown := X.2.2.2.1
  unfold f_X11_isIn_J14 at hf
  refine lv_iconst (v := (0 : Int32)) hx hb dX11_isIn_14 (by decide) ?_
  exact w_X11_isIn_J15 X hf  (lv_sub hl [] rfl) G
end W_X11_isIn
set_option maxHeartbeats 4000000 in
set_option maxRecDepth 100000 in
theorem c_X11_isIn (l : Launch) {σ : Sg} {x0 : Int32} {x1 : Int32} {x2 : Int32} {d : Dt} {z : Int32 × Dt} (hf : f_X11_isIn σ x0 x1 x2 d = some z) : aw_Mi l yX11_isIn (Cond.code yX11_isIn cX11_isIn 3 (some .boolean)) rm_X11_isIn (fun ad => [.int x0, .int x1, .int x2]) σ d z := by
  intro D cA base ad
  refine aw_ofW (own := RX11) (cc := cX11_isIn) (nL := 3) (ret := some .boolean) (by decide) rfl rfl ?_
  intro p e s m below meth c X hnm G
  have hx := X.1; have hb := X.2.1; have hml := X.2.2.1; have hown := X.2.2.2.1
  refine aw_ls (lv := [(0, .int x0), (1, .int x1), (2, .int x2)]) (Nat.le_of_ble_eq_true rfl) rfl (fun ls hl => ?_)
  unfold f_X11_isIn at hf
  refine lv_iload_n hx hb dX11_isIn_0 rfl (lv_at hl 0 rfl) ?_
  refine lv_iload_n hx hb dX11_isIn_1 rfl (lv_at hl 1 rfl) ?_
  refine lv_icmp_lt (tgt := 14) hx hb dX11_isIn_2 (by decide) (fun hc => ?_) (fun hc => ?_)
  · have hf := aw_ite_t hc hf
    exact w_X11_isIn_J14 X hf  (lv_sub hl [] rfl) G
  · have hf := aw_ite_f hc hf
    refine lv_iload_n hx hb dX11_isIn_5 rfl (lv_at hl 0 rfl) ?_
    refine lv_iload_n hx hb dX11_isIn_6 rfl (lv_at hl 2 rfl) ?_
    refine lv_icmp_gt (tgt := 14) hx hb dX11_isIn_7 (by decide) (fun hc => ?_) (fun hc => ?_)
    · have hf := aw_ite_t hc hf
      exact w_X11_isIn_J14 X hf  (lv_sub hl [] rfl) G
    · have hf := aw_ite_f hc hf
      refine lv_iconst (v := (1 : Int32)) hx hb dX11_isIn_10 (by decide) ?_
      refine lv_goto (tgt := 15) hx hb dX11_isIn_11 (by decide) ?_
      exact w_X11_isIn_J15 X hf  (lv_sub hl [] rfl) G
def rm_X11_isWord : Room := { frames := 1, cells := 0, slots := 0, locals := 22 }
def f_X11_isWord (σ : Sg) (x0 : Nat) (x1 : Int32) (d : Dt) : Option (Int32 × Dt) :=
  aw_chk (aw_O σ 11 32 x0) ((f_X11_isIn σ x1 ((0 : Int32)) ((d.1 x0 2) - ((1 : Int32))) d).bind (fun z_2 => aw_chk (z_2.1 &&& 1 = z_2.1) (some (z_2.1, z_2.2))))
section W_X11_isWord
variable {p : Program} {l : Launch} {e : Env} {s : State} {m : MethodId} {args : Array Value} {below : List Frame} {meth : Method} {c : Code}
variable {D : va_G} {cA : Nat → ClassId} {base : Nat} {ad : Nat → Nat} {σ : Sg}
end W_X11_isWord
set_option maxHeartbeats 4000000 in
set_option maxRecDepth 100000 in
theorem c_X11_isWord (l : Launch) {σ : Sg} {x0 : Nat} {x1 : Int32} {d : Dt} {z : Int32 × Dt} (hf : f_X11_isWord σ x0 x1 d = some z) : aw_Mi l yX11_isWord (Cond.code yX11_isWord cX11_isWord 2 (some .boolean)) rm_X11_isWord (fun ad => [.ref (ad x0), .int x1]) σ d z := by
  intro D cA base ad
  refine aw_ofW (own := RX11) (cc := cX11_isWord) (nL := 2) (ret := some .boolean) (by decide) rfl rfl ?_
  intro p e s m below meth c X hnm G
  have hx := X.1; have hb := X.2.1; have hml := X.2.2.1; have hown := X.2.2.2.1
  refine aw_ls (lv := [(0, .ref (ad x0)), (1, .int x1)]) (Nat.le_of_ble_eq_true rfl) rfl (fun ls hl => ?_)
  unfold f_X11_isWord at hf
  refine lv_iload_n hx hb dX11_isWord_0 rfl (lv_at hl 1 rfl) ?_
  refine lv_iconst (v := (0 : Int32)) hx hb dX11_isWord_1 (by decide) ?_
  refine lv_aload_n hx hb dX11_isWord_2 rfl (lv_at hl 0 rfl) ?_
  obtain ⟨hc_1, hf⟩ := aw_chk_some hf
  refine gf_X11_100 hx hb G hown hc_1 dX11_isWord_3 ?_
  refine lv_iconst (v := (1 : Int32)) hx hb dX11_isWord_6 (by decide) ?_
  refine lv_isub hx hb dX11_isWord_7 ?_
  obtain ⟨z_2, hz_3, hf⟩ := aw_bind_some hf
  refine aw_SI (As := [.int x1, .int ((0 : Int32)), .int ((d.1 x0 2) - ((1 : Int32)))]) (rest := []) X G hl.1 cr_X11_103 (c_X11_isIn l hz_3) ⟨rfl, rfl⟩ rfl rfl rfl ⟨Nat.le_of_ble_eq_true rfl, Nat.le_of_ble_eq_true rfl⟩ (Nat.le_of_ble_eq_true rfl) dX11_isWord_8 ⟨Nat.zero_le _, Nat.zero_le _⟩ (fun H locs G => ?_)
  obtain ⟨hc_4, hf⟩ := aw_chk_some hf
  exact aw_retz X G hc_4 hf dX11_isWord_11
def rm_X11_isDesign : Room := { frames := 1, cells := 0, slots := 0, locals := 22 }
def f_X11_isDesign (σ : Sg) (x0 : Nat) (x1 : Int32) (d : Dt) : Option (Int32 × Dt) :=
  aw_chk (aw_O σ 11 32 x0) ((f_X11_isIn σ x1 ((0 : Int32)) ((d.1 x0 11) - ((1 : Int32))) d).bind (fun z_2 => aw_chk (z_2.1 &&& 1 = z_2.1) (some (z_2.1, z_2.2))))
section W_X11_isDesign
variable {p : Program} {l : Launch} {e : Env} {s : State} {m : MethodId} {args : Array Value} {below : List Frame} {meth : Method} {c : Code}
variable {D : va_G} {cA : Nat → ClassId} {base : Nat} {ad : Nat → Nat} {σ : Sg}
end W_X11_isDesign
set_option maxHeartbeats 4000000 in
set_option maxRecDepth 100000 in
theorem c_X11_isDesign (l : Launch) {σ : Sg} {x0 : Nat} {x1 : Int32} {d : Dt} {z : Int32 × Dt} (hf : f_X11_isDesign σ x0 x1 d = some z) : aw_Mi l yX11_isDesign (Cond.code yX11_isDesign cX11_isDesign 2 (some .boolean)) rm_X11_isDesign (fun ad => [.ref (ad x0), .int x1]) σ d z := by
  intro D cA base ad
  refine aw_ofW (own := RX11) (cc := cX11_isDesign) (nL := 2) (ret := some .boolean) (by decide) rfl rfl ?_
  intro p e s m below meth c X hnm G
  have hx := X.1; have hb := X.2.1; have hml := X.2.2.1; have hown := X.2.2.2.1
  refine aw_ls (lv := [(0, .ref (ad x0)), (1, .int x1)]) (Nat.le_of_ble_eq_true rfl) rfl (fun ls hl => ?_)
  unfold f_X11_isDesign at hf
  refine lv_iload_n hx hb dX11_isDesign_0 rfl (lv_at hl 1 rfl) ?_
  refine lv_iconst (v := (0 : Int32)) hx hb dX11_isDesign_1 (by decide) ?_
  refine lv_aload_n hx hb dX11_isDesign_2 rfl (lv_at hl 0 rfl) ?_
  obtain ⟨hc_1, hf⟩ := aw_chk_some hf
  refine gf_X11_107 hx hb G hown hc_1 dX11_isDesign_3 ?_
  refine lv_iconst (v := (1 : Int32)) hx hb dX11_isDesign_6 (by decide) ?_
  refine lv_isub hx hb dX11_isDesign_7 ?_
  obtain ⟨z_2, hz_3, hf⟩ := aw_bind_some hf
  refine aw_SI (As := [.int x1, .int ((0 : Int32)), .int ((d.1 x0 11) - ((1 : Int32)))]) (rest := []) X G hl.1 cr_X11_103 (c_X11_isIn l hz_3) ⟨rfl, rfl⟩ rfl rfl rfl ⟨Nat.le_of_ble_eq_true rfl, Nat.le_of_ble_eq_true rfl⟩ (Nat.le_of_ble_eq_true rfl) dX11_isDesign_8 ⟨Nat.zero_le _, Nat.zero_le _⟩ (fun H locs G => ?_)
  obtain ⟨hc_4, hf⟩ := aw_chk_some hf
  exact aw_retz X G hc_4 hf dX11_isDesign_11
def rm_X11_isDialect : Room := { frames := 1, cells := 0, slots := 0, locals := 22 }
def f_X11_isDialect (σ : Sg) (x0 : Int32) (d : Dt) : Option (Int32 × Dt) :=
  (f_X11_isIn σ x0 ((0 : Int32)) ((2 : Int32)) d).bind (fun z_1 => aw_chk (z_1.1 &&& 1 = z_1.1) (some (z_1.1, z_1.2)))
section W_X11_isDialect
variable {p : Program} {l : Launch} {e : Env} {s : State} {m : MethodId} {args : Array Value} {below : List Frame} {meth : Method} {c : Code}
variable {D : va_G} {cA : Nat → ClassId} {base : Nat} {ad : Nat → Nat} {σ : Sg}
end W_X11_isDialect
set_option maxHeartbeats 4000000 in
set_option maxRecDepth 100000 in
theorem c_X11_isDialect (l : Launch) {σ : Sg} {x0 : Int32} {d : Dt} {z : Int32 × Dt} (hf : f_X11_isDialect σ x0 d = some z) : aw_Mi l yX11_isDialect (Cond.code yX11_isDialect cX11_isDialect 1 (some .boolean)) rm_X11_isDialect (fun ad => [.int x0]) σ d z := by
  intro D cA base ad
  refine aw_ofW (own := RX11) (cc := cX11_isDialect) (nL := 1) (ret := some .boolean) (by decide) rfl rfl ?_
  intro p e s m below meth c X hnm G
  have hx := X.1; have hb := X.2.1; have hml := X.2.2.1; have hown := X.2.2.2.1
  refine aw_ls (lv := [(0, .int x0)]) (Nat.le_of_ble_eq_true rfl) rfl (fun ls hl => ?_)
  unfold f_X11_isDialect at hf
  refine lv_iload_n hx hb dX11_isDialect_0 rfl (lv_at hl 0 rfl) ?_
  refine lv_iconst (v := (0 : Int32)) hx hb dX11_isDialect_1 (by decide) ?_
  refine lv_iconst (v := (2 : Int32)) hx hb dX11_isDialect_2 (by decide) ?_
  obtain ⟨z_1, hz_2, hf⟩ := aw_bind_some hf
  refine aw_SI (As := [.int x0, .int ((0 : Int32)), .int ((2 : Int32))]) (rest := []) X G hl.1 cr_X11_103 (c_X11_isIn l hz_2) ⟨rfl, rfl⟩ rfl rfl rfl ⟨Nat.le_of_ble_eq_true rfl, Nat.le_of_ble_eq_true rfl⟩ (Nat.le_of_ble_eq_true rfl) dX11_isDialect_3 ⟨Nat.zero_le _, Nat.zero_le _⟩ (fun H locs G => ?_)
  obtain ⟨hc_3, hf⟩ := aw_chk_some hf
  exact aw_retz X G hc_3 hf dX11_isDialect_6
def rm_X11_isSign : Room := { frames := 1, cells := 0, slots := 0, locals := 22 }
def f_X11_isSign (σ : Sg) (x0 : Int32) (d : Dt) : Option (Int32 × Dt) :=
  (f_X11_isIn σ x0 ((0 : Int32)) ((49 : Int32)) d).bind (fun z_1 => aw_chk (z_1.1 &&& 1 = z_1.1) (some (z_1.1, z_1.2)))
section W_X11_isSign
variable {p : Program} {l : Launch} {e : Env} {s : State} {m : MethodId} {args : Array Value} {below : List Frame} {meth : Method} {c : Code}
variable {D : va_G} {cA : Nat → ClassId} {base : Nat} {ad : Nat → Nat} {σ : Sg}
end W_X11_isSign
set_option maxHeartbeats 4000000 in
set_option maxRecDepth 100000 in
theorem c_X11_isSign (l : Launch) {σ : Sg} {x0 : Int32} {d : Dt} {z : Int32 × Dt} (hf : f_X11_isSign σ x0 d = some z) : aw_Mi l yX11_isSign (Cond.code yX11_isSign cX11_isSign 1 (some .boolean)) rm_X11_isSign (fun ad => [.int x0]) σ d z := by
  intro D cA base ad
  refine aw_ofW (own := RX11) (cc := cX11_isSign) (nL := 1) (ret := some .boolean) (by decide) rfl rfl ?_
  intro p e s m below meth c X hnm G
  have hx := X.1; have hb := X.2.1; have hml := X.2.2.1; have hown := X.2.2.2.1
  refine aw_ls (lv := [(0, .int x0)]) (Nat.le_of_ble_eq_true rfl) rfl (fun ls hl => ?_)
  unfold f_X11_isSign at hf
  refine lv_iload_n hx hb dX11_isSign_0 rfl (lv_at hl 0 rfl) ?_
  refine lv_iconst (v := (0 : Int32)) hx hb dX11_isSign_1 (by decide) ?_
  refine lv_bipush (v := (49 : Int32)) hx hb dX11_isSign_2 (by decide) ?_
  obtain ⟨z_1, hz_2, hf⟩ := aw_bind_some hf
  refine aw_SI (As := [.int x0, .int ((0 : Int32)), .int ((49 : Int32))]) (rest := []) X G hl.1 cr_X11_103 (c_X11_isIn l hz_2) ⟨rfl, rfl⟩ rfl rfl rfl ⟨Nat.le_of_ble_eq_true rfl, Nat.le_of_ble_eq_true rfl⟩ (Nat.le_of_ble_eq_true rfl) dX11_isSign_4 ⟨Nat.zero_le _, Nat.zero_le _⟩ (fun H locs G => ?_)
  obtain ⟨hc_3, hf⟩ := aw_chk_some hf
  exact aw_retz X G hc_3 hf dX11_isSign_7
def rm_X11_syllable : Room := { frames := 1, cells := 0, slots := 0, locals := 22 }
def f_X11_syllable_J29 (σ : Sg) (t1 : Int32) (t0 : Nat) (x0 : Nat) (x1 : Int32) (d : Dt) : Option (Int32 × Dt) :=
  aw_chk (aw_O σ 11 32 t0) ((f_X11_fails σ t0 t1 d).bind (fun z_4 => if z_4.1 = 0 then aw_chk (aw_O σ 11 32 x0) ((σ.2.2 x0 1).bind (fun q_8 => aw_chk (aw_I σ 20 q_8 (z_4.2.1 x0 0)) (some ((aw_sI (aw_sI z_4.2 q_8 (z_4.2.1 x0 0).toNatClampNeg x1) x0 0 (((aw_sI z_4.2 q_8 (z_4.2.1 x0 0).toNatClampNeg x1).1 x0 0) + ((1 : Int32)))).1 x0 0, aw_sI (aw_sI z_4.2 q_8 (z_4.2.1 x0 0).toNatClampNeg x1) x0 0 (((aw_sI z_4.2 q_8 (z_4.2.1 x0 0).toNatClampNeg x1).1 x0 0) + ((1 : Int32))))))) else some ((0 : Int32), z_4.2)))
def f_X11_syllable (σ : Sg) (x0 : Nat) (x1 : Int32) (d : Dt) : Option (Int32 × Dt) :=
  (f_X11_isIn σ x1 ((0 : Int32)) ((971 : Int32)) d).bind (fun z_1 => if z_1.1 = 0 then f_X11_syllable_J29 σ ((1 : Int32)) x0 x0 x1 z_1.2 else aw_chk (aw_O σ 11 32 x0) (if (z_1.2.1 x0 0) = ((4 : Int32)) then f_X11_syllable_J29 σ ((2 : Int32)) x0 x0 x1 z_1.2 else f_X11_syllable_J29 σ ((0 : Int32)) x0 x0 x1 z_1.2))
section W_X11_syllable
variable {p : Program} {l : Launch} {e : Env} {s : State} {m : MethodId} {args : Array Value} {below : List Frame} {meth : Method} {c : Code}
variable {D : va_G} {cA : Nat → ClassId} {base : Nat} {ad : Nat → Nat} {σ : Sg}
set_option maxHeartbeats 4000000 in
set_option maxRecDepth 100000 in
theorem w_X11_syllable_J29 {z : Int32 × Dt} (X : aw_X p c cX11_syllable 2 s RX11 m meth (some .int)) {t1 : Int32} {t0 : Nat} {x0 : Nat} {x1 : Int32} {d : Dt} (hf : f_X11_syllable_J29 σ t1 t0 x0 x1 d = some z)  {H : Heap} {locs : List Loc} {ls : Array Slot} (hl : lv_has ls 2 [(0, .ref (ad x0)), (1, .int x1)]) (G : aw_G D cA base ad σ d s H locs) : W p l e rm_X11_syllable s m args below meth c H locs 0 0 (aw_Ei D cA base ad σ below args s z) (F0 m 29 ls [.int t1, .ref (ad t0)]) := by
  have hx := X.1; have hb := X.2.1; have hml := X.2.2.1; have hown := X.2.2.2.1
  unfold f_X11_syllable_J29 at hf
  obtain ⟨hc_6, hf⟩ := aw_chk_some hf
  obtain ⟨z_4, hz_5, hf⟩ := aw_bind_some hf
  refine aw_VI (As := [.int t1]) (rest := []) X G hl.1 cr_X11_113 (c_X11_fails l hz_5) ⟨rfl, rfl⟩ rfl rfl rfl (by decide) hc_6 rfl ⟨Nat.le_of_ble_eq_true rfl, Nat.le_of_ble_eq_true rfl⟩ (Nat.le_of_ble_eq_true rfl) dX11_syllable_29 ⟨Nat.zero_le _, Nat.zero_le _⟩ (fun H locs G => ?_)
  refine lv_if_eq (tgt := 37) hx hb dX11_syllable_32 (by decide) (fun hc => ?_) (fun hc => ?_)
  · have hf := aw_ite_t hc hf
    refine lv_aload_n hx hb dX11_syllable_37 rfl (lv_at hl 0 rfl) ?_
    obtain ⟨hc_7, hf⟩ := aw_chk_some hf
    obtain ⟨q_8, hq_9, hf⟩ := aw_bind_some hf
    refine gf_X11_7 hx hb G hown hc_7 hq_9 dX11_syllable_38 ?_
    refine lv_aload_n hx hb dX11_syllable_41 rfl (lv_at hl 0 rfl) ?_
    refine gf_X11_110 hx hb G hown hc_7 dX11_syllable_42 ?_
    refine lv_iload_n hx hb dX11_syllable_45 rfl (lv_at hl 1 rfl) ?_
    obtain ⟨hc_10, hf⟩ := aw_chk_some hf
    refine aw_ias hx hb G hc_10 dX11_syllable_46 (fun H locs G => ?_)
    refine lv_aload_n hx hb dX11_syllable_47 rfl (lv_at hl 0 rfl) ?_
    refine lv_dup hx hb dX11_syllable_48 rfl ?_
    refine gf_X11_110 hx hb G hown hc_7 dX11_syllable_49 ?_
    refine lv_iconst (v := (1 : Int32)) hx hb dX11_syllable_52 (by decide) ?_
    refine lv_iadd hx hb dX11_syllable_53 ?_
    refine pf_X11_110 hx hb G hown hc_7 dX11_syllable_54 (fun H locs G => ?_)
    refine lv_aload_n hx hb dX11_syllable_57 rfl (lv_at hl 0 rfl) ?_
    refine gf_X11_110 hx hb G hown hc_7 dX11_syllable_58 ?_
    exact aw_reti X G hf dX11_syllable_61
  · have hf := aw_ite_f hc hf
    refine lv_iconst (v := (0 : Int32)) hx hb dX11_syllable_35 (by decide) ?_
    exact aw_reti X G hf dX11_syllable_36
end W_X11_syllable
set_option maxHeartbeats 4000000 in
set_option maxRecDepth 100000 in
theorem c_X11_syllable (l : Launch) {σ : Sg} {x0 : Nat} {x1 : Int32} {d : Dt} {z : Int32 × Dt} (hf : f_X11_syllable σ x0 x1 d = some z) : aw_Mi l yX11_syllable (Cond.code yX11_syllable cX11_syllable 2 (some .int)) rm_X11_syllable (fun ad => [.ref (ad x0), .int x1]) σ d z := by
  intro D cA base ad
  refine aw_ofW (own := RX11) (cc := cX11_syllable) (nL := 2) (ret := some .int) (by decide) rfl rfl ?_
  intro p e s m below meth c X hnm G
  have hx := X.1; have hb := X.2.1; have hml := X.2.2.1; have hown := X.2.2.2.1
  refine aw_ls (lv := [(0, .ref (ad x0)), (1, .int x1)]) (Nat.le_of_ble_eq_true rfl) rfl (fun ls hl => ?_)
  unfold f_X11_syllable at hf
  refine lv_aload_n hx hb dX11_syllable_0 rfl (lv_at hl 0 rfl) ?_
  refine lv_iload_n hx hb dX11_syllable_1 rfl (lv_at hl 1 rfl) ?_
  refine lv_iconst (v := (0 : Int32)) hx hb dX11_syllable_2 (by decide) ?_
  refine lv_sipush (v := (971 : Int32)) hx hb dX11_syllable_3 (by decide) ?_
  obtain ⟨z_1, hz_2, hf⟩ := aw_bind_some hf
  refine aw_SI (As := [.int x1, .int ((0 : Int32)), .int ((971 : Int32))]) (rest := [.ref (ad x0)]) X G hl.1 cr_X11_103 (c_X11_isIn l hz_2) ⟨rfl, rfl⟩ rfl rfl rfl ⟨Nat.le_of_ble_eq_true rfl, Nat.le_of_ble_eq_true rfl⟩ (Nat.le_of_ble_eq_true rfl) dX11_syllable_6 ⟨Nat.zero_le _, Nat.zero_le _⟩ (fun H locs G => ?_)
  refine lv_if_ne (tgt := 16) hx hb dX11_syllable_9 (by decide) (fun hc => ?_) (fun hc => ?_)
  · have hf := aw_ite_f hc hf
    refine lv_aload_n hx hb dX11_syllable_16 rfl (lv_at hl 0 rfl) ?_
    obtain ⟨hc_3, hf⟩ := aw_chk_some hf
    refine gf_X11_110 hx hb G hown hc_3 dX11_syllable_17 ?_
    refine lv_iconst (v := (4 : Int32)) hx hb dX11_syllable_20 (by decide) ?_
    refine lv_icmp_ne (tgt := 28) hx hb dX11_syllable_21 (by decide) (fun hc => ?_) (fun hc => ?_)
    · have hf := aw_ite_f hc hf
      refine lv_iconst (v := (0 : Int32)) hx hb dX11_syllable_28 (by decide) ?_
      exact w_X11_syllable_J29 X hf  (lv_sub hl [0, 1] rfl) G
    · have hf := aw_ite_t hc hf
      refine lv_iconst (v := (2 : Int32)) hx hb dX11_syllable_24 (by decide) ?_
      refine lv_goto (tgt := 29) hx hb dX11_syllable_25 (by decide) ?_
      exact w_X11_syllable_J29 X hf  (lv_sub hl [0, 1] rfl) G
  · have hf := aw_ite_t hc hf
    refine lv_iconst (v := (1 : Int32)) hx hb dX11_syllable_12 (by decide) ?_
    refine lv_goto (tgt := 29) hx hb dX11_syllable_13 (by decide) ?_
    exact w_X11_syllable_J29 X hf  (lv_sub hl [0, 1] rfl) G
def rm_X11_word : Room := { frames := 1, cells := 0, slots := 0, locals := 22 }
def f_X11_word_B47 (σ : Sg) (kb47 : Int32 → Dt → Option (Int32 × Dt)) (k47 : Dt → Option (Int32 × Dt)) (x0 : Nat) (x1 : Int32) (x2 : Int32) (d : Dt) : Option (Int32 × Dt) :=
  aw_chk (aw_O σ 11 32 x0) (if (d.1 x0 0) ≤ x2 then k47 d else (σ.2.2 x0 4).bind (fun q_8 => (σ.2.2 x0 1).bind (fun q_10 => aw_chk (aw_I σ 20 q_10 x2) (aw_chk (aw_I σ 20 q_8 ((((4 : Int32)) * (d.1 x0 2)) + x2)) (kb47 (x2 + 1) (aw_sI d q_8 ((((4 : Int32)) * (d.1 x0 2)) + x2).toNatClampNeg (d.1 q_10 x2.toNatClampNeg)))))))
def f_X11_word_L47 (σ : Sg) (n : Nat) (k47 : Dt → Option (Int32 × Dt)) (x0 : Nat) (x1 : Int32) : Int32 → Dt → Option (Int32 × Dt) := match n with
  | 0 => fun _ _ => none
  | n + 1 => fun x2 d => f_X11_word_B47 σ (f_X11_word_L47 σ n k47 x0 x1) k47 x0 x1 x2 d
def f_X11_word_J37 (σ : Sg) (t1 : Int32) (t0 : Nat) (x0 : Nat) (x1 : Int32) (d : Dt) : Option (Int32 × Dt) :=
  aw_chk (aw_O σ 11 32 t0) ((f_X11_fails σ t0 t1 d).bind (fun z_4 => if z_4.1 = 0 then f_X11_word_L47 σ aw_FU (fun d_14 => aw_chk (aw_O σ 11 32 x0) ((σ.2.2 x0 3).bind (fun q_16 => aw_chk (aw_I σ 20 q_16 (d_14.1 x0 2)) ((σ.2.2 x0 5).bind (fun q_19 => aw_chk (aw_I σ 20 q_19 ((aw_sI d_14 q_16 (d_14.1 x0 2).toNatClampNeg (d_14.1 x0 0)).1 x0 2)) (some (((aw_sI (aw_sI (aw_sI (aw_sI d_14 q_16 (d_14.1 x0 2).toNatClampNeg (d_14.1 x0 0)) q_19 ((aw_sI d_14 q_16 (d_14.1 x0 2).toNatClampNeg (d_14.1 x0 0)).1 x0 2).toNatClampNeg x1) x0 0 ((0 : Int32))) x0 2 (((aw_sI (aw_sI (aw_sI d_14 q_16 (d_14.1 x0 2).toNatClampNeg (d_14.1 x0 0)) q_19 ((aw_sI d_14 q_16 (d_14.1 x0 2).toNatClampNeg (d_14.1 x0 0)).1 x0 2).toNatClampNeg x1) x0 0 ((0 : Int32))).1 x0 2) + ((1 : Int32)))).1 x0 2) - ((1 : Int32)), aw_sI (aw_sI (aw_sI (aw_sI d_14 q_16 (d_14.1 x0 2).toNatClampNeg (d_14.1 x0 0)) q_19 ((aw_sI d_14 q_16 (d_14.1 x0 2).toNatClampNeg (d_14.1 x0 0)).1 x0 2).toNatClampNeg x1) x0 0 ((0 : Int32))) x0 2 (((aw_sI (aw_sI (aw_sI d_14 q_16 (d_14.1 x0 2).toNatClampNeg (d_14.1 x0 0)) q_19 ((aw_sI d_14 q_16 (d_14.1 x0 2).toNatClampNeg (d_14.1 x0 0)).1 x0 2).toNatClampNeg x1) x0 0 ((0 : Int32))).1 x0 2) + ((1 : Int32)))))))))) x0 x1 ((0 : Int32)) z_4.2 else some ((0 : Int32), z_4.2)))
def f_X11_word_J32 (σ : Sg) (t0 : Nat) (x0 : Nat) (x1 : Int32) (d : Dt) : Option (Int32 × Dt) :=
  f_X11_word_J37 σ ((2 : Int32)) t0 x0 x1 d
def f_X11_word (σ : Sg) (x0 : Nat) (x1 : Int32) (d : Dt) : Option (Int32 × Dt) :=
  (f_X11_isIn σ x1 ((1 : Int32)) ((999 : Int32)) d).bind (fun z_1 => if z_1.1 = 0 then f_X11_word_J37 σ ((1 : Int32)) x0 x0 x1 z_1.2 else aw_chk (aw_O σ 11 32 x0) (if (z_1.2.1 x0 0) = 0 then f_X11_word_J32 σ x0 x0 x1 z_1.2 else if (z_1.2.1 x0 2) = ((20 : Int32)) then f_X11_word_J32 σ x0 x0 x1 z_1.2 else f_X11_word_J37 σ ((0 : Int32)) x0 x0 x1 z_1.2))
section W_X11_word
variable {p : Program} {l : Launch} {e : Env} {s : State} {m : MethodId} {args : Array Value} {below : List Frame} {meth : Method} {c : Code}
variable {D : va_G} {cA : Nat → ClassId} {base : Nat} {ad : Nat → Nat} {σ : Sg}
set_option maxHeartbeats 4000000 in
set_option maxRecDepth 100000 in
theorem w_X11_word_B47 {z : Int32 × Dt} (X : aw_X p c cX11_word 3 s RX11 m meth (some .int)) {kb47 : Int32 → Dt → Option (Int32 × Dt)} {k47 : Dt → Option (Int32 × Dt)} {x0 : Nat} {x1 : Int32} {x2 : Int32} {d : Dt} (hf : f_X11_word_B47 σ kb47 k47 x0 x1 x2 d = some z) (hkb47 : ∀ (y2 : Int32) (d : Dt), kb47 y2 d = some z → ∀ (H : Heap) (locs : List Loc) (ls : Array Slot), lv_has ls 3 [(0, .ref (ad x0)), (1, .int x1), (2, .int y2)] → aw_G D cA base ad σ d s H locs → W p l e rm_X11_word s m args below meth c H locs 0 0 (aw_Ei D cA base ad σ below args s z) (F0 m 47 ls [])) (hk47 : ∀ (d : Dt), k47 d = some z → ∀ (H : Heap) (locs : List Loc) (ls : Array Slot), lv_has ls 3 [(0, .ref (ad x0)), (1, .int x1)] → aw_G D cA base ad σ d s H locs → W p l e rm_X11_word s m args below meth c H locs 0 0 (aw_Ei D cA base ad σ below args s z) (F0 m 80 ls [])) {H : Heap} {locs : List Loc} {ls : Array Slot} (hl : lv_has ls 3 [(0, .ref (ad x0)), (1, .int x1), (2, .int x2)]) (G : aw_G D cA base ad σ d s H locs) : W p l e rm_X11_word s m args below meth c H locs 0 0 (aw_Ei D cA base ad σ below args s z) (F0 m 47 ls []) := by
  have hx := X.1; have hb := X.2.1; have hml := X.2.2.1; have hown := X.2.2.2.1
  unfold f_X11_word_B47 at hf
  refine lv_iload_n hx hb dX11_word_47 rfl (lv_at hl 2 rfl) ?_
  refine lv_aload_n hx hb dX11_word_48 rfl (lv_at hl 0 rfl) ?_
  obtain ⟨hc_7, hf⟩ := aw_chk_some hf
  refine gf_X11_110 hx hb G hown hc_7 dX11_word_49 ?_
  refine lv_icmp_ge (tgt := 80) hx hb dX11_word_52 (by decide) (fun hc => ?_) (fun hc => ?_)
  · have hf := aw_ite_t hc hf
    exact hk47 _ hf _ _ _ (lv_sub hl [0, 1] rfl) G
  · have hf := aw_ite_f hc hf
    refine lv_aload_n hx hb dX11_word_55 rfl (lv_at hl 0 rfl) ?_
    obtain ⟨q_8, hq_9, hf⟩ := aw_bind_some hf
    refine gf_X11_16 hx hb G hown hc_7 hq_9 dX11_word_56 ?_
    refine lv_iconst (v := (4 : Int32)) hx hb dX11_word_59 (by decide) ?_
    refine lv_aload_n hx hb dX11_word_60 rfl (lv_at hl 0 rfl) ?_
    refine gf_X11_100 hx hb G hown hc_7 dX11_word_61 ?_
    refine lv_imul hx hb dX11_word_64 ?_
    refine lv_iload_n hx hb dX11_word_65 rfl (lv_at hl 2 rfl) ?_
    refine lv_iadd hx hb dX11_word_66 ?_
    refine lv_aload_n hx hb dX11_word_67 rfl (lv_at hl 0 rfl) ?_
    obtain ⟨q_10, hq_11, hf⟩ := aw_bind_some hf
    refine gf_X11_7 hx hb G hown hc_7 hq_11 dX11_word_68 ?_
    refine lv_iload_n hx hb dX11_word_71 rfl (lv_at hl 2 rfl) ?_
    obtain ⟨hc_12, hf⟩ := aw_chk_some hf
    refine aw_ial hx hb G hc_12 dX11_word_72 ?_
    obtain ⟨hc_13, hf⟩ := aw_chk_some hf
    refine aw_ias hx hb G hc_13 dX11_word_73 (fun H locs G => ?_)
    refine lv_iinc (v := x2 + 1) (lv' := [(2, .int (x2 + 1)), (0, .ref (ad x0)), (1, .int x1)]) hx hb dX11_word_74 hl (k := 2) rfl rfl (by decide) rfl (fun ls hl => ?_)
    refine lv_goto (tgt := 47) hx hb dX11_word_77 (by decide) ?_
    exact hkb47 _ _ hf _ _ _ (lv_sub hl [1, 2, 0] rfl) G
theorem w_X11_word_L47 {z : Int32 × Dt} (X : aw_X p c cX11_word 3 s RX11 m meth (some .int)) {k47 : Dt → Option (Int32 × Dt)} {x0 : Nat} {x1 : Int32} (n : Nat) {x2 : Int32} {d : Dt} (hf : f_X11_word_L47 σ n k47 x0 x1 x2 d = some z) (hk47 : ∀ (d : Dt), k47 d = some z → ∀ (H : Heap) (locs : List Loc) (ls : Array Slot), lv_has ls 3 [(0, .ref (ad x0)), (1, .int x1)] → aw_G D cA base ad σ d s H locs → W p l e rm_X11_word s m args below meth c H locs 0 0 (aw_Ei D cA base ad σ below args s z) (F0 m 80 ls [])) {H : Heap} {locs : List Loc} {ls : Array Slot} (hl : lv_has ls 3 [(0, .ref (ad x0)), (1, .int x1), (2, .int x2)]) (G : aw_G D cA base ad σ d s H locs) : W p l e rm_X11_word s m args below meth c H locs 0 0 (aw_Ei D cA base ad σ below args s z) (F0 m 47 ls []) := by
  induction n generalizing x2 d H locs ls with
  | zero => exact absurd (show (none : Option (Int32 × Dt)) = some z from hf) (by simp)
  | succ n ih => exact w_X11_word_B47 X (kb47 := f_X11_word_L47 σ n k47 x0 x1) hf  (fun x2 d hf H locs ls hl G => ih hf hl G) hk47 hl G
set_option maxHeartbeats 4000000 in
set_option maxRecDepth 100000 in
theorem w_X11_word_J37 {z : Int32 × Dt} (X : aw_X p c cX11_word 3 s RX11 m meth (some .int)) {t1 : Int32} {t0 : Nat} {x0 : Nat} {x1 : Int32} {d : Dt} (hf : f_X11_word_J37 σ t1 t0 x0 x1 d = some z)  {H : Heap} {locs : List Loc} {ls : Array Slot} (hl : lv_has ls 3 [(0, .ref (ad x0)), (1, .int x1)]) (G : aw_G D cA base ad σ d s H locs) : W p l e rm_X11_word s m args below meth c H locs 0 0 (aw_Ei D cA base ad σ below args s z) (F0 m 37 ls [.int t1, .ref (ad t0)]) := by
  have hx := X.1; have hb := X.2.1; have hml := X.2.2.1; have hown := X.2.2.2.1
  unfold f_X11_word_J37 at hf
  obtain ⟨hc_6, hf⟩ := aw_chk_some hf
  obtain ⟨z_4, hz_5, hf⟩ := aw_bind_some hf
  refine aw_VI (As := [.int t1]) (rest := []) X G hl.1 cr_X11_113 (c_X11_fails l hz_5) ⟨rfl, rfl⟩ rfl rfl rfl (by decide) hc_6 rfl ⟨Nat.le_of_ble_eq_true rfl, Nat.le_of_ble_eq_true rfl⟩ (Nat.le_of_ble_eq_true rfl) dX11_word_37 ⟨Nat.zero_le _, Nat.zero_le _⟩ (fun H locs G => ?_)
  refine lv_if_eq (tgt := 45) hx hb dX11_word_40 (by decide) (fun hc => ?_) (fun hc => ?_)
  · have hf := aw_ite_t hc hf
    refine lv_iconst (v := (0 : Int32)) hx hb dX11_word_45 (by decide) ?_
    refine lv_istore_n (lv' := [(2, .int ((0 : Int32))), (0, .ref (ad x0)), (1, .int x1)]) hx hb dX11_word_46 rfl hl (by decide) rfl (fun ls hl => ?_)
    refine w_X11_word_L47 X aw_FU hf  (fun d_14 hf H locs ls hl G => ?_) (lv_sub hl [1, 2, 0] rfl) G
    refine lv_aload_n hx hb dX11_word_80 rfl (lv_at hl 0 rfl) ?_
    obtain ⟨hc_15, hf⟩ := aw_chk_some hf
    obtain ⟨q_16, hq_17, hf⟩ := aw_bind_some hf
    refine gf_X11_13 hx hb G hown hc_15 hq_17 dX11_word_81 ?_
    refine lv_aload_n hx hb dX11_word_84 rfl (lv_at hl 0 rfl) ?_
    refine gf_X11_100 hx hb G hown hc_15 dX11_word_85 ?_
    refine lv_aload_n hx hb dX11_word_88 rfl (lv_at hl 0 rfl) ?_
    refine gf_X11_110 hx hb G hown hc_15 dX11_word_89 ?_
    obtain ⟨hc_18, hf⟩ := aw_chk_some hf
    refine aw_ias hx hb G hc_18 dX11_word_92 (fun H locs G => ?_)
    refine lv_aload_n hx hb dX11_word_93 rfl (lv_at hl 0 rfl) ?_
    obtain ⟨q_19, hq_20, hf⟩ := aw_bind_some hf
    refine gf_X11_19 hx hb G hown hc_15 hq_20 dX11_word_94 ?_
    refine lv_aload_n hx hb dX11_word_97 rfl (lv_at hl 0 rfl) ?_
    refine gf_X11_100 hx hb G hown hc_15 dX11_word_98 ?_
    refine lv_iload_n hx hb dX11_word_101 rfl (lv_at hl 1 rfl) ?_
    obtain ⟨hc_21, hf⟩ := aw_chk_some hf
    refine aw_ias hx hb G hc_21 dX11_word_102 (fun H locs G => ?_)
    refine lv_aload_n hx hb dX11_word_103 rfl (lv_at hl 0 rfl) ?_
    refine lv_iconst (v := (0 : Int32)) hx hb dX11_word_104 (by decide) ?_
    refine pf_X11_110 hx hb G hown hc_15 dX11_word_105 (fun H locs G => ?_)
    refine lv_aload_n hx hb dX11_word_108 rfl (lv_at hl 0 rfl) ?_
    refine lv_dup hx hb dX11_word_109 rfl ?_
    refine gf_X11_100 hx hb G hown hc_15 dX11_word_110 ?_
    refine lv_iconst (v := (1 : Int32)) hx hb dX11_word_113 (by decide) ?_
    refine lv_iadd hx hb dX11_word_114 ?_
    refine pf_X11_100 hx hb G hown hc_15 dX11_word_115 (fun H locs G => ?_)
    refine lv_aload_n hx hb dX11_word_118 rfl (lv_at hl 0 rfl) ?_
    refine gf_X11_100 hx hb G hown hc_15 dX11_word_119 ?_
    refine lv_iconst (v := (1 : Int32)) hx hb dX11_word_122 (by decide) ?_
    refine lv_isub hx hb dX11_word_123 ?_
    exact aw_reti X G hf dX11_word_124
  · have hf := aw_ite_f hc hf
    refine lv_iconst (v := (0 : Int32)) hx hb dX11_word_43 (by decide) ?_
    exact aw_reti X G hf dX11_word_44
set_option maxHeartbeats 4000000 in
set_option maxRecDepth 100000 in
theorem w_X11_word_J32 {z : Int32 × Dt} (X : aw_X p c cX11_word 3 s RX11 m meth (some .int)) {t0 : Nat} {x0 : Nat} {x1 : Int32} {d : Dt} (hf : f_X11_word_J32 σ t0 x0 x1 d = some z)  {H : Heap} {locs : List Loc} {ls : Array Slot} (hl : lv_has ls 3 [(0, .ref (ad x0)), (1, .int x1)]) (G : aw_G D cA base ad σ d s H locs) : W p l e rm_X11_word s m args below meth c H locs 0 0 (aw_Ei D cA base ad σ below args s z) (F0 m 32 ls [.ref (ad t0)]) := by
  have hx := X.1; have hb := X.2.1; have hml := X.2.2.1; have hown := X.2.2.2.1
  unfold f_X11_word_J32 at hf
  refine lv_iconst (v := (2 : Int32)) hx hb dX11_word_32 (by decide) ?_
  refine lv_goto (tgt := 37) hx hb dX11_word_33 (by decide) ?_
  exact w_X11_word_J37 X hf  (lv_sub hl [0, 1] rfl) G
end W_X11_word
set_option maxHeartbeats 4000000 in
set_option maxRecDepth 100000 in
theorem c_X11_word (l : Launch) {σ : Sg} {x0 : Nat} {x1 : Int32} {d : Dt} {z : Int32 × Dt} (hf : f_X11_word σ x0 x1 d = some z) : aw_Mi l yX11_word (Cond.code yX11_word cX11_word 3 (some .int)) rm_X11_word (fun ad => [.ref (ad x0), .int x1]) σ d z := by
  intro D cA base ad
  refine aw_ofW (own := RX11) (cc := cX11_word) (nL := 3) (ret := some .int) (by decide) rfl rfl ?_
  intro p e s m below meth c X hnm G
  have hx := X.1; have hb := X.2.1; have hml := X.2.2.1; have hown := X.2.2.2.1
  refine aw_ls (lv := [(0, .ref (ad x0)), (1, .int x1)]) (Nat.le_of_ble_eq_true rfl) rfl (fun ls hl => ?_)
  unfold f_X11_word at hf
  refine lv_aload_n hx hb dX11_word_0 rfl (lv_at hl 0 rfl) ?_
  refine lv_iload_n hx hb dX11_word_1 rfl (lv_at hl 1 rfl) ?_
  refine lv_iconst (v := (1 : Int32)) hx hb dX11_word_2 (by decide) ?_
  refine lv_sipush (v := (999 : Int32)) hx hb dX11_word_3 (by decide) ?_
  obtain ⟨z_1, hz_2, hf⟩ := aw_bind_some hf
  refine aw_SI (As := [.int x1, .int ((1 : Int32)), .int ((999 : Int32))]) (rest := [.ref (ad x0)]) X G hl.1 cr_X11_103 (c_X11_isIn l hz_2) ⟨rfl, rfl⟩ rfl rfl rfl ⟨Nat.le_of_ble_eq_true rfl, Nat.le_of_ble_eq_true rfl⟩ (Nat.le_of_ble_eq_true rfl) dX11_word_6 ⟨Nat.zero_le _, Nat.zero_le _⟩ (fun H locs G => ?_)
  refine lv_if_ne (tgt := 16) hx hb dX11_word_9 (by decide) (fun hc => ?_) (fun hc => ?_)
  · have hf := aw_ite_f hc hf
    refine lv_aload_n hx hb dX11_word_16 rfl (lv_at hl 0 rfl) ?_
    obtain ⟨hc_3, hf⟩ := aw_chk_some hf
    refine gf_X11_110 hx hb G hown hc_3 dX11_word_17 ?_
    refine lv_if_eq (tgt := 32) hx hb dX11_word_20 (by decide) (fun hc => ?_) (fun hc => ?_)
    · have hf := aw_ite_t hc hf
      exact w_X11_word_J32 X hf  (lv_sub hl [0, 1] rfl) G
    · have hf := aw_ite_f hc hf
      refine lv_aload_n hx hb dX11_word_23 rfl (lv_at hl 0 rfl) ?_
      refine gf_X11_100 hx hb G hown hc_3 dX11_word_24 ?_
      refine lv_bipush (v := (20 : Int32)) hx hb dX11_word_27 (by decide) ?_
      refine lv_icmp_ne (tgt := 36) hx hb dX11_word_29 (by decide) (fun hc => ?_) (fun hc => ?_)
      · have hf := aw_ite_f hc hf
        refine lv_iconst (v := (0 : Int32)) hx hb dX11_word_36 (by decide) ?_
        exact w_X11_word_J37 X hf  (lv_sub hl [0, 1] rfl) G
      · have hf := aw_ite_t hc hf
        exact w_X11_word_J32 X hf  (lv_sub hl [0, 1] rfl) G
  · have hf := aw_ite_t hc hf
    refine lv_iconst (v := (1 : Int32)) hx hb dX11_word_12 (by decide) ?_
    refine lv_goto (tgt := 37) hx hb dX11_word_13 (by decide) ?_
    exact w_X11_word_J37 X hf  (lv_sub hl [0, 1] rfl) G
def rm_X11_isValue : Room := { frames := 1, cells := 0, slots := 0, locals := 22 }
def f_X11_isValue_J22 (σ : Sg) (t2 : Int32) (t1 : Int32) (t0 : Int32) (d : Dt) : Option (Int32 × Dt) :=
  (f_X11_isIn σ t0 t1 t2 d).bind (fun z_1 => aw_chk (z_1.1 &&& 1 = z_1.1) (some (z_1.1, z_1.2)))
def f_X11_isValue (σ : Sg) (x0 : Int32) (x1 : Int32) (d : Dt) : Option (Int32 × Dt) :=
  if x0 = ((1 : Int32)) then f_X11_isValue_J22 σ ((3 : Int32)) ((0 : Int32)) x1 d else if x0 = ((3 : Int32)) then f_X11_isValue_J22 σ ((2 : Int32)) ((0 : Int32)) x1 d else f_X11_isValue_J22 σ ((8 : Int32)) ((0 : Int32)) x1 d
section W_X11_isValue
variable {p : Program} {l : Launch} {e : Env} {s : State} {m : MethodId} {args : Array Value} {below : List Frame} {meth : Method} {c : Code}
variable {D : va_G} {cA : Nat → ClassId} {base : Nat} {ad : Nat → Nat} {σ : Sg}
set_option maxHeartbeats 4000000 in
set_option maxRecDepth 100000 in
theorem w_X11_isValue_J22 {z : Int32 × Dt} (X : aw_X p c cX11_isValue 2 s RX11 m meth (some .boolean)) {t2 : Int32} {t1 : Int32} {t0 : Int32} {d : Dt} (hf : f_X11_isValue_J22 σ t2 t1 t0 d = some z)  {H : Heap} {locs : List Loc} {ls : Array Slot} (hl : lv_has ls 2 []) (G : aw_G D cA base ad σ d s H locs) : W p l e rm_X11_isValue s m args below meth c H locs 0 0 (aw_Ei D cA base ad σ below args s z) (F0 m 22 ls [.int t2, .int t1, .int t0]) := by
  have hx := X.1; have hb := X.2.1; have hml := X.2.2.1; have hown := X.2.2.2.1
  unfold f_X11_isValue_J22 at hf
  obtain ⟨z_1, hz_2, hf⟩ := aw_bind_some hf
  refine aw_SI (As := [.int t0, .int t1, .int t2]) (rest := []) X G hl.1 cr_X11_103 (c_X11_isIn l hz_2) ⟨rfl, rfl⟩ rfl rfl rfl ⟨Nat.le_of_ble_eq_true rfl, Nat.le_of_ble_eq_true rfl⟩ (Nat.le_of_ble_eq_true rfl) dX11_isValue_22 ⟨Nat.zero_le _, Nat.zero_le _⟩ (fun H locs G => ?_)
  obtain ⟨hc_3, hf⟩ := aw_chk_some hf
  exact aw_retz X G hc_3 hf dX11_isValue_25
end W_X11_isValue
set_option maxHeartbeats 4000000 in
set_option maxRecDepth 100000 in
theorem c_X11_isValue (l : Launch) {σ : Sg} {x0 : Int32} {x1 : Int32} {d : Dt} {z : Int32 × Dt} (hf : f_X11_isValue σ x0 x1 d = some z) : aw_Mi l yX11_isValue (Cond.code yX11_isValue cX11_isValue 2 (some .boolean)) rm_X11_isValue (fun ad => [.int x0, .int x1]) σ d z := by
  intro D cA base ad
  refine aw_ofW (own := RX11) (cc := cX11_isValue) (nL := 2) (ret := some .boolean) (by decide) rfl rfl ?_
  intro p e s m below meth c X hnm G
  have hx := X.1; have hb := X.2.1; have hml := X.2.2.1; have hown := X.2.2.2.1
  refine aw_ls (lv := [(0, .int x0), (1, .int x1)]) (Nat.le_of_ble_eq_true rfl) rfl (fun ls hl => ?_)
  unfold f_X11_isValue at hf
  refine lv_iload_n hx hb dX11_isValue_0 rfl (lv_at hl 1 rfl) ?_
  refine lv_iconst (v := (0 : Int32)) hx hb dX11_isValue_1 (by decide) ?_
  refine lv_iload_n hx hb dX11_isValue_2 rfl (lv_at hl 0 rfl) ?_
  refine lv_iconst (v := (1 : Int32)) hx hb dX11_isValue_3 (by decide) ?_
  refine lv_icmp_ne (tgt := 11) hx hb dX11_isValue_4 (by decide) (fun hc => ?_) (fun hc => ?_)
  · have hf := aw_ite_f hc hf
    refine lv_iload_n hx hb dX11_isValue_11 rfl (lv_at hl 0 rfl) ?_
    refine lv_iconst (v := (3 : Int32)) hx hb dX11_isValue_12 (by decide) ?_
    refine lv_icmp_ne (tgt := 20) hx hb dX11_isValue_13 (by decide) (fun hc => ?_) (fun hc => ?_)
    · have hf := aw_ite_f hc hf
      refine lv_bipush (v := (8 : Int32)) hx hb dX11_isValue_20 (by decide) ?_
      exact w_X11_isValue_J22 X hf  (lv_sub hl [] rfl) G
    · have hf := aw_ite_t hc hf
      refine lv_iconst (v := (2 : Int32)) hx hb dX11_isValue_16 (by decide) ?_
      refine lv_goto (tgt := 22) hx hb dX11_isValue_17 (by decide) ?_
      exact w_X11_isValue_J22 X hf  (lv_sub hl [] rfl) G
  · have hf := aw_ite_t hc hf
    refine lv_iconst (v := (3 : Int32)) hx hb dX11_isValue_7 (by decide) ?_
    refine lv_goto (tgt := 22) hx hb dX11_isValue_8 (by decide) ?_
    exact w_X11_isValue_J22 X hf  (lv_sub hl [] rfl) G
def rm_X11_change : Room := { frames := 2, cells := 0, slots := 0, locals := 43 }
def f_X11_change_J87 (σ : Sg) (t1 : Int32) (t0 : Nat) (x0 : Nat) (x1 : Int32) (x2 : Int32) (x3 : Int32) (x4 : Int32) (x5 : Int32) (d : Dt) : Option (Int32 × Dt) :=
  aw_chk (aw_O σ 11 32 t0) ((f_X11_fails σ t0 t1 d).bind (fun z_7 => if z_7.1 = 0 then aw_chk (aw_O σ 11 32 x0) ((σ.2.2 x0 6).bind (fun q_11 => aw_chk (aw_I σ 20 q_11 x1) ((σ.2.2 x0 7).bind (fun q_14 => aw_chk (aw_I σ 20 q_14 ((((6 : Int32)) * x1) + (z_7.2.1 q_11 x1.toNatClampNeg))) ((σ.2.2 x0 8).bind (fun q_17 => aw_chk (aw_I σ 20 q_17 ((((6 : Int32)) * x1) + (z_7.2.1 q_11 x1.toNatClampNeg))) ((σ.2.2 x0 9).bind (fun q_20 => aw_chk (aw_I σ 20 q_20 ((((6 : Int32)) * x1) + (z_7.2.1 q_11 x1.toNatClampNeg))) ((σ.2.2 x0 10).bind (fun q_23 => aw_chk (aw_I σ 22 q_23 ((((6 : Int32)) * x1) + (z_7.2.1 q_11 x1.toNatClampNeg))) (some ((aw_sI (aw_sI (aw_sI (aw_sI (aw_sI z_7.2 q_14 ((((6 : Int32)) * x1) + (z_7.2.1 q_11 x1.toNatClampNeg)).toNatClampNeg x2) q_17 ((((6 : Int32)) * x1) + (z_7.2.1 q_11 x1.toNatClampNeg)).toNatClampNeg x3) q_20 ((((6 : Int32)) * x1) + (z_7.2.1 q_11 x1.toNatClampNeg)).toNatClampNeg x4) q_23 ((((6 : Int32)) * x1) + (z_7.2.1 q_11 x1.toNatClampNeg)).toNatClampNeg (vp_nar .boolean x5)) q_11 x1.toNatClampNeg (((aw_sI (aw_sI (aw_sI (aw_sI z_7.2 q_14 ((((6 : Int32)) * x1) + (z_7.2.1 q_11 x1.toNatClampNeg)).toNatClampNeg x2) q_17 ((((6 : Int32)) * x1) + (z_7.2.1 q_11 x1.toNatClampNeg)).toNatClampNeg x3) q_20 ((((6 : Int32)) * x1) + (z_7.2.1 q_11 x1.toNatClampNeg)).toNatClampNeg x4) q_23 ((((6 : Int32)) * x1) + (z_7.2.1 q_11 x1.toNatClampNeg)).toNatClampNeg (vp_nar .boolean x5)).1 q_11 x1.toNatClampNeg) + ((1 : Int32)))).1 q_11 x1.toNatClampNeg, aw_sI (aw_sI (aw_sI (aw_sI (aw_sI z_7.2 q_14 ((((6 : Int32)) * x1) + (z_7.2.1 q_11 x1.toNatClampNeg)).toNatClampNeg x2) q_17 ((((6 : Int32)) * x1) + (z_7.2.1 q_11 x1.toNatClampNeg)).toNatClampNeg x3) q_20 ((((6 : Int32)) * x1) + (z_7.2.1 q_11 x1.toNatClampNeg)).toNatClampNeg x4) q_23 ((((6 : Int32)) * x1) + (z_7.2.1 q_11 x1.toNatClampNeg)).toNatClampNeg (vp_nar .boolean x5)) q_11 x1.toNatClampNeg (((aw_sI (aw_sI (aw_sI (aw_sI z_7.2 q_14 ((((6 : Int32)) * x1) + (z_7.2.1 q_11 x1.toNatClampNeg)).toNatClampNeg x2) q_17 ((((6 : Int32)) * x1) + (z_7.2.1 q_11 x1.toNatClampNeg)).toNatClampNeg x3) q_20 ((((6 : Int32)) * x1) + (z_7.2.1 q_11 x1.toNatClampNeg)).toNatClampNeg x4) q_23 ((((6 : Int32)) * x1) + (z_7.2.1 q_11 x1.toNatClampNeg)).toNatClampNeg (vp_nar .boolean x5)).1 q_11 x1.toNatClampNeg) + ((1 : Int32))))))))))))))) else some ((0 : Int32), z_7.2)))
def f_X11_change_J50 (σ : Sg) (t0 : Int32) (x0 : Nat) (x1 : Int32) (x2 : Int32) (x3 : Int32) (x4 : Int32) (x5 : Int32) (x6 : Int32) (d : Dt) : Option (Int32 × Dt) :=
  if x6 = 0 then f_X11_change_J87 σ ((1 : Int32)) x0 x0 x1 x2 x3 x4 x5 d else if t0 = 0 then f_X11_change_J87 σ ((2 : Int32)) x0 x0 x1 x2 x3 x4 x5 d else aw_chk (aw_O σ 11 32 x0) ((σ.2.2 x0 6).bind (fun q_4 => aw_chk (aw_I σ 20 q_4 x1) (if (d.1 q_4 x1.toNatClampNeg) = ((6 : Int32)) then f_X11_change_J87 σ ((3 : Int32)) x0 x0 x1 x2 x3 x4 x5 d else f_X11_change_J87 σ ((0 : Int32)) x0 x0 x1 x2 x3 x4 x5 d)))
def f_X11_change_J49 (σ : Sg) (x0 : Nat) (x1 : Int32) (x2 : Int32) (x3 : Int32) (x4 : Int32) (x5 : Int32) (x6 : Int32) (d : Dt) : Option (Int32 × Dt) :=
  f_X11_change_J50 σ ((0 : Int32)) x0 x1 x2 x3 x4 x5 x6 d
def f_X11_change_J21 (σ : Sg) (t0 : Int32) (x0 : Nat) (x1 : Int32) (x2 : Int32) (x3 : Int32) (x4 : Int32) (x5 : Int32) (d : Dt) : Option (Int32 × Dt) :=
  if t0 = 0 then f_X11_change_J49 σ x0 x1 x2 x3 x4 x5 t0 d else (f_X11_isValue σ x2 x3 d).bind (fun z_26 => if z_26.1 = 0 then f_X11_change_J49 σ x0 x1 x2 x3 x4 x5 t0 z_26.2 else (f_X11_isValue σ x2 x4 z_26.2).bind (fun z_28 => if z_28.1 = 0 then f_X11_change_J49 σ x0 x1 x2 x3 x4 x5 t0 z_28.2 else f_X11_change_J50 σ ((1 : Int32)) x0 x1 x2 x3 x4 x5 t0 z_28.2))
def f_X11_change_J20 (σ : Sg) (x0 : Nat) (x1 : Int32) (x2 : Int32) (x3 : Int32) (x4 : Int32) (x5 : Int32) (d : Dt) : Option (Int32 × Dt) :=
  f_X11_change_J21 σ ((0 : Int32)) x0 x1 x2 x3 x4 x5 d
def f_X11_change (σ : Sg) (x0 : Nat) (x1 : Int32) (x2 : Int32) (x3 : Int32) (x4 : Int32) (x5 : Int32) (d : Dt) : Option (Int32 × Dt) :=
  (f_X11_isDialect σ x1 d).bind (fun z_1 => if z_1.1 = 0 then f_X11_change_J20 σ x0 x1 x2 x3 x4 x5 z_1.2 else (f_X11_isIn σ x2 ((0 : Int32)) ((3 : Int32)) z_1.2).bind (fun z_30 => if z_30.1 = 0 then f_X11_change_J20 σ x0 x1 x2 x3 x4 x5 z_30.2 else f_X11_change_J21 σ ((1 : Int32)) x0 x1 x2 x3 x4 x5 z_30.2))
section W_X11_change
variable {p : Program} {l : Launch} {e : Env} {s : State} {m : MethodId} {args : Array Value} {below : List Frame} {meth : Method} {c : Code}
variable {D : va_G} {cA : Nat → ClassId} {base : Nat} {ad : Nat → Nat} {σ : Sg}
set_option maxHeartbeats 4000000 in
set_option maxRecDepth 100000 in
theorem w_X11_change_J87 {z : Int32 × Dt} (X : aw_X p c cX11_change 9 s RX11 m meth (some .int)) {t1 : Int32} {t0 : Nat} {x0 : Nat} {x1 : Int32} {x2 : Int32} {x3 : Int32} {x4 : Int32} {x5 : Int32} {d : Dt} (hf : f_X11_change_J87 σ t1 t0 x0 x1 x2 x3 x4 x5 d = some z)  {H : Heap} {locs : List Loc} {ls : Array Slot} (hl : lv_has ls 9 [(0, .ref (ad x0)), (1, .int x1), (2, .int x2), (3, .int x3), (4, .int x4), (5, .int x5)]) (G : aw_G D cA base ad σ d s H locs) : W p l e rm_X11_change s m args below meth c H locs 0 0 (aw_Ei D cA base ad σ below args s z) (F0 m 87 ls [.int t1, .ref (ad t0)]) := by
  have hx := X.1; have hb := X.2.1; have hml := X.2.2.1; have hown := X.2.2.2.1
  unfold f_X11_change_J87 at hf
  obtain ⟨hc_9, hf⟩ := aw_chk_some hf
  obtain ⟨z_7, hz_8, hf⟩ := aw_bind_some hf
  refine aw_VI (As := [.int t1]) (rest := []) X G hl.1 cr_X11_113 (c_X11_fails l hz_8) ⟨rfl, rfl⟩ rfl rfl rfl (by decide) hc_9 rfl ⟨Nat.le_of_ble_eq_true rfl, Nat.le_of_ble_eq_true rfl⟩ (Nat.le_of_ble_eq_true rfl) dX11_change_87 ⟨Nat.zero_le _, Nat.zero_le _⟩ (fun H locs G => ?_)
  refine lv_if_eq (tgt := 95) hx hb dX11_change_90 (by decide) (fun hc => ?_) (fun hc => ?_)
  · have hf := aw_ite_t hc hf
    refine lv_bipush (v := (6 : Int32)) hx hb dX11_change_95 (by decide) ?_
    refine lv_iload_n hx hb dX11_change_97 rfl (lv_at hl 1 rfl) ?_
    refine lv_imul hx hb dX11_change_98 ?_
    refine lv_aload_n hx hb dX11_change_99 rfl (lv_at hl 0 rfl) ?_
    obtain ⟨hc_10, hf⟩ := aw_chk_some hf
    obtain ⟨q_11, hq_12, hf⟩ := aw_bind_some hf
    refine gf_X11_22 hx hb G hown hc_10 hq_12 dX11_change_100 ?_
    refine lv_iload_n hx hb dX11_change_103 rfl (lv_at hl 1 rfl) ?_
    obtain ⟨hc_13, hf⟩ := aw_chk_some hf
    refine aw_ial hx hb G hc_13 dX11_change_104 ?_
    refine lv_iadd hx hb dX11_change_105 ?_
    refine lv_istore (lv' := [(8, .int ((((6 : Int32)) * x1) + (z_7.2.1 q_11 x1.toNatClampNeg))), (0, .ref (ad x0)), (1, .int x1), (2, .int x2), (3, .int x3), (4, .int x4), (5, .int x5)]) hx hb dX11_change_106 hl (by decide) rfl (fun ls hl => ?_)
    refine lv_aload_n hx hb dX11_change_108 rfl (lv_at hl 1 rfl) ?_
    obtain ⟨q_14, hq_15, hf⟩ := aw_bind_some hf
    refine gf_X11_25 hx hb G hown hc_10 hq_15 dX11_change_109 ?_
    refine lv_iload hx hb dX11_change_112 (lv_at hl 0 rfl) ?_
    refine lv_iload_n hx hb dX11_change_114 rfl (lv_at hl 3 rfl) ?_
    obtain ⟨hc_16, hf⟩ := aw_chk_some hf
    refine aw_ias hx hb G hc_16 dX11_change_115 (fun H locs G => ?_)
    refine lv_aload_n hx hb dX11_change_116 rfl (lv_at hl 1 rfl) ?_
    obtain ⟨q_17, hq_18, hf⟩ := aw_bind_some hf
    refine gf_X11_28 hx hb G hown hc_10 hq_18 dX11_change_117 ?_
    refine lv_iload hx hb dX11_change_120 (lv_at hl 0 rfl) ?_
    refine lv_iload_n hx hb dX11_change_122 rfl (lv_at hl 4 rfl) ?_
    obtain ⟨hc_19, hf⟩ := aw_chk_some hf
    refine aw_ias hx hb G hc_19 dX11_change_123 (fun H locs G => ?_)
    refine lv_aload_n hx hb dX11_change_124 rfl (lv_at hl 1 rfl) ?_
    obtain ⟨q_20, hq_21, hf⟩ := aw_bind_some hf
    refine gf_X11_31 hx hb G hown hc_10 hq_21 dX11_change_125 ?_
    refine lv_iload hx hb dX11_change_128 (lv_at hl 0 rfl) ?_
    refine lv_iload hx hb dX11_change_130 (lv_at hl 5 rfl) ?_
    obtain ⟨hc_22, hf⟩ := aw_chk_some hf
    refine aw_ias hx hb G hc_22 dX11_change_132 (fun H locs G => ?_)
    refine lv_aload_n hx hb dX11_change_133 rfl (lv_at hl 1 rfl) ?_
    obtain ⟨q_23, hq_24, hf⟩ := aw_bind_some hf
    refine gf_X11_34 hx hb G hown hc_10 hq_24 dX11_change_134 ?_
    refine lv_iload hx hb dX11_change_137 (lv_at hl 0 rfl) ?_
    refine lv_iload hx hb dX11_change_139 (lv_at hl 6 rfl) ?_
    obtain ⟨hc_25, hf⟩ := aw_chk_some hf
    refine aw_zas hx hb G hc_25 dX11_change_141 (fun H locs G => ?_)
    refine lv_aload_n hx hb dX11_change_142 rfl (lv_at hl 1 rfl) ?_
    refine gf_X11_22 hx hb G hown hc_10 hq_12 dX11_change_143 ?_
    refine lv_iload_n hx hb dX11_change_146 rfl (lv_at hl 2 rfl) ?_
    refine lv_dup2_11 hx hb dX11_change_147 rfl rfl ?_
    refine aw_ial hx hb G hc_13 dX11_change_148 ?_
    refine lv_iconst (v := (1 : Int32)) hx hb dX11_change_149 (by decide) ?_
    refine lv_iadd hx hb dX11_change_150 ?_
    refine aw_ias hx hb G hc_13 dX11_change_151 (fun H locs G => ?_)
    refine lv_aload_n hx hb dX11_change_152 rfl (lv_at hl 1 rfl) ?_
    refine gf_X11_22 hx hb G hown hc_10 hq_12 dX11_change_153 ?_
    refine lv_iload_n hx hb dX11_change_156 rfl (lv_at hl 2 rfl) ?_
    refine aw_ial hx hb G hc_13 dX11_change_157 ?_
    exact aw_reti X G hf dX11_change_158
  · have hf := aw_ite_f hc hf
    refine lv_iconst (v := (0 : Int32)) hx hb dX11_change_93 (by decide) ?_
    exact aw_reti X G hf dX11_change_94
set_option maxHeartbeats 4000000 in
set_option maxRecDepth 100000 in
theorem w_X11_change_J50 {z : Int32 × Dt} (X : aw_X p c cX11_change 9 s RX11 m meth (some .int)) {t0 : Int32} {x0 : Nat} {x1 : Int32} {x2 : Int32} {x3 : Int32} {x4 : Int32} {x5 : Int32} {x6 : Int32} {d : Dt} (hf : f_X11_change_J50 σ t0 x0 x1 x2 x3 x4 x5 x6 d = some z)  {H : Heap} {locs : List Loc} {ls : Array Slot} (hl : lv_has ls 9 [(0, .ref (ad x0)), (1, .int x1), (2, .int x2), (3, .int x3), (4, .int x4), (5, .int x5), (6, .int x6)]) (G : aw_G D cA base ad σ d s H locs) : W p l e rm_X11_change s m args below meth c H locs 0 0 (aw_Ei D cA base ad σ below args s z) (F0 m 50 ls [.int t0]) := by
  have hx := X.1; have hb := X.2.1; have hml := X.2.2.1; have hown := X.2.2.2.1
  unfold f_X11_change_J50 at hf
  refine lv_istore (lv' := [(7, .int t0), (0, .ref (ad x0)), (1, .int x1), (2, .int x2), (3, .int x3), (4, .int x4), (5, .int x5), (6, .int x6)]) hx hb dX11_change_50 hl (by decide) rfl (fun ls hl => ?_)
  refine lv_aload_n hx hb dX11_change_52 rfl (lv_at hl 1 rfl) ?_
  refine lv_iload hx hb dX11_change_53 (lv_at hl 7 rfl) ?_
  refine lv_if_ne (tgt := 62) hx hb dX11_change_55 (by decide) (fun hc => ?_) (fun hc => ?_)
  · have hf := aw_ite_f hc hf
    refine lv_iload hx hb dX11_change_62 (lv_at hl 0 rfl) ?_
    refine lv_if_ne (tgt := 71) hx hb dX11_change_64 (by decide) (fun hc => ?_) (fun hc => ?_)
    · have hf := aw_ite_f hc hf
      refine lv_aload_n hx hb dX11_change_71 rfl (lv_at hl 1 rfl) ?_
      obtain ⟨hc_3, hf⟩ := aw_chk_some hf
      obtain ⟨q_4, hq_5, hf⟩ := aw_bind_some hf
      refine gf_X11_22 hx hb G hown hc_3 hq_5 dX11_change_72 ?_
      refine lv_iload_n hx hb dX11_change_75 rfl (lv_at hl 2 rfl) ?_
      obtain ⟨hc_6, hf⟩ := aw_chk_some hf
      refine aw_ial hx hb G hc_6 dX11_change_76 ?_
      refine lv_bipush (v := (6 : Int32)) hx hb dX11_change_77 (by decide) ?_
      refine lv_icmp_ne (tgt := 86) hx hb dX11_change_79 (by decide) (fun hc => ?_) (fun hc => ?_)
      · have hf := aw_ite_f hc hf
        refine lv_iconst (v := (0 : Int32)) hx hb dX11_change_86 (by decide) ?_
        exact w_X11_change_J87 X hf  (lv_sub hl [1, 2, 3, 4, 5, 6] rfl) G
      · have hf := aw_ite_t hc hf
        refine lv_iconst (v := (3 : Int32)) hx hb dX11_change_82 (by decide) ?_
        refine lv_goto (tgt := 87) hx hb dX11_change_83 (by decide) ?_
        exact w_X11_change_J87 X hf  (lv_sub hl [1, 2, 3, 4, 5, 6] rfl) G
    · have hf := aw_ite_t hc hf
      refine lv_iconst (v := (2 : Int32)) hx hb dX11_change_67 (by decide) ?_
      refine lv_goto (tgt := 87) hx hb dX11_change_68 (by decide) ?_
      exact w_X11_change_J87 X hf  (lv_sub hl [1, 2, 3, 4, 5, 6] rfl) G
  · have hf := aw_ite_t hc hf
    refine lv_iconst (v := (1 : Int32)) hx hb dX11_change_58 (by decide) ?_
    refine lv_goto (tgt := 87) hx hb dX11_change_59 (by decide) ?_
    exact w_X11_change_J87 X hf  (lv_sub hl [1, 2, 3, 4, 5, 6] rfl) G
set_option maxHeartbeats 4000000 in
set_option maxRecDepth 100000 in
theorem w_X11_change_J49 {z : Int32 × Dt} (X : aw_X p c cX11_change 9 s RX11 m meth (some .int)) {x0 : Nat} {x1 : Int32} {x2 : Int32} {x3 : Int32} {x4 : Int32} {x5 : Int32} {x6 : Int32} {d : Dt} (hf : f_X11_change_J49 σ x0 x1 x2 x3 x4 x5 x6 d = some z)  {H : Heap} {locs : List Loc} {ls : Array Slot} (hl : lv_has ls 9 [(0, .ref (ad x0)), (1, .int x1), (2, .int x2), (3, .int x3), (4, .int x4), (5, .int x5), (6, .int x6)]) (G : aw_G D cA base ad σ d s H locs) : W p l e rm_X11_change s m args below meth c H locs 0 0 (aw_Ei D cA base ad σ below args s z) (F0 m 49 ls []) := by
  have hx := X.1; have hb := X.2.1; have hml := X.2.2.1; have hown := X.2.2.2.1
  unfold f_X11_change_J49 at hf
  refine lv_iconst (v := (0 : Int32)) hx hb dX11_change_49 (by decide) ?_
  exact w_X11_change_J50 X hf  (lv_sub hl [0, 1, 2, 3, 4, 5, 6] rfl) G
set_option maxHeartbeats 4000000 in
set_option maxRecDepth 100000 in
theorem w_X11_change_J21 {z : Int32 × Dt} (X : aw_X p c cX11_change 9 s RX11 m meth (some .int)) {t0 : Int32} {x0 : Nat} {x1 : Int32} {x2 : Int32} {x3 : Int32} {x4 : Int32} {x5 : Int32} {d : Dt} (hf : f_X11_change_J21 σ t0 x0 x1 x2 x3 x4 x5 d = some z)  {H : Heap} {locs : List Loc} {ls : Array Slot} (hl : lv_has ls 9 [(0, .ref (ad x0)), (1, .int x1), (2, .int x2), (3, .int x3), (4, .int x4), (5, .int x5)]) (G : aw_G D cA base ad σ d s H locs) : W p l e rm_X11_change s m args below meth c H locs 0 0 (aw_Ei D cA base ad σ below args s z) (F0 m 21 ls [.int t0]) := by
  have hx := X.1; have hb := X.2.1; have hml := X.2.2.1; have hown := X.2.2.2.1
  unfold f_X11_change_J21 at hf
  refine lv_istore (lv' := [(6, .int t0), (0, .ref (ad x0)), (1, .int x1), (2, .int x2), (3, .int x3), (4, .int x4), (5, .int x5)]) hx hb dX11_change_21 hl (by decide) rfl (fun ls hl => ?_)
  refine lv_iload hx hb dX11_change_23 (lv_at hl 0 rfl) ?_
  refine lv_if_eq (tgt := 49) hx hb dX11_change_25 (by decide) (fun hc => ?_) (fun hc => ?_)
  · have hf := aw_ite_t hc hf
    exact w_X11_change_J49 X hf  (lv_sub hl [1, 2, 3, 4, 5, 6, 0] rfl) G
  · have hf := aw_ite_f hc hf
    refine lv_iload_n hx hb dX11_change_28 rfl (lv_at hl 3 rfl) ?_
    refine lv_iload_n hx hb dX11_change_29 rfl (lv_at hl 4 rfl) ?_
    obtain ⟨z_26, hz_27, hf⟩ := aw_bind_some hf
    refine aw_SI (As := [.int x2, .int x3]) (rest := []) X G hl.1 cr_X11_120 (c_X11_isValue l hz_27) ⟨rfl, rfl⟩ rfl rfl rfl ⟨Nat.le_of_ble_eq_true rfl, Nat.le_of_ble_eq_true rfl⟩ (Nat.le_of_ble_eq_true rfl) dX11_change_30 ⟨Nat.zero_le _, Nat.zero_le _⟩ (fun H locs G => ?_)
    refine lv_if_eq (tgt := 49) hx hb dX11_change_33 (by decide) (fun hc => ?_) (fun hc => ?_)
    · have hf := aw_ite_t hc hf
      exact w_X11_change_J49 X hf  (lv_sub hl [1, 2, 3, 4, 5, 6, 0] rfl) G
    · have hf := aw_ite_f hc hf
      refine lv_iload_n hx hb dX11_change_36 rfl (lv_at hl 3 rfl) ?_
      refine lv_iload hx hb dX11_change_37 (lv_at hl 5 rfl) ?_
      obtain ⟨z_28, hz_29, hf⟩ := aw_bind_some hf
      refine aw_SI (As := [.int x2, .int x4]) (rest := []) X G hl.1 cr_X11_120 (c_X11_isValue l hz_29) ⟨rfl, rfl⟩ rfl rfl rfl ⟨Nat.le_of_ble_eq_true rfl, Nat.le_of_ble_eq_true rfl⟩ (Nat.le_of_ble_eq_true rfl) dX11_change_39 ⟨Nat.zero_le _, Nat.zero_le _⟩ (fun H locs G => ?_)
      refine lv_if_eq (tgt := 49) hx hb dX11_change_42 (by decide) (fun hc => ?_) (fun hc => ?_)
      · have hf := aw_ite_t hc hf
        exact w_X11_change_J49 X hf  (lv_sub hl [1, 2, 3, 4, 5, 6, 0] rfl) G
      · have hf := aw_ite_f hc hf
        refine lv_iconst (v := (1 : Int32)) hx hb dX11_change_45 (by decide) ?_
        refine lv_goto (tgt := 50) hx hb dX11_change_46 (by decide) ?_
        exact w_X11_change_J50 X hf  (lv_sub hl [1, 2, 3, 4, 5, 6, 0] rfl) G
set_option maxHeartbeats 4000000 in
set_option maxRecDepth 100000 in
theorem w_X11_change_J20 {z : Int32 × Dt} (X : aw_X p c cX11_change 9 s RX11 m meth (some .int)) {x0 : Nat} {x1 : Int32} {x2 : Int32} {x3 : Int32} {x4 : Int32} {x5 : Int32} {d : Dt} (hf : f_X11_change_J20 σ x0 x1 x2 x3 x4 x5 d = some z)  {H : Heap} {locs : List Loc} {ls : Array Slot} (hl : lv_has ls 9 [(0, .ref (ad x0)), (1, .int x1), (2, .int x2), (3, .int x3), (4, .int x4), (5, .int x5)]) (G : aw_G D cA base ad σ d s H locs) : W p l e rm_X11_change s m args below meth c H locs 0 0 (aw_Ei D cA base ad σ below args s z) (F0 m 20 ls []) := by
  have hx := X.1; have hb := X.2.1; have hml := X.2.2.1; have hown := X.2.2.2.1
  unfold f_X11_change_J20 at hf
  refine lv_iconst (v := (0 : Int32)) hx hb dX11_change_20 (by decide) ?_
  exact w_X11_change_J21 X hf  (lv_sub hl [0, 1, 2, 3, 4, 5] rfl) G
end W_X11_change
set_option maxHeartbeats 4000000 in
set_option maxRecDepth 100000 in
theorem c_X11_change (l : Launch) {σ : Sg} {x0 : Nat} {x1 : Int32} {x2 : Int32} {x3 : Int32} {x4 : Int32} {x5 : Int32} {d : Dt} {z : Int32 × Dt} (hf : f_X11_change σ x0 x1 x2 x3 x4 x5 d = some z) : aw_Mi l yX11_change (Cond.code yX11_change cX11_change 9 (some .int)) rm_X11_change (fun ad => [.ref (ad x0), .int x1, .int x2, .int x3, .int x4, .int x5]) σ d z := by
  intro D cA base ad
  refine aw_ofW (own := RX11) (cc := cX11_change) (nL := 9) (ret := some .int) (by decide) rfl rfl ?_
  intro p e s m below meth c X hnm G
  have hx := X.1; have hb := X.2.1; have hml := X.2.2.1; have hown := X.2.2.2.1
  refine aw_ls (lv := [(0, .ref (ad x0)), (1, .int x1), (2, .int x2), (3, .int x3), (4, .int x4), (5, .int x5)]) (Nat.le_of_ble_eq_true rfl) rfl (fun ls hl => ?_)
  unfold f_X11_change at hf
  refine lv_iload_n hx hb dX11_change_0 rfl (lv_at hl 1 rfl) ?_
  obtain ⟨z_1, hz_2, hf⟩ := aw_bind_some hf
  refine aw_SI (As := [.int x1]) (rest := []) X G hl.1 cr_X11_117 (c_X11_isDialect l hz_2) ⟨rfl, rfl⟩ rfl rfl rfl ⟨Nat.le_of_ble_eq_true rfl, Nat.le_of_ble_eq_true rfl⟩ (Nat.le_of_ble_eq_true rfl) dX11_change_1 ⟨Nat.zero_le _, Nat.zero_le _⟩ (fun H locs G => ?_)
  refine lv_if_eq (tgt := 20) hx hb dX11_change_4 (by decide) (fun hc => ?_) (fun hc => ?_)
  · have hf := aw_ite_t hc hf
    exact w_X11_change_J20 X hf  (lv_sub hl [0, 1, 2, 3, 4, 5] rfl) G
  · have hf := aw_ite_f hc hf
    refine lv_iload_n hx hb dX11_change_7 rfl (lv_at hl 2 rfl) ?_
    refine lv_iconst (v := (0 : Int32)) hx hb dX11_change_8 (by decide) ?_
    refine lv_iconst (v := (3 : Int32)) hx hb dX11_change_9 (by decide) ?_
    obtain ⟨z_30, hz_31, hf⟩ := aw_bind_some hf
    refine aw_SI (As := [.int x2, .int ((0 : Int32)), .int ((3 : Int32))]) (rest := []) X G hl.1 cr_X11_103 (c_X11_isIn l hz_31) ⟨rfl, rfl⟩ rfl rfl rfl ⟨Nat.le_of_ble_eq_true rfl, Nat.le_of_ble_eq_true rfl⟩ (Nat.le_of_ble_eq_true rfl) dX11_change_10 ⟨Nat.zero_le _, Nat.zero_le _⟩ (fun H locs G => ?_)
    refine lv_if_eq (tgt := 20) hx hb dX11_change_13 (by decide) (fun hc => ?_) (fun hc => ?_)
    · have hf := aw_ite_t hc hf
      exact w_X11_change_J20 X hf  (lv_sub hl [0, 1, 2, 3, 4, 5] rfl) G
    · have hf := aw_ite_f hc hf
      refine lv_iconst (v := (1 : Int32)) hx hb dX11_change_16 (by decide) ?_
      refine lv_goto (tgt := 21) hx hb dX11_change_17 (by decide) ?_
      exact w_X11_change_J21 X hf  (lv_sub hl [0, 1, 2, 3, 4, 5] rfl) G
def rm_X11_times : Room := { frames := 0, cells := 0, slots := 0, locals := 0 }
def f_X11_times_J29 (σ : Sg) (t0 : Int32) (d : Dt) : Option (Int32 × Dt) :=
  some (t0, d)
def f_X11_times (σ : Sg) (x0 : Int32) (d : Dt) : Option (Int32 × Dt) :=
  if x0 = 0 then f_X11_times_J29 σ ((108 : Int32)) d else if x0 = ((1 : Int32)) then f_X11_times_J29 σ ((27 : Int32)) d else if x0 = ((2 : Int32)) then f_X11_times_J29 σ ((3 : Int32)) d else f_X11_times_J29 σ ((1 : Int32)) d
section W_X11_times
variable {p : Program} {l : Launch} {e : Env} {s : State} {m : MethodId} {args : Array Value} {below : List Frame} {meth : Method} {c : Code}
variable {D : va_G} {cA : Nat → ClassId} {base : Nat} {ad : Nat → Nat} {σ : Sg}
set_option maxHeartbeats 4000000 in
set_option maxRecDepth 100000 in
theorem w_X11_times_J29 {z : Int32 × Dt} (X : aw_X p c cX11_times 1 s RX11 m meth (some .int)) {t0 : Int32} {d : Dt} (hf : f_X11_times_J29 σ t0 d = some z)  {H : Heap} {locs : List Loc} {ls : Array Slot} (hl : lv_has ls 1 []) (G : aw_G D cA base ad σ d s H locs) : W p l e rm_X11_times s m args below meth c H locs 0 0 (aw_Ei D cA base ad σ below args s z) (F0 m 29 ls [.int t0]) := by
  have hx := X.1; have hb := X.2.1; have hml := X.2.2.1; have hown := X.2.2.2.1
  unfold f_X11_times_J29 at hf
  exact aw_reti X G hf dX11_times_29
end W_X11_times
set_option maxHeartbeats 4000000 in
set_option maxRecDepth 100000 in
theorem c_X11_times (l : Launch) {σ : Sg} {x0 : Int32} {d : Dt} {z : Int32 × Dt} (hf : f_X11_times σ x0 d = some z) : aw_Mi l yX11_times (Cond.code yX11_times cX11_times 1 (some .int)) rm_X11_times (fun ad => [.int x0]) σ d z := by
  intro D cA base ad
  refine aw_ofW (own := RX11) (cc := cX11_times) (nL := 1) (ret := some .int) (by decide) rfl rfl ?_
  intro p e s m below meth c X hnm G
  have hx := X.1; have hb := X.2.1; have hml := X.2.2.1; have hown := X.2.2.2.1
  refine aw_ls (lv := [(0, .int x0)]) (Nat.le_of_ble_eq_true rfl) rfl (fun ls hl => ?_)
  unfold f_X11_times at hf
  refine lv_iload_n hx hb dX11_times_0 rfl (lv_at hl 0 rfl) ?_
  refine lv_if_ne (tgt := 9) hx hb dX11_times_1 (by decide) (fun hc => ?_) (fun hc => ?_)
  · have hf := aw_ite_f hc hf
    refine lv_iload_n hx hb dX11_times_9 rfl (lv_at hl 0 rfl) ?_
    refine lv_iconst (v := (1 : Int32)) hx hb dX11_times_10 (by decide) ?_
    refine lv_icmp_ne (tgt := 19) hx hb dX11_times_11 (by decide) (fun hc => ?_) (fun hc => ?_)
    · have hf := aw_ite_f hc hf
      refine lv_iload_n hx hb dX11_times_19 rfl (lv_at hl 0 rfl) ?_
      refine lv_iconst (v := (2 : Int32)) hx hb dX11_times_20 (by decide) ?_
      refine lv_icmp_ne (tgt := 28) hx hb dX11_times_21 (by decide) (fun hc => ?_) (fun hc => ?_)
      · have hf := aw_ite_f hc hf
        refine lv_iconst (v := (1 : Int32)) hx hb dX11_times_28 (by decide) ?_
        exact w_X11_times_J29 X hf  (lv_sub hl [] rfl) G
      · have hf := aw_ite_t hc hf
        refine lv_iconst (v := (3 : Int32)) hx hb dX11_times_24 (by decide) ?_
        refine lv_goto (tgt := 29) hx hb dX11_times_25 (by decide) ?_
        exact w_X11_times_J29 X hf  (lv_sub hl [] rfl) G
    · have hf := aw_ite_t hc hf
      refine lv_bipush (v := (27 : Int32)) hx hb dX11_times_14 (by decide) ?_
      refine lv_goto (tgt := 29) hx hb dX11_times_16 (by decide) ?_
      exact w_X11_times_J29 X hf  (lv_sub hl [] rfl) G
  · have hf := aw_ite_t hc hf
    refine lv_bipush (v := (108 : Int32)) hx hb dX11_times_4 (by decide) ?_
    refine lv_goto (tgt := 29) hx hb dX11_times_6 (by decide) ?_
    exact w_X11_times_J29 X hf  (lv_sub hl [] rfl) G
def rm_X11_of : Room := { frames := 0, cells := 0, slots := 0, locals := 0 }
def f_X11_of_J42 (σ : Sg) (t0 : Int32) (d : Dt) : Option (Int32 × Dt) :=
  some (t0, d)
def f_X11_of (σ : Sg) (x0 : Int32) (x1 : Int32) (d : Dt) : Option (Int32 × Dt) :=
  if x1 = 0 then f_X11_of_J42 σ (x0 / (108 : Int32)) d else if x1 = ((1 : Int32)) then f_X11_of_J42 σ ((x0 / (27 : Int32)) - (x0 / (27 : Int32)) / (4 : Int32) * (4 : Int32)) d else if x1 = ((2 : Int32)) then f_X11_of_J42 σ ((x0 / (3 : Int32)) - (x0 / (3 : Int32)) / (9 : Int32) * (9 : Int32)) d else f_X11_of_J42 σ (x0 - x0 / (3 : Int32) * (3 : Int32)) d
section W_X11_of
variable {p : Program} {l : Launch} {e : Env} {s : State} {m : MethodId} {args : Array Value} {below : List Frame} {meth : Method} {c : Code}
variable {D : va_G} {cA : Nat → ClassId} {base : Nat} {ad : Nat → Nat} {σ : Sg}
set_option maxHeartbeats 4000000 in
set_option maxRecDepth 100000 in
theorem w_X11_of_J42 {z : Int32 × Dt} (X : aw_X p c cX11_of 2 s RX11 m meth (some .int)) {t0 : Int32} {d : Dt} (hf : f_X11_of_J42 σ t0 d = some z)  {H : Heap} {locs : List Loc} {ls : Array Slot} (hl : lv_has ls 2 []) (G : aw_G D cA base ad σ d s H locs) : W p l e rm_X11_of s m args below meth c H locs 0 0 (aw_Ei D cA base ad σ below args s z) (F0 m 42 ls [.int t0]) := by
  have hx := X.1; have hb := X.2.1; have hml := X.2.2.1; have hown := X.2.2.2.1
  unfold f_X11_of_J42 at hf
  exact aw_reti X G hf dX11_of_42
end W_X11_of
set_option maxHeartbeats 4000000 in
set_option maxRecDepth 100000 in
theorem c_X11_of (l : Launch) {σ : Sg} {x0 : Int32} {x1 : Int32} {d : Dt} {z : Int32 × Dt} (hf : f_X11_of σ x0 x1 d = some z) : aw_Mi l yX11_of (Cond.code yX11_of cX11_of 2 (some .int)) rm_X11_of (fun ad => [.int x0, .int x1]) σ d z := by
  intro D cA base ad
  refine aw_ofW (own := RX11) (cc := cX11_of) (nL := 2) (ret := some .int) (by decide) rfl rfl ?_
  intro p e s m below meth c X hnm G
  have hx := X.1; have hb := X.2.1; have hml := X.2.2.1; have hown := X.2.2.2.1
  refine aw_ls (lv := [(0, .int x0), (1, .int x1)]) (Nat.le_of_ble_eq_true rfl) rfl (fun ls hl => ?_)
  unfold f_X11_of at hf
  refine lv_iload_n hx hb dX11_of_0 rfl (lv_at hl 1 rfl) ?_
  refine lv_if_ne (tgt := 11) hx hb dX11_of_1 (by decide) (fun hc => ?_) (fun hc => ?_)
  · have hf := aw_ite_f hc hf
    refine lv_iload_n hx hb dX11_of_11 rfl (lv_at hl 1 rfl) ?_
    refine lv_iconst (v := (1 : Int32)) hx hb dX11_of_12 (by decide) ?_
    refine lv_icmp_ne (tgt := 25) hx hb dX11_of_13 (by decide) (fun hc => ?_) (fun hc => ?_)
    · have hf := aw_ite_f hc hf
      refine lv_iload_n hx hb dX11_of_25 rfl (lv_at hl 1 rfl) ?_
      refine lv_iconst (v := (2 : Int32)) hx hb dX11_of_26 (by decide) ?_
      refine lv_icmp_ne (tgt := 39) hx hb dX11_of_27 (by decide) (fun hc => ?_) (fun hc => ?_)
      · have hf := aw_ite_f hc hf
        refine lv_iload_n hx hb dX11_of_39 rfl (lv_at hl 0 rfl) ?_
        refine lv_iconst (v := (3 : Int32)) hx hb dX11_of_40 (by decide) ?_
        refine lv_irem hx hb dX11_of_41 (by decide) ?_
        exact w_X11_of_J42 X hf  (lv_sub hl [] rfl) G
      · have hf := aw_ite_t hc hf
        refine lv_iload_n hx hb dX11_of_30 rfl (lv_at hl 0 rfl) ?_
        refine lv_iconst (v := (3 : Int32)) hx hb dX11_of_31 (by decide) ?_
        refine lv_idiv hx hb dX11_of_32 (by decide) ?_
        refine lv_bipush (v := (9 : Int32)) hx hb dX11_of_33 (by decide) ?_
        refine lv_irem hx hb dX11_of_35 (by decide) ?_
        refine lv_goto (tgt := 42) hx hb dX11_of_36 (by decide) ?_
        exact w_X11_of_J42 X hf  (lv_sub hl [] rfl) G
    · have hf := aw_ite_t hc hf
      refine lv_iload_n hx hb dX11_of_16 rfl (lv_at hl 0 rfl) ?_
      refine lv_bipush (v := (27 : Int32)) hx hb dX11_of_17 (by decide) ?_
      refine lv_idiv hx hb dX11_of_19 (by decide) ?_
      refine lv_iconst (v := (4 : Int32)) hx hb dX11_of_20 (by decide) ?_
      refine lv_irem hx hb dX11_of_21 (by decide) ?_
      refine lv_goto (tgt := 42) hx hb dX11_of_22 (by decide) ?_
      exact w_X11_of_J42 X hf  (lv_sub hl [] rfl) G
  · have hf := aw_ite_t hc hf
    refine lv_iload_n hx hb dX11_of_4 rfl (lv_at hl 0 rfl) ?_
    refine lv_bipush (v := (108 : Int32)) hx hb dX11_of_5 (by decide) ?_
    refine lv_idiv hx hb dX11_of_7 (by decide) ?_
    refine lv_goto (tgt := 42) hx hb dX11_of_8 (by decide) ?_
    exact w_X11_of_J42 X hf  (lv_sub hl [] rfl) G
def rm_X11_speaks : Room := { frames := 1, cells := 0, slots := 0, locals := 21 }
def f_X11_speaks_B2 (σ : Sg) (kb2 : Int32 → Dt → Option (Unit × Dt)) (k2 : Dt → Option (Unit × Dt)) (x0 : Nat) (x1 : Int32) (x2 : Int32) (x3 : Int32) (d : Dt) : Option (Unit × Dt) :=
  aw_chk (aw_O σ 11 32 x0) ((σ.2.2 x0 3).bind (fun q_2 => aw_chk (aw_I σ 20 q_2 x2) (if (d.1 q_2 x2.toNatClampNeg) ≤ x3 then k2 d else (σ.2.2 x0 23).bind (fun q_5 => (σ.2.2 x0 4).bind (fun q_7 => aw_chk (aw_I σ 20 q_7 ((((4 : Int32)) * x2) + x3)) (aw_chk (aw_I σ 20 q_5 x3) (kb2 (x3 + 1) (aw_sI d q_5 x3.toNatClampNeg (d.1 q_7 ((((4 : Int32)) * x2) + x3).toNatClampNeg)))))))))
def f_X11_speaks_L2 (σ : Sg) (n : Nat) (k2 : Dt → Option (Unit × Dt)) (x0 : Nat) (x1 : Int32) (x2 : Int32) : Int32 → Dt → Option (Unit × Dt) := match n with
  | 0 => fun _ _ => none
  | n + 1 => fun x3 d => f_X11_speaks_B2 σ (f_X11_speaks_L2 σ n k2 x0 x1 x2) k2 x0 x1 x2 x3 d
def f_X11_speaks_J151 (σ : Sg) (kb82 : Int32 → Dt → Option (Unit × Dt)) (x0 : Nat) (x1 : Int32) (x2 : Int32) (x3 : Int32) (x4 : Int32) (d : Dt) : Option (Unit × Dt) :=
  kb82 (x4 + 1) d
def f_X11_speaks_B82 (σ : Sg) (kb82 : Int32 → Dt → Option (Unit × Dt)) (k82 : Dt → Option (Unit × Dt)) (x0 : Nat) (x1 : Int32) (x2 : Int32) (x3 : Int32) (x4 : Int32) (d : Dt) : Option (Unit × Dt) :=
  aw_chk (aw_O σ 11 32 x0) ((σ.2.2 x0 3).bind (fun q_20 => aw_chk (aw_I σ 20 q_20 x2) (if (d.1 q_20 x2.toNatClampNeg) ≤ x4 then k82 d else (σ.2.2 x0 23).bind (fun q_23 => aw_chk (aw_I σ 20 q_23 x4) ((σ.2.2 x0 7).bind (fun q_26 => aw_chk (aw_I σ 20 q_26 x3) ((f_X11_of σ (d.1 q_23 x4.toNatClampNeg) (d.1 q_26 x3.toNatClampNeg) d).bind (fun z_29 => (σ.2.2 x0 8).bind (fun q_31 => aw_chk (aw_I σ 20 q_31 x3) (if z_29.1 = (z_29.2.1 q_31 x3.toNatClampNeg) then (σ.2.2 x0 9).bind (fun q_34 => aw_chk (aw_I σ 20 q_34 x3) ((f_X11_times σ (z_29.2.1 q_26 x3.toNatClampNeg) z_29.2).bind (fun z_37 => f_X11_speaks_J151 σ kb82 x0 x1 x2 x3 x4 (aw_sI z_37.2 q_23 x4.toNatClampNeg ((z_29.2.1 q_23 x4.toNatClampNeg) + (((z_29.2.1 q_34 x3.toNatClampNeg) - (z_29.2.1 q_31 x3.toNatClampNeg)) * z_37.1)))))) else f_X11_speaks_J151 σ kb82 x0 x1 x2 x3 x4 z_29.2))))))))))
def f_X11_speaks_L82 (σ : Sg) (n : Nat) (k82 : Dt → Option (Unit × Dt)) (x0 : Nat) (x1 : Int32) (x2 : Int32) (x3 : Int32) : Int32 → Dt → Option (Unit × Dt) := match n with
  | 0 => fun _ _ => none
  | n + 1 => fun x4 d => f_X11_speaks_B82 σ (f_X11_speaks_L82 σ n k82 x0 x1 x2 x3) k82 x0 x1 x2 x3 x4 d
def f_X11_speaks_J80 (σ : Sg) (kb39 : Int32 → Dt → Option (Unit × Dt)) (t0 : Int32) (x0 : Nat) (x1 : Int32) (x2 : Int32) (x3 : Int32) (d : Dt) : Option (Unit × Dt) :=
  f_X11_speaks_L82 σ aw_FU (fun d_39 => kb39 (x3 + 1) d_39) x0 x1 x2 x3 t0 d
def f_X11_speaks_B39 (σ : Sg) (kb39 : Int32 → Dt → Option (Unit × Dt)) (k39 : Dt → Option (Unit × Dt)) (x0 : Nat) (x1 : Int32) (x2 : Int32) (x3 : Int32) (d : Dt) : Option (Unit × Dt) :=
  if x1 = ((-1 : Int32)) then k39 d else aw_chk (aw_O σ 11 32 x0) ((σ.2.2 x0 6).bind (fun q_13 => aw_chk (aw_I σ 20 q_13 x1) (if ((((6 : Int32)) * x1) + (d.1 q_13 x1.toNatClampNeg)) ≤ x3 then k39 d else (σ.2.2 x0 10).bind (fun q_16 => aw_chk (aw_I σ 22 q_16 x3) (if (d.1 q_16 x3.toNatClampNeg) = 0 then f_X11_speaks_J80 σ kb39 ((0 : Int32)) x0 x1 x2 x3 d else (σ.2.2 x0 3).bind (fun q_40 => aw_chk (aw_I σ 20 q_40 x2) (f_X11_speaks_J80 σ kb39 ((d.1 q_40 x2.toNatClampNeg) - ((1 : Int32))) x0 x1 x2 x3 d)))))))
def f_X11_speaks_L39 (σ : Sg) (n : Nat) (k39 : Dt → Option (Unit × Dt)) (x0 : Nat) (x1 : Int32) (x2 : Int32) : Int32 → Dt → Option (Unit × Dt) := match n with
  | 0 => fun _ _ => none
  | n + 1 => fun x3 d => f_X11_speaks_B39 σ (f_X11_speaks_L39 σ n k39 x0 x1 x2) k39 x0 x1 x2 x3 d
def f_X11_speaks_J163 (σ : Sg)  (d : Dt) : Option (Unit × Dt) :=
  some ((), d)
def f_X11_speaks (σ : Sg) (x0 : Nat) (x1 : Int32) (x2 : Int32) (d : Dt) : Option (Unit × Dt) :=
  f_X11_speaks_L2 σ aw_FU (fun d_11 => f_X11_speaks_L39 σ aw_FU (fun d_43 => f_X11_speaks_J163 σ d_43) x0 x1 x2 (((6 : Int32)) * x1) d_11) x0 x1 x2 ((0 : Int32)) d
section W_X11_speaks
variable {p : Program} {l : Launch} {e : Env} {s : State} {m : MethodId} {args : Array Value} {below : List Frame} {meth : Method} {c : Code}
variable {D : va_G} {cA : Nat → ClassId} {base : Nat} {ad : Nat → Nat} {σ : Sg}
set_option maxHeartbeats 4000000 in
set_option maxRecDepth 100000 in
theorem w_X11_speaks_B2 {z : Unit × Dt} (X : aw_X p c cX11_speaks 5 s RX11 m meth (none)) {kb2 : Int32 → Dt → Option (Unit × Dt)} {k2 : Dt → Option (Unit × Dt)} {x0 : Nat} {x1 : Int32} {x2 : Int32} {x3 : Int32} {d : Dt} (hf : f_X11_speaks_B2 σ kb2 k2 x0 x1 x2 x3 d = some z) (hkb2 : ∀ (y3 : Int32) (d : Dt), kb2 y3 d = some z → ∀ (H : Heap) (locs : List Loc) (ls : Array Slot), lv_has ls 5 [(0, .ref (ad x0)), (1, .int x1), (2, .int x2), (3, .int y3)] → aw_G D cA base ad σ d s H locs → W p l e rm_X11_speaks s m args below meth c H locs 0 0 (aw_Ev D cA base ad σ below args s z) (F0 m 2 ls [])) (hk2 : ∀ (d : Dt), k2 d = some z → ∀ (H : Heap) (locs : List Loc) (ls : Array Slot), lv_has ls 5 [(0, .ref (ad x0)), (1, .int x1), (2, .int x2)] → aw_G D cA base ad σ d s H locs → W p l e rm_X11_speaks s m args below meth c H locs 0 0 (aw_Ev D cA base ad σ below args s z) (F0 m 34 ls [])) {H : Heap} {locs : List Loc} {ls : Array Slot} (hl : lv_has ls 5 [(0, .ref (ad x0)), (1, .int x1), (2, .int x2), (3, .int x3)]) (G : aw_G D cA base ad σ d s H locs) : W p l e rm_X11_speaks s m args below meth c H locs 0 0 (aw_Ev D cA base ad σ below args s z) (F0 m 2 ls []) := by
  have hx := X.1; have hb := X.2.1; have hml := X.2.2.1; have hown := X.2.2.2.1
  unfold f_X11_speaks_B2 at hf
  refine lv_iload_n hx hb dX11_speaks_2 rfl (lv_at hl 3 rfl) ?_
  refine lv_aload_n hx hb dX11_speaks_3 rfl (lv_at hl 0 rfl) ?_
  obtain ⟨hc_1, hf⟩ := aw_chk_some hf
  obtain ⟨q_2, hq_3, hf⟩ := aw_bind_some hf
  refine gf_X11_13 hx hb G hown hc_1 hq_3 dX11_speaks_4 ?_
  refine lv_iload_n hx hb dX11_speaks_7 rfl (lv_at hl 2 rfl) ?_
  obtain ⟨hc_4, hf⟩ := aw_chk_some hf
  refine aw_ial hx hb G hc_4 dX11_speaks_8 ?_
  refine lv_icmp_ge (tgt := 34) hx hb dX11_speaks_9 (by decide) (fun hc => ?_) (fun hc => ?_)
  · have hf := aw_ite_t hc hf
    exact hk2 _ hf _ _ _ (lv_sub hl [0, 1, 2] rfl) G
  · have hf := aw_ite_f hc hf
    refine lv_aload_n hx hb dX11_speaks_12 rfl (lv_at hl 0 rfl) ?_
    obtain ⟨q_5, hq_6, hf⟩ := aw_bind_some hf
    refine gf_X11_71 hx hb G hown hc_1 hq_6 dX11_speaks_13 ?_
    refine lv_iload_n hx hb dX11_speaks_16 rfl (lv_at hl 3 rfl) ?_
    refine lv_aload_n hx hb dX11_speaks_17 rfl (lv_at hl 0 rfl) ?_
    obtain ⟨q_7, hq_8, hf⟩ := aw_bind_some hf
    refine gf_X11_16 hx hb G hown hc_1 hq_8 dX11_speaks_18 ?_
    refine lv_iconst (v := (4 : Int32)) hx hb dX11_speaks_21 (by decide) ?_
    refine lv_iload_n hx hb dX11_speaks_22 rfl (lv_at hl 2 rfl) ?_
    refine lv_imul hx hb dX11_speaks_23 ?_
    refine lv_iload_n hx hb dX11_speaks_24 rfl (lv_at hl 3 rfl) ?_
    refine lv_iadd hx hb dX11_speaks_25 ?_
    obtain ⟨hc_9, hf⟩ := aw_chk_some hf
    refine aw_ial hx hb G hc_9 dX11_speaks_26 ?_
    obtain ⟨hc_10, hf⟩ := aw_chk_some hf
    refine aw_ias hx hb G hc_10 dX11_speaks_27 (fun H locs G => ?_)
    refine lv_iinc (v := x3 + 1) (lv' := [(3, .int (x3 + 1)), (0, .ref (ad x0)), (1, .int x1), (2, .int x2)]) hx hb dX11_speaks_28 hl (k := 3) rfl rfl (by decide) rfl (fun ls hl => ?_)
    refine lv_goto (tgt := 2) hx hb dX11_speaks_31 (by decide) ?_
    exact hkb2 _ _ hf _ _ _ (lv_sub hl [1, 2, 3, 0] rfl) G
theorem w_X11_speaks_L2 {z : Unit × Dt} (X : aw_X p c cX11_speaks 5 s RX11 m meth (none)) {k2 : Dt → Option (Unit × Dt)} {x0 : Nat} {x1 : Int32} {x2 : Int32} (n : Nat) {x3 : Int32} {d : Dt} (hf : f_X11_speaks_L2 σ n k2 x0 x1 x2 x3 d = some z) (hk2 : ∀ (d : Dt), k2 d = some z → ∀ (H : Heap) (locs : List Loc) (ls : Array Slot), lv_has ls 5 [(0, .ref (ad x0)), (1, .int x1), (2, .int x2)] → aw_G D cA base ad σ d s H locs → W p l e rm_X11_speaks s m args below meth c H locs 0 0 (aw_Ev D cA base ad σ below args s z) (F0 m 34 ls [])) {H : Heap} {locs : List Loc} {ls : Array Slot} (hl : lv_has ls 5 [(0, .ref (ad x0)), (1, .int x1), (2, .int x2), (3, .int x3)]) (G : aw_G D cA base ad σ d s H locs) : W p l e rm_X11_speaks s m args below meth c H locs 0 0 (aw_Ev D cA base ad σ below args s z) (F0 m 2 ls []) := by
  induction n generalizing x3 d H locs ls with
  | zero => exact absurd (show (none : Option (Unit × Dt)) = some z from hf) (by simp)
  | succ n ih => exact w_X11_speaks_B2 X (kb2 := f_X11_speaks_L2 σ n k2 x0 x1 x2) hf  (fun x3 d hf H locs ls hl G => ih hf hl G) hk2 hl G
set_option maxHeartbeats 4000000 in
set_option maxRecDepth 100000 in
theorem w_X11_speaks_J151 {z : Unit × Dt} (X : aw_X p c cX11_speaks 5 s RX11 m meth (none)) {kb82 : Int32 → Dt → Option (Unit × Dt)} {x0 : Nat} {x1 : Int32} {x2 : Int32} {x3 : Int32} {x4 : Int32} {d : Dt} (hf : f_X11_speaks_J151 σ kb82 x0 x1 x2 x3 x4 d = some z) (hkb82 : ∀ (y4 : Int32) (d : Dt), kb82 y4 d = some z → ∀ (H : Heap) (locs : List Loc) (ls : Array Slot), lv_has ls 5 [(0, .ref (ad x0)), (1, .int x1), (2, .int x2), (3, .int x3), (4, .int y4)] → aw_G D cA base ad σ d s H locs → W p l e rm_X11_speaks s m args below meth c H locs 0 0 (aw_Ev D cA base ad σ below args s z) (F0 m 82 ls [])) {H : Heap} {locs : List Loc} {ls : Array Slot} (hl : lv_has ls 5 [(0, .ref (ad x0)), (1, .int x1), (2, .int x2), (3, .int x3), (4, .int x4)]) (G : aw_G D cA base ad σ d s H locs) : W p l e rm_X11_speaks s m args below meth c H locs 0 0 (aw_Ev D cA base ad σ below args s z) (F0 m 151 ls []) := by
  have hx := X.1; have hb := X.2.1; have hml := X.2.2.1; have hown := X.2.2.2.1
  unfold f_X11_speaks_J151 at hf
  refine lv_iinc (v := x4 + 1) (lv' := [(4, .int (x4 + 1)), (0, .ref (ad x0)), (1, .int x1), (2, .int x2), (3, .int x3)]) hx hb dX11_speaks_151 hl (k := 4) rfl rfl (by decide) rfl (fun ls hl => ?_)
  refine lv_goto (tgt := 82) hx hb dX11_speaks_154 (by decide) ?_
  exact hkb82 _ _ hf _ _ _ (lv_sub hl [1, 2, 3, 4, 0] rfl) G
set_option maxHeartbeats 4000000 in
set_option maxRecDepth 100000 in
theorem w_X11_speaks_B82 {z : Unit × Dt} (X : aw_X p c cX11_speaks 5 s RX11 m meth (none)) {kb82 : Int32 → Dt → Option (Unit × Dt)} {k82 : Dt → Option (Unit × Dt)} {x0 : Nat} {x1 : Int32} {x2 : Int32} {x3 : Int32} {x4 : Int32} {d : Dt} (hf : f_X11_speaks_B82 σ kb82 k82 x0 x1 x2 x3 x4 d = some z) (hkb82 : ∀ (y4 : Int32) (d : Dt), kb82 y4 d = some z → ∀ (H : Heap) (locs : List Loc) (ls : Array Slot), lv_has ls 5 [(0, .ref (ad x0)), (1, .int x1), (2, .int x2), (3, .int x3), (4, .int y4)] → aw_G D cA base ad σ d s H locs → W p l e rm_X11_speaks s m args below meth c H locs 0 0 (aw_Ev D cA base ad σ below args s z) (F0 m 82 ls [])) (hk82 : ∀ (d : Dt), k82 d = some z → ∀ (H : Heap) (locs : List Loc) (ls : Array Slot), lv_has ls 5 [(0, .ref (ad x0)), (1, .int x1), (2, .int x2), (3, .int x3)] → aw_G D cA base ad σ d s H locs → W p l e rm_X11_speaks s m args below meth c H locs 0 0 (aw_Ev D cA base ad σ below args s z) (F0 m 157 ls [])) {H : Heap} {locs : List Loc} {ls : Array Slot} (hl : lv_has ls 5 [(0, .ref (ad x0)), (1, .int x1), (2, .int x2), (3, .int x3), (4, .int x4)]) (G : aw_G D cA base ad σ d s H locs) : W p l e rm_X11_speaks s m args below meth c H locs 0 0 (aw_Ev D cA base ad σ below args s z) (F0 m 82 ls []) := by
  have hx := X.1; have hb := X.2.1; have hml := X.2.2.1; have hown := X.2.2.2.1
  unfold f_X11_speaks_B82 at hf
  refine lv_iload hx hb dX11_speaks_82 (lv_at hl 4 rfl) ?_
  refine lv_aload_n hx hb dX11_speaks_84 rfl (lv_at hl 0 rfl) ?_
  obtain ⟨hc_19, hf⟩ := aw_chk_some hf
  obtain ⟨q_20, hq_21, hf⟩ := aw_bind_some hf
  refine gf_X11_13 hx hb G hown hc_19 hq_21 dX11_speaks_85 ?_
  refine lv_iload_n hx hb dX11_speaks_88 rfl (lv_at hl 2 rfl) ?_
  obtain ⟨hc_22, hf⟩ := aw_chk_some hf
  refine aw_ial hx hb G hc_22 dX11_speaks_89 ?_
  refine lv_icmp_ge (tgt := 157) hx hb dX11_speaks_90 (by decide) (fun hc => ?_) (fun hc => ?_)
  · have hf := aw_ite_t hc hf
    exact hk82 _ hf _ _ _ (lv_sub hl [0, 1, 2, 3] rfl) G
  · have hf := aw_ite_f hc hf
    refine lv_aload_n hx hb dX11_speaks_93 rfl (lv_at hl 0 rfl) ?_
    obtain ⟨q_23, hq_24, hf⟩ := aw_bind_some hf
    refine gf_X11_71 hx hb G hown hc_19 hq_24 dX11_speaks_94 ?_
    refine lv_iload hx hb dX11_speaks_97 (lv_at hl 4 rfl) ?_
    obtain ⟨hc_25, hf⟩ := aw_chk_some hf
    refine aw_ial hx hb G hc_25 dX11_speaks_99 ?_
    refine lv_aload_n hx hb dX11_speaks_100 rfl (lv_at hl 0 rfl) ?_
    obtain ⟨q_26, hq_27, hf⟩ := aw_bind_some hf
    refine gf_X11_25 hx hb G hown hc_19 hq_27 dX11_speaks_101 ?_
    refine lv_iload_n hx hb dX11_speaks_104 rfl (lv_at hl 3 rfl) ?_
    obtain ⟨hc_28, hf⟩ := aw_chk_some hf
    refine aw_ial hx hb G hc_28 dX11_speaks_105 ?_
    obtain ⟨z_29, hz_30, hf⟩ := aw_bind_some hf
    refine aw_SI (As := [.int (d.1 q_23 x4.toNatClampNeg), .int (d.1 q_26 x3.toNatClampNeg)]) (rest := []) X G hl.1 cr_X11_124 (c_X11_of l hz_30) ⟨rfl, rfl⟩ rfl rfl rfl ⟨Nat.le_of_ble_eq_true rfl, Nat.le_of_ble_eq_true rfl⟩ (Nat.le_of_ble_eq_true rfl) dX11_speaks_106 ⟨Nat.zero_le _, Nat.zero_le _⟩ (fun H locs G => ?_)
    refine lv_aload_n hx hb dX11_speaks_109 rfl (lv_at hl 0 rfl) ?_
    obtain ⟨q_31, hq_32, hf⟩ := aw_bind_some hf
    refine gf_X11_28 hx hb G hown hc_19 hq_32 dX11_speaks_110 ?_
    refine lv_iload_n hx hb dX11_speaks_113 rfl (lv_at hl 3 rfl) ?_
    obtain ⟨hc_33, hf⟩ := aw_chk_some hf
    refine aw_ial hx hb G hc_33 dX11_speaks_114 ?_
    refine lv_icmp_ne (tgt := 151) hx hb dX11_speaks_115 (by decide) (fun hc => ?_) (fun hc => ?_)
    · have hf := aw_ite_f hc hf
      exact w_X11_speaks_J151 X hf hkb82 (lv_sub hl [0, 1, 2, 3, 4] rfl) G
    · have hf := aw_ite_t hc hf
      refine lv_aload_n hx hb dX11_speaks_118 rfl (lv_at hl 0 rfl) ?_
      refine gf_X11_71 hx hb G hown hc_19 hq_24 dX11_speaks_119 ?_
      refine lv_iload hx hb dX11_speaks_122 (lv_at hl 4 rfl) ?_
      refine lv_dup2_11 hx hb dX11_speaks_124 rfl rfl ?_
      refine aw_ial hx hb G hc_25 dX11_speaks_125 ?_
      refine lv_aload_n hx hb dX11_speaks_126 rfl (lv_at hl 0 rfl) ?_
      obtain ⟨q_34, hq_35, hf⟩ := aw_bind_some hf
      refine gf_X11_31 hx hb G hown hc_19 hq_35 dX11_speaks_127 ?_
      refine lv_iload_n hx hb dX11_speaks_130 rfl (lv_at hl 3 rfl) ?_
      obtain ⟨hc_36, hf⟩ := aw_chk_some hf
      refine aw_ial hx hb G hc_36 dX11_speaks_131 ?_
      refine lv_aload_n hx hb dX11_speaks_132 rfl (lv_at hl 0 rfl) ?_
      refine gf_X11_28 hx hb G hown hc_19 hq_32 dX11_speaks_133 ?_
      refine lv_iload_n hx hb dX11_speaks_136 rfl (lv_at hl 3 rfl) ?_
      refine aw_ial hx hb G hc_33 dX11_speaks_137 ?_
      refine lv_isub hx hb dX11_speaks_138 ?_
      refine lv_aload_n hx hb dX11_speaks_139 rfl (lv_at hl 0 rfl) ?_
      refine gf_X11_25 hx hb G hown hc_19 hq_27 dX11_speaks_140 ?_
      refine lv_iload_n hx hb dX11_speaks_143 rfl (lv_at hl 3 rfl) ?_
      refine aw_ial hx hb G hc_28 dX11_speaks_144 ?_
      obtain ⟨z_37, hz_38, hf⟩ := aw_bind_some hf
      refine aw_SI (As := [.int (z_29.2.1 q_26 x3.toNatClampNeg)]) (rest := [.int ((z_29.2.1 q_34 x3.toNatClampNeg) - (z_29.2.1 q_31 x3.toNatClampNeg)), .int (z_29.2.1 q_23 x4.toNatClampNeg), .int x4, .ref (ad q_23)]) X G hl.1 cr_X11_128 (c_X11_times l hz_38) ⟨rfl, rfl⟩ rfl rfl rfl ⟨Nat.le_of_ble_eq_true rfl, Nat.le_of_ble_eq_true rfl⟩ (Nat.le_of_ble_eq_true rfl) dX11_speaks_145 ⟨Nat.zero_le _, Nat.zero_le _⟩ (fun H locs G => ?_)
      refine lv_imul hx hb dX11_speaks_148 ?_
      refine lv_iadd hx hb dX11_speaks_149 ?_
      refine aw_ias hx hb G hc_25 dX11_speaks_150 (fun H locs G => ?_)
      exact w_X11_speaks_J151 X hf hkb82 (lv_sub hl [0, 1, 2, 3, 4] rfl) G
theorem w_X11_speaks_L82 {z : Unit × Dt} (X : aw_X p c cX11_speaks 5 s RX11 m meth (none)) {k82 : Dt → Option (Unit × Dt)} {x0 : Nat} {x1 : Int32} {x2 : Int32} {x3 : Int32} (n : Nat) {x4 : Int32} {d : Dt} (hf : f_X11_speaks_L82 σ n k82 x0 x1 x2 x3 x4 d = some z) (hk82 : ∀ (d : Dt), k82 d = some z → ∀ (H : Heap) (locs : List Loc) (ls : Array Slot), lv_has ls 5 [(0, .ref (ad x0)), (1, .int x1), (2, .int x2), (3, .int x3)] → aw_G D cA base ad σ d s H locs → W p l e rm_X11_speaks s m args below meth c H locs 0 0 (aw_Ev D cA base ad σ below args s z) (F0 m 157 ls [])) {H : Heap} {locs : List Loc} {ls : Array Slot} (hl : lv_has ls 5 [(0, .ref (ad x0)), (1, .int x1), (2, .int x2), (3, .int x3), (4, .int x4)]) (G : aw_G D cA base ad σ d s H locs) : W p l e rm_X11_speaks s m args below meth c H locs 0 0 (aw_Ev D cA base ad σ below args s z) (F0 m 82 ls []) := by
  induction n generalizing x4 d H locs ls with
  | zero => exact absurd (show (none : Option (Unit × Dt)) = some z from hf) (by simp)
  | succ n ih => exact w_X11_speaks_B82 X (kb82 := f_X11_speaks_L82 σ n k82 x0 x1 x2 x3) hf  (fun x4 d hf H locs ls hl G => ih hf hl G) hk82 hl G
set_option maxHeartbeats 4000000 in
set_option maxRecDepth 100000 in
theorem w_X11_speaks_J80 {z : Unit × Dt} (X : aw_X p c cX11_speaks 5 s RX11 m meth (none)) {kb39 : Int32 → Dt → Option (Unit × Dt)} {t0 : Int32} {x0 : Nat} {x1 : Int32} {x2 : Int32} {x3 : Int32} {d : Dt} (hf : f_X11_speaks_J80 σ kb39 t0 x0 x1 x2 x3 d = some z) (hkb39 : ∀ (y3 : Int32) (d : Dt), kb39 y3 d = some z → ∀ (H : Heap) (locs : List Loc) (ls : Array Slot), lv_has ls 5 [(0, .ref (ad x0)), (1, .int x1), (2, .int x2), (3, .int y3)] → aw_G D cA base ad σ d s H locs → W p l e rm_X11_speaks s m args below meth c H locs 0 0 (aw_Ev D cA base ad σ below args s z) (F0 m 39 ls [])) {H : Heap} {locs : List Loc} {ls : Array Slot} (hl : lv_has ls 5 [(0, .ref (ad x0)), (1, .int x1), (2, .int x2), (3, .int x3)]) (G : aw_G D cA base ad σ d s H locs) : W p l e rm_X11_speaks s m args below meth c H locs 0 0 (aw_Ev D cA base ad σ below args s z) (F0 m 80 ls [.int t0]) := by
  have hx := X.1; have hb := X.2.1; have hml := X.2.2.1; have hown := X.2.2.2.1
  unfold f_X11_speaks_J80 at hf
  refine lv_istore (lv' := [(4, .int t0), (0, .ref (ad x0)), (1, .int x1), (2, .int x2), (3, .int x3)]) hx hb dX11_speaks_80 hl (by decide) rfl (fun ls hl => ?_)
  refine w_X11_speaks_L82 X aw_FU hf  (fun d_39 hf H locs ls hl G => ?_) (lv_sub hl [1, 2, 3, 4, 0] rfl) G
  refine lv_iinc (v := x3 + 1) (lv' := [(3, .int (x3 + 1)), (0, .ref (ad x0)), (1, .int x1), (2, .int x2)]) hx hb dX11_speaks_157 hl (k := 3) rfl rfl (by decide) rfl (fun ls hl => ?_)
  refine lv_goto (tgt := 39) hx hb dX11_speaks_160 (by decide) ?_
  exact hkb39 _ _ hf _ _ _ (lv_sub hl [1, 2, 3, 0] rfl) G
set_option maxHeartbeats 4000000 in
set_option maxRecDepth 100000 in
theorem w_X11_speaks_B39 {z : Unit × Dt} (X : aw_X p c cX11_speaks 5 s RX11 m meth (none)) {kb39 : Int32 → Dt → Option (Unit × Dt)} {k39 : Dt → Option (Unit × Dt)} {x0 : Nat} {x1 : Int32} {x2 : Int32} {x3 : Int32} {d : Dt} (hf : f_X11_speaks_B39 σ kb39 k39 x0 x1 x2 x3 d = some z) (hkb39 : ∀ (y3 : Int32) (d : Dt), kb39 y3 d = some z → ∀ (H : Heap) (locs : List Loc) (ls : Array Slot), lv_has ls 5 [(0, .ref (ad x0)), (1, .int x1), (2, .int x2), (3, .int y3)] → aw_G D cA base ad σ d s H locs → W p l e rm_X11_speaks s m args below meth c H locs 0 0 (aw_Ev D cA base ad σ below args s z) (F0 m 39 ls [])) (hk39 : ∀ (d : Dt), k39 d = some z → ∀ (H : Heap) (locs : List Loc) (ls : Array Slot), lv_has ls 5 [] → aw_G D cA base ad σ d s H locs → W p l e rm_X11_speaks s m args below meth c H locs 0 0 (aw_Ev D cA base ad σ below args s z) (F0 m 163 ls [])) {H : Heap} {locs : List Loc} {ls : Array Slot} (hl : lv_has ls 5 [(0, .ref (ad x0)), (1, .int x1), (2, .int x2), (3, .int x3)]) (G : aw_G D cA base ad σ d s H locs) : W p l e rm_X11_speaks s m args below meth c H locs 0 0 (aw_Ev D cA base ad σ below args s z) (F0 m 39 ls []) := by
  have hx := X.1; have hb := X.2.1; have hml := X.2.2.1; have hown := X.2.2.2.1
  unfold f_X11_speaks_B39 at hf
  refine lv_iload_n hx hb dX11_speaks_39 rfl (lv_at hl 1 rfl) ?_
  refine lv_iconst (v := (-1 : Int32)) hx hb dX11_speaks_40 (by decide) ?_
  refine lv_icmp_eq (tgt := 163) hx hb dX11_speaks_41 (by decide) (fun hc => ?_) (fun hc => ?_)
  · have hf := aw_ite_t hc hf
    exact hk39 _ hf _ _ _ (lv_sub hl [] rfl) G
  · have hf := aw_ite_f hc hf
    refine lv_iload_n hx hb dX11_speaks_44 rfl (lv_at hl 3 rfl) ?_
    refine lv_bipush (v := (6 : Int32)) hx hb dX11_speaks_45 (by decide) ?_
    refine lv_iload_n hx hb dX11_speaks_47 rfl (lv_at hl 1 rfl) ?_
    refine lv_imul hx hb dX11_speaks_48 ?_
    refine lv_aload_n hx hb dX11_speaks_49 rfl (lv_at hl 0 rfl) ?_
    obtain ⟨hc_12, hf⟩ := aw_chk_some hf
    obtain ⟨q_13, hq_14, hf⟩ := aw_bind_some hf
    refine gf_X11_22 hx hb G hown hc_12 hq_14 dX11_speaks_50 ?_
    refine lv_iload_n hx hb dX11_speaks_53 rfl (lv_at hl 1 rfl) ?_
    obtain ⟨hc_15, hf⟩ := aw_chk_some hf
    refine aw_ial hx hb G hc_15 dX11_speaks_54 ?_
    refine lv_iadd hx hb dX11_speaks_55 ?_
    refine lv_icmp_ge (tgt := 163) hx hb dX11_speaks_56 (by decide) (fun hc => ?_) (fun hc => ?_)
    · have hf := aw_ite_t hc hf
      exact hk39 _ hf _ _ _ (lv_sub hl [] rfl) G
    · have hf := aw_ite_f hc hf
      refine lv_aload_n hx hb dX11_speaks_59 rfl (lv_at hl 0 rfl) ?_
      obtain ⟨q_16, hq_17, hf⟩ := aw_bind_some hf
      refine gf_X11_34 hx hb G hown hc_12 hq_17 dX11_speaks_60 ?_
      refine lv_iload_n hx hb dX11_speaks_63 rfl (lv_at hl 3 rfl) ?_
      obtain ⟨hc_18, hf⟩ := aw_chk_some hf
      refine aw_zal hx hb G hc_18 dX11_speaks_64 ?_
      refine lv_if_eq (tgt := 79) hx hb dX11_speaks_65 (by decide) (fun hc => ?_) (fun hc => ?_)
      · have hf := aw_ite_t hc hf
        refine lv_iconst (v := (0 : Int32)) hx hb dX11_speaks_79 (by decide) ?_
        exact w_X11_speaks_J80 X hf hkb39 (lv_sub hl [0, 1, 2, 3] rfl) G
      · have hf := aw_ite_f hc hf
        refine lv_aload_n hx hb dX11_speaks_68 rfl (lv_at hl 0 rfl) ?_
        obtain ⟨q_40, hq_41, hf⟩ := aw_bind_some hf
        refine gf_X11_13 hx hb G hown hc_12 hq_41 dX11_speaks_69 ?_
        refine lv_iload_n hx hb dX11_speaks_72 rfl (lv_at hl 2 rfl) ?_
        obtain ⟨hc_42, hf⟩ := aw_chk_some hf
        refine aw_ial hx hb G hc_42 dX11_speaks_73 ?_
        refine lv_iconst (v := (1 : Int32)) hx hb dX11_speaks_74 (by decide) ?_
        refine lv_isub hx hb dX11_speaks_75 ?_
        refine lv_goto (tgt := 80) hx hb dX11_speaks_76 (by decide) ?_
        exact w_X11_speaks_J80 X hf hkb39 (lv_sub hl [0, 1, 2, 3] rfl) G
theorem w_X11_speaks_L39 {z : Unit × Dt} (X : aw_X p c cX11_speaks 5 s RX11 m meth (none)) {k39 : Dt → Option (Unit × Dt)} {x0 : Nat} {x1 : Int32} {x2 : Int32} (n : Nat) {x3 : Int32} {d : Dt} (hf : f_X11_speaks_L39 σ n k39 x0 x1 x2 x3 d = some z) (hk39 : ∀ (d : Dt), k39 d = some z → ∀ (H : Heap) (locs : List Loc) (ls : Array Slot), lv_has ls 5 [] → aw_G D cA base ad σ d s H locs → W p l e rm_X11_speaks s m args below meth c H locs 0 0 (aw_Ev D cA base ad σ below args s z) (F0 m 163 ls [])) {H : Heap} {locs : List Loc} {ls : Array Slot} (hl : lv_has ls 5 [(0, .ref (ad x0)), (1, .int x1), (2, .int x2), (3, .int x3)]) (G : aw_G D cA base ad σ d s H locs) : W p l e rm_X11_speaks s m args below meth c H locs 0 0 (aw_Ev D cA base ad σ below args s z) (F0 m 39 ls []) := by
  induction n generalizing x3 d H locs ls with
  | zero => exact absurd (show (none : Option (Unit × Dt)) = some z from hf) (by simp)
  | succ n ih => exact w_X11_speaks_B39 X (kb39 := f_X11_speaks_L39 σ n k39 x0 x1 x2) hf  (fun x3 d hf H locs ls hl G => ih hf hl G) hk39 hl G
set_option maxHeartbeats 4000000 in
set_option maxRecDepth 100000 in
theorem w_X11_speaks_J163 {z : Unit × Dt} (X : aw_X p c cX11_speaks 5 s RX11 m meth (none))  {d : Dt} (hf : f_X11_speaks_J163 σ d = some z)  {H : Heap} {locs : List Loc} {ls : Array Slot} (hl : lv_has ls 5 []) (G : aw_G D cA base ad σ d s H locs) : W p l e rm_X11_speaks s m args below meth c H locs 0 0 (aw_Ev D cA base ad σ below args s z) (F0 m 163 ls []) := by
  have hx := X.1; have hb := X.2.1; have hml := X.2.2.1; have hown := X.2.2.2.1
  unfold f_X11_speaks_J163 at hf
  exact aw_retv X G hf dX11_speaks_163
end W_X11_speaks
set_option maxHeartbeats 4000000 in
set_option maxRecDepth 100000 in
theorem c_X11_speaks (l : Launch) {σ : Sg} {x0 : Nat} {x1 : Int32} {x2 : Int32} {d : Dt} {z : Unit × Dt} (hf : f_X11_speaks σ x0 x1 x2 d = some z) : aw_Mv l yX11_speaks (Cond.code yX11_speaks cX11_speaks 5 (none)) rm_X11_speaks (fun ad => [.ref (ad x0), .int x1, .int x2]) σ d z := by
  intro D cA base ad
  refine aw_ofW (own := RX11) (cc := cX11_speaks) (nL := 5) (ret := none) (by decide) rfl rfl ?_
  intro p e s m below meth c X hnm G
  have hx := X.1; have hb := X.2.1; have hml := X.2.2.1; have hown := X.2.2.2.1
  refine aw_ls (lv := [(0, .ref (ad x0)), (1, .int x1), (2, .int x2)]) (Nat.le_of_ble_eq_true rfl) rfl (fun ls hl => ?_)
  unfold f_X11_speaks at hf
  refine lv_iconst (v := (0 : Int32)) hx hb dX11_speaks_0 (by decide) ?_
  refine lv_istore_n (lv' := [(3, .int ((0 : Int32))), (0, .ref (ad x0)), (1, .int x1), (2, .int x2)]) hx hb dX11_speaks_1 rfl hl (by decide) rfl (fun ls hl => ?_)
  refine w_X11_speaks_L2 X aw_FU hf  (fun d_11 hf H locs ls hl G => ?_) (lv_sub hl [1, 2, 3, 0] rfl) G
  refine lv_bipush (v := (6 : Int32)) hx hb dX11_speaks_34 (by decide) ?_
  refine lv_iload_n hx hb dX11_speaks_36 rfl (lv_at hl 1 rfl) ?_
  refine lv_imul hx hb dX11_speaks_37 ?_
  refine lv_istore_n (lv' := [(3, .int (((6 : Int32)) * x1)), (0, .ref (ad x0)), (1, .int x1), (2, .int x2)]) hx hb dX11_speaks_38 rfl hl (by decide) rfl (fun ls hl => ?_)
  refine w_X11_speaks_L39 X aw_FU hf  (fun d_43 hf H locs ls hl G => ?_) (lv_sub hl [1, 2, 3, 0] rfl) G
  exact w_X11_speaks_J163 X hf  (lv_sub hl [] rfl) G
def rm_X11_spoken : Room := { frames := 2, cells := 0, slots := 0, locals := 45 }
def f_X11_spoken_J64 (σ : Sg) (t0 : Int32) (d : Dt) : Option (Int32 × Dt) :=
  some (t0, d)
def f_X11_spoken_J30 (σ : Sg) (t1 : Int32) (t0 : Nat) (x0 : Nat) (x1 : Int32) (x2 : Int32) (x3 : Int32) (d : Dt) : Option (Int32 × Dt) :=
  aw_chk (aw_O σ 11 32 t0) ((f_X11_fails σ t0 t1 d).bind (fun z_4 => if z_4.1 = 0 then aw_chk (aw_O σ 11 32 x0) ((f_X11_speaks σ x0 x1 x2 z_4.2).bind (fun z_7 => (σ.2.2 x0 3).bind (fun q_10 => aw_chk (aw_I σ 20 q_10 x2) (if (z_7.2.1 q_10 x2.toNatClampNeg) ≤ x3 then f_X11_spoken_J64 σ ((-1 : Int32)) z_7.2 else (σ.2.2 x0 23).bind (fun q_13 => aw_chk (aw_I σ 20 q_13 x3) (f_X11_spoken_J64 σ (z_7.2.1 q_13 x3.toNatClampNeg) z_7.2)))))) else some ((0 : Int32), z_4.2)))
def f_X11_spoken_J29 (σ : Sg) (t0 : Nat) (x0 : Nat) (x1 : Int32) (x2 : Int32) (x3 : Int32) (d : Dt) : Option (Int32 × Dt) :=
  f_X11_spoken_J30 σ ((1 : Int32)) t0 x0 x1 x2 x3 d
def f_X11_spoken_J13 (σ : Sg) (t0 : Nat) (x0 : Nat) (x1 : Int32) (x2 : Int32) (x3 : Int32) (d : Dt) : Option (Int32 × Dt) :=
  aw_chk (aw_O σ 11 32 x0) ((f_X11_isWord σ x0 x2 d).bind (fun z_1 => if z_1.1 = 0 then f_X11_spoken_J29 σ t0 x0 x1 x2 x3 z_1.2 else if x3 < 0 then f_X11_spoken_J29 σ t0 x0 x1 x2 x3 z_1.2 else f_X11_spoken_J30 σ ((0 : Int32)) t0 x0 x1 x2 x3 z_1.2))
def f_X11_spoken (σ : Sg) (x0 : Nat) (x1 : Int32) (x2 : Int32) (x3 : Int32) (d : Dt) : Option (Int32 × Dt) :=
  if x1 = ((-1 : Int32)) then f_X11_spoken_J13 σ x0 x0 x1 x2 x3 d else (f_X11_isDialect σ x1 d).bind (fun z_16 => if z_16.1 = 0 then f_X11_spoken_J29 σ x0 x0 x1 x2 x3 z_16.2 else f_X11_spoken_J13 σ x0 x0 x1 x2 x3 z_16.2)
section W_X11_spoken
variable {p : Program} {l : Launch} {e : Env} {s : State} {m : MethodId} {args : Array Value} {below : List Frame} {meth : Method} {c : Code}
variable {D : va_G} {cA : Nat → ClassId} {base : Nat} {ad : Nat → Nat} {σ : Sg}
set_option maxHeartbeats 4000000 in
set_option maxRecDepth 100000 in
theorem w_X11_spoken_J64 {z : Int32 × Dt} (X : aw_X p c cX11_spoken 4 s RX11 m meth (some .int)) {t0 : Int32} {d : Dt} (hf : f_X11_spoken_J64 σ t0 d = some z)  {H : Heap} {locs : List Loc} {ls : Array Slot} (hl : lv_has ls 4 []) (G : aw_G D cA base ad σ d s H locs) : W p l e rm_X11_spoken s m args below meth c H locs 0 0 (aw_Ei D cA base ad σ below args s z) (F0 m 64 ls [.int t0]) := by
  have hx := X.1; have hb := X.2.1; have hml := X.2.2.1; have hown := X.2.2.2.1
  unfold f_X11_spoken_J64 at hf
  exact aw_reti X G hf dX11_spoken_64
set_option maxHeartbeats 4000000 in
set_option maxRecDepth 100000 in
theorem w_X11_spoken_J30 {z : Int32 × Dt} (X : aw_X p c cX11_spoken 4 s RX11 m meth (some .int)) {t1 : Int32} {t0 : Nat} {x0 : Nat} {x1 : Int32} {x2 : Int32} {x3 : Int32} {d : Dt} (hf : f_X11_spoken_J30 σ t1 t0 x0 x1 x2 x3 d = some z)  {H : Heap} {locs : List Loc} {ls : Array Slot} (hl : lv_has ls 4 [(0, .ref (ad x0)), (1, .int x1), (2, .int x2), (3, .int x3)]) (G : aw_G D cA base ad σ d s H locs) : W p l e rm_X11_spoken s m args below meth c H locs 0 0 (aw_Ei D cA base ad σ below args s z) (F0 m 30 ls [.int t1, .ref (ad t0)]) := by
  have hx := X.1; have hb := X.2.1; have hml := X.2.2.1; have hown := X.2.2.2.1
  unfold f_X11_spoken_J30 at hf
  obtain ⟨hc_6, hf⟩ := aw_chk_some hf
  obtain ⟨z_4, hz_5, hf⟩ := aw_bind_some hf
  refine aw_VI (As := [.int t1]) (rest := []) X G hl.1 cr_X11_113 (c_X11_fails l hz_5) ⟨rfl, rfl⟩ rfl rfl rfl (by decide) hc_6 rfl ⟨Nat.le_of_ble_eq_true rfl, Nat.le_of_ble_eq_true rfl⟩ (Nat.le_of_ble_eq_true rfl) dX11_spoken_30 ⟨Nat.zero_le _, Nat.zero_le _⟩ (fun H locs G => ?_)
  refine lv_if_eq (tgt := 38) hx hb dX11_spoken_33 (by decide) (fun hc => ?_) (fun hc => ?_)
  · have hf := aw_ite_t hc hf
    refine lv_aload_n hx hb dX11_spoken_38 rfl (lv_at hl 0 rfl) ?_
    refine lv_iload_n hx hb dX11_spoken_39 rfl (lv_at hl 1 rfl) ?_
    refine lv_iload_n hx hb dX11_spoken_40 rfl (lv_at hl 2 rfl) ?_
    obtain ⟨hc_9, hf⟩ := aw_chk_some hf
    obtain ⟨z_7, hz_8, hf⟩ := aw_bind_some hf
    refine aw_VV (As := [.int x1, .int x2]) (rest := []) X G hl.1 cr_X11_135 (c_X11_speaks l hz_8) ⟨rfl, rfl⟩ rfl rfl rfl (by decide) hc_9 rfl ⟨Nat.le_of_ble_eq_true rfl, Nat.le_of_ble_eq_true rfl⟩ (Nat.le_of_ble_eq_true rfl) dX11_spoken_41 ⟨Nat.zero_le _, Nat.zero_le _⟩ (fun H locs G => ?_)
    refine lv_iload_n hx hb dX11_spoken_44 rfl (lv_at hl 3 rfl) ?_
    refine lv_aload_n hx hb dX11_spoken_45 rfl (lv_at hl 0 rfl) ?_
    obtain ⟨q_10, hq_11, hf⟩ := aw_bind_some hf
    refine gf_X11_13 hx hb G hown hc_9 hq_11 dX11_spoken_46 ?_
    refine lv_iload_n hx hb dX11_spoken_49 rfl (lv_at hl 2 rfl) ?_
    obtain ⟨hc_12, hf⟩ := aw_chk_some hf
    refine aw_ial hx hb G hc_12 dX11_spoken_50 ?_
    refine lv_icmp_ge (tgt := 63) hx hb dX11_spoken_51 (by decide) (fun hc => ?_) (fun hc => ?_)
    · have hf := aw_ite_t hc hf
      refine lv_iconst (v := (-1 : Int32)) hx hb dX11_spoken_63 (by decide) ?_
      exact w_X11_spoken_J64 X hf  (lv_sub hl [] rfl) G
    · have hf := aw_ite_f hc hf
      refine lv_aload_n hx hb dX11_spoken_54 rfl (lv_at hl 0 rfl) ?_
      obtain ⟨q_13, hq_14, hf⟩ := aw_bind_some hf
      refine gf_X11_71 hx hb G hown hc_9 hq_14 dX11_spoken_55 ?_
      refine lv_iload_n hx hb dX11_spoken_58 rfl (lv_at hl 3 rfl) ?_
      obtain ⟨hc_15, hf⟩ := aw_chk_some hf
      refine aw_ial hx hb G hc_15 dX11_spoken_59 ?_
      refine lv_goto (tgt := 64) hx hb dX11_spoken_60 (by decide) ?_
      exact w_X11_spoken_J64 X hf  (lv_sub hl [] rfl) G
  · have hf := aw_ite_f hc hf
    refine lv_iconst (v := (0 : Int32)) hx hb dX11_spoken_36 (by decide) ?_
    exact aw_reti X G hf dX11_spoken_37
set_option maxHeartbeats 4000000 in
set_option maxRecDepth 100000 in
theorem w_X11_spoken_J29 {z : Int32 × Dt} (X : aw_X p c cX11_spoken 4 s RX11 m meth (some .int)) {t0 : Nat} {x0 : Nat} {x1 : Int32} {x2 : Int32} {x3 : Int32} {d : Dt} (hf : f_X11_spoken_J29 σ t0 x0 x1 x2 x3 d = some z)  {H : Heap} {locs : List Loc} {ls : Array Slot} (hl : lv_has ls 4 [(0, .ref (ad x0)), (1, .int x1), (2, .int x2), (3, .int x3)]) (G : aw_G D cA base ad σ d s H locs) : W p l e rm_X11_spoken s m args below meth c H locs 0 0 (aw_Ei D cA base ad σ below args s z) (F0 m 29 ls [.ref (ad t0)]) := by
  have hx := X.1; have hb := X.2.1; have hml := X.2.2.1; have hown := X.2.2.2.1
  unfold f_X11_spoken_J29 at hf
  refine lv_iconst (v := (1 : Int32)) hx hb dX11_spoken_29 (by decide) ?_
  exact w_X11_spoken_J30 X hf  (lv_sub hl [0, 1, 2, 3] rfl) G
set_option maxHeartbeats 4000000 in
set_option maxRecDepth 100000 in
theorem w_X11_spoken_J13 {z : Int32 × Dt} (X : aw_X p c cX11_spoken 4 s RX11 m meth (some .int)) {t0 : Nat} {x0 : Nat} {x1 : Int32} {x2 : Int32} {x3 : Int32} {d : Dt} (hf : f_X11_spoken_J13 σ t0 x0 x1 x2 x3 d = some z)  {H : Heap} {locs : List Loc} {ls : Array Slot} (hl : lv_has ls 4 [(0, .ref (ad x0)), (1, .int x1), (2, .int x2), (3, .int x3)]) (G : aw_G D cA base ad σ d s H locs) : W p l e rm_X11_spoken s m args below meth c H locs 0 0 (aw_Ei D cA base ad σ below args s z) (F0 m 13 ls [.ref (ad t0)]) := by
  have hx := X.1; have hb := X.2.1; have hml := X.2.2.1; have hown := X.2.2.2.1
  unfold f_X11_spoken_J13 at hf
  refine lv_aload_n hx hb dX11_spoken_13 rfl (lv_at hl 0 rfl) ?_
  refine lv_iload_n hx hb dX11_spoken_14 rfl (lv_at hl 2 rfl) ?_
  obtain ⟨hc_3, hf⟩ := aw_chk_some hf
  obtain ⟨z_1, hz_2, hf⟩ := aw_bind_some hf
  refine aw_VI (As := [.int x2]) (rest := [.ref (ad t0)]) X G hl.1 cr_X11_132 (c_X11_isWord l hz_2) ⟨rfl, rfl⟩ rfl rfl rfl (by decide) hc_3 rfl ⟨Nat.le_of_ble_eq_true rfl, Nat.le_of_ble_eq_true rfl⟩ (Nat.le_of_ble_eq_true rfl) dX11_spoken_15 ⟨Nat.zero_le _, Nat.zero_le _⟩ (fun H locs G => ?_)
  refine lv_if_eq (tgt := 29) hx hb dX11_spoken_18 (by decide) (fun hc => ?_) (fun hc => ?_)
  · have hf := aw_ite_t hc hf
    exact w_X11_spoken_J29 X hf  (lv_sub hl [0, 1, 2, 3] rfl) G
  · have hf := aw_ite_f hc hf
    refine lv_iload_n hx hb dX11_spoken_21 rfl (lv_at hl 3 rfl) ?_
    refine lv_if_lt (tgt := 29) hx hb dX11_spoken_22 (by decide) (fun hc => ?_) (fun hc => ?_)
    · have hf := aw_ite_t hc hf
      exact w_X11_spoken_J29 X hf  (lv_sub hl [0, 1, 2, 3] rfl) G
    · have hf := aw_ite_f hc hf
      refine lv_iconst (v := (0 : Int32)) hx hb dX11_spoken_25 (by decide) ?_
      refine lv_goto (tgt := 30) hx hb dX11_spoken_26 (by decide) ?_
      exact w_X11_spoken_J30 X hf  (lv_sub hl [0, 1, 2, 3] rfl) G
end W_X11_spoken
set_option maxHeartbeats 4000000 in
set_option maxRecDepth 100000 in
theorem c_X11_spoken (l : Launch) {σ : Sg} {x0 : Nat} {x1 : Int32} {x2 : Int32} {x3 : Int32} {d : Dt} {z : Int32 × Dt} (hf : f_X11_spoken σ x0 x1 x2 x3 d = some z) : aw_Mi l yX11_spoken (Cond.code yX11_spoken cX11_spoken 4 (some .int)) rm_X11_spoken (fun ad => [.ref (ad x0), .int x1, .int x2, .int x3]) σ d z := by
  intro D cA base ad
  refine aw_ofW (own := RX11) (cc := cX11_spoken) (nL := 4) (ret := some .int) (by decide) rfl rfl ?_
  intro p e s m below meth c X hnm G
  have hx := X.1; have hb := X.2.1; have hml := X.2.2.1; have hown := X.2.2.2.1
  refine aw_ls (lv := [(0, .ref (ad x0)), (1, .int x1), (2, .int x2), (3, .int x3)]) (Nat.le_of_ble_eq_true rfl) rfl (fun ls hl => ?_)
  unfold f_X11_spoken at hf
  refine lv_aload_n hx hb dX11_spoken_0 rfl (lv_at hl 0 rfl) ?_
  refine lv_iload_n hx hb dX11_spoken_1 rfl (lv_at hl 1 rfl) ?_
  refine lv_iconst (v := (-1 : Int32)) hx hb dX11_spoken_2 (by decide) ?_
  refine lv_icmp_eq (tgt := 13) hx hb dX11_spoken_3 (by decide) (fun hc => ?_) (fun hc => ?_)
  · have hf := aw_ite_t hc hf
    exact w_X11_spoken_J13 X hf  (lv_sub hl [0, 1, 2, 3] rfl) G
  · have hf := aw_ite_f hc hf
    refine lv_iload_n hx hb dX11_spoken_6 rfl (lv_at hl 1 rfl) ?_
    obtain ⟨z_16, hz_17, hf⟩ := aw_bind_some hf
    refine aw_SI (As := [.int x1]) (rest := [.ref (ad x0)]) X G hl.1 cr_X11_117 (c_X11_isDialect l hz_17) ⟨rfl, rfl⟩ rfl rfl rfl ⟨Nat.le_of_ble_eq_true rfl, Nat.le_of_ble_eq_true rfl⟩ (Nat.le_of_ble_eq_true rfl) dX11_spoken_7 ⟨Nat.zero_le _, Nat.zero_le _⟩ (fun H locs G => ?_)
    refine lv_if_eq (tgt := 29) hx hb dX11_spoken_10 (by decide) (fun hc => ?_) (fun hc => ?_)
    · have hf := aw_ite_t hc hf
      exact w_X11_spoken_J29 X hf  (lv_sub hl [0, 1, 2, 3] rfl) G
    · have hf := aw_ite_f hc hf
      exact w_X11_spoken_J13 X hf  (lv_sub hl [0, 1, 2, 3] rfl) G
def rm_X11_design : Room := { frames := 1, cells := 0, slots := 0, locals := 22 }
def f_X11_design_B77 (σ : Sg) (kb77 : Int32 → Dt → Option (Int32 × Dt)) (k77 : Dt → Option (Int32 × Dt)) (x0 : Nat) (x4 : Int32) (d : Dt) : Option (Int32 × Dt) :=
  if ((47 : Int32)) ≤ x4 then k77 d else aw_chk (aw_O σ 11 32 x0) ((σ.2.2 x0 14).bind (fun q_15 => aw_chk (aw_I σ 20 q_15 ((((47 : Int32)) * (d.1 x0 11)) + x4)) (kb77 (x4 + 1) (aw_sI d q_15 ((((47 : Int32)) * (d.1 x0 11)) + x4).toNatClampNeg x4))))
def f_X11_design_L77 (σ : Sg) (n : Nat) (k77 : Dt → Option (Int32 × Dt)) (x0 : Nat) : Int32 → Dt → Option (Int32 × Dt) := match n with
  | 0 => fun _ _ => none
  | n + 1 => fun x4 d => f_X11_design_B77 σ (f_X11_design_L77 σ n k77 x0) k77 x0 x4 d
def f_X11_design_B110 (σ : Sg) (kb110 : Int32 → Dt → Option (Int32 × Dt)) (k110 : Dt → Option (Int32 × Dt)) (x0 : Nat) (x4 : Int32) (d : Dt) : Option (Int32 × Dt) :=
  if ((3 : Int32)) ≤ x4 then k110 d else aw_chk (aw_O σ 11 32 x0) ((σ.2.2 x0 15).bind (fun q_20 => aw_chk (aw_I σ 22 q_20 ((((3 : Int32)) * (d.1 x0 11)) + x4)) (kb110 (x4 + 1) (aw_sI d q_20 ((((3 : Int32)) * (d.1 x0 11)) + x4).toNatClampNeg (vp_nar .boolean ((1 : Int32)))))))
def f_X11_design_L110 (σ : Sg) (n : Nat) (k110 : Dt → Option (Int32 × Dt)) (x0 : Nat) : Int32 → Dt → Option (Int32 × Dt) := match n with
  | 0 => fun _ _ => none
  | n + 1 => fun x4 d => f_X11_design_B110 σ (f_X11_design_L110 σ n k110 x0) k110 x0 x4 d
def f_X11_design_B140 (σ : Sg) (kb140 : Int32 → Dt → Option (Int32 × Dt)) (k140 : Dt → Option (Int32 × Dt)) (x0 : Nat) (x4 : Int32) (d : Dt) : Option (Int32 × Dt) :=
  if ((50 : Int32)) ≤ x4 then k140 d else aw_chk (aw_O σ 11 32 x0) ((σ.2.2 x0 16).bind (fun q_25 => aw_chk (aw_I σ 20 q_25 ((((50 : Int32)) * (d.1 x0 11)) + x4)) (kb140 (x4 + 1) (aw_sI d q_25 ((((50 : Int32)) * (d.1 x0 11)) + x4).toNatClampNeg x4))))
def f_X11_design_L140 (σ : Sg) (n : Nat) (k140 : Dt → Option (Int32 × Dt)) (x0 : Nat) : Int32 → Dt → Option (Int32 × Dt) := match n with
  | 0 => fun _ _ => none
  | n + 1 => fun x4 d => f_X11_design_B140 σ (f_X11_design_L140 σ n k140 x0) k140 x0 x4 d
def f_X11_design_J46 (σ : Sg) (t1 : Int32) (t0 : Nat) (x0 : Nat) (x1 : Int32) (x2 : Int32) (d : Dt) : Option (Int32 × Dt) :=
  aw_chk (aw_O σ 11 32 t0) ((f_X11_fails σ t0 t1 d).bind (fun z_4 => if z_4.1 = 0 then aw_chk (aw_O σ 11 32 x0) ((σ.2.2 x0 12).bind (fun q_8 => aw_chk (aw_I σ 20 q_8 (z_4.2.1 x0 11)) ((σ.2.2 x0 13).bind (fun q_11 => aw_chk (aw_I σ 20 q_11 ((aw_sI z_4.2 q_8 (z_4.2.1 x0 11).toNatClampNeg x1).1 x0 11)) (f_X11_design_L77 σ aw_FU (fun d_18 => f_X11_design_L110 σ aw_FU (fun d_23 => f_X11_design_L140 σ aw_FU (fun d_28 => some (((aw_sI d_28 x0 11 ((d_28.1 x0 11) + ((1 : Int32)))).1 x0 11) - ((1 : Int32)), aw_sI d_28 x0 11 ((d_28.1 x0 11) + ((1 : Int32))))) x0 ((0 : Int32)) d_23) x0 ((0 : Int32)) d_18) x0 ((0 : Int32)) (aw_sI (aw_sI z_4.2 q_8 (z_4.2.1 x0 11).toNatClampNeg x1) q_11 ((aw_sI z_4.2 q_8 (z_4.2.1 x0 11).toNatClampNeg x1).1 x0 11).toNatClampNeg x2)))))) else some ((0 : Int32), z_4.2)))
def f_X11_design_J23 (σ : Sg) (t0 : Int32) (x0 : Nat) (x1 : Int32) (x2 : Int32) (d : Dt) : Option (Int32 × Dt) :=
  if t0 = 0 then f_X11_design_J46 σ ((1 : Int32)) x0 x0 x1 x2 d else aw_chk (aw_O σ 11 32 x0) (if (d.1 x0 11) = ((5 : Int32)) then f_X11_design_J46 σ ((2 : Int32)) x0 x0 x1 x2 d else f_X11_design_J46 σ ((0 : Int32)) x0 x0 x1 x2 d)
def f_X11_design_J22 (σ : Sg) (x0 : Nat) (x1 : Int32) (x2 : Int32) (d : Dt) : Option (Int32 × Dt) :=
  f_X11_design_J23 σ ((0 : Int32)) x0 x1 x2 d
def f_X11_design (σ : Sg) (x0 : Nat) (x1 : Int32) (x2 : Int32) (d : Dt) : Option (Int32 × Dt) :=
  (f_X11_isIn σ x1 ((0 : Int32)) ((1 : Int32)) d).bind (fun z_1 => if z_1.1 = 0 then f_X11_design_J22 σ x0 x1 x2 z_1.2 else (f_X11_isIn σ x2 ((-1 : Int32)) ((2 : Int32)) z_1.2).bind (fun z_29 => if z_29.1 = 0 then f_X11_design_J22 σ x0 x1 x2 z_29.2 else f_X11_design_J23 σ ((1 : Int32)) x0 x1 x2 z_29.2))
section W_X11_design
variable {p : Program} {l : Launch} {e : Env} {s : State} {m : MethodId} {args : Array Value} {below : List Frame} {meth : Method} {c : Code}
variable {D : va_G} {cA : Nat → ClassId} {base : Nat} {ad : Nat → Nat} {σ : Sg}
set_option maxHeartbeats 4000000 in
set_option maxRecDepth 100000 in
theorem w_X11_design_B77 {z : Int32 × Dt} (X : aw_X p c cX11_design 5 s RX11 m meth (some .int)) {kb77 : Int32 → Dt → Option (Int32 × Dt)} {k77 : Dt → Option (Int32 × Dt)} {x0 : Nat} {x4 : Int32} {d : Dt} (hf : f_X11_design_B77 σ kb77 k77 x0 x4 d = some z) (hkb77 : ∀ (y4 : Int32) (d : Dt), kb77 y4 d = some z → ∀ (H : Heap) (locs : List Loc) (ls : Array Slot), lv_has ls 5 [(0, .ref (ad x0)), (4, .int y4)] → aw_G D cA base ad σ d s H locs → W p l e rm_X11_design s m args below meth c H locs 0 0 (aw_Ei D cA base ad σ below args s z) (F0 m 77 ls [])) (hk77 : ∀ (d : Dt), k77 d = some z → ∀ (H : Heap) (locs : List Loc) (ls : Array Slot), lv_has ls 5 [(0, .ref (ad x0))] → aw_G D cA base ad σ d s H locs → W p l e rm_X11_design s m args below meth c H locs 0 0 (aw_Ei D cA base ad σ below args s z) (F0 m 107 ls [])) {H : Heap} {locs : List Loc} {ls : Array Slot} (hl : lv_has ls 5 [(0, .ref (ad x0)), (4, .int x4)]) (G : aw_G D cA base ad σ d s H locs) : W p l e rm_X11_design s m args below meth c H locs 0 0 (aw_Ei D cA base ad σ below args s z) (F0 m 77 ls []) := by
  have hx := X.1; have hb := X.2.1; have hml := X.2.2.1; have hown := X.2.2.2.1
  unfold f_X11_design_B77 at hf
  refine lv_iload hx hb dX11_design_77 (lv_at hl 1 rfl) ?_
  refine lv_bipush (v := (47 : Int32)) hx hb dX11_design_79 (by decide) ?_
  refine lv_icmp_ge (tgt := 107) hx hb dX11_design_81 (by decide) (fun hc => ?_) (fun hc => ?_)
  · have hf := aw_ite_t hc hf
    exact hk77 _ hf _ _ _ (lv_sub hl [0] rfl) G
  · have hf := aw_ite_f hc hf
    refine lv_aload_n hx hb dX11_design_84 rfl (lv_at hl 0 rfl) ?_
    obtain ⟨hc_14, hf⟩ := aw_chk_some hf
    obtain ⟨q_15, hq_16, hf⟩ := aw_bind_some hf
    refine gf_X11_44 hx hb G hown hc_14 hq_16 dX11_design_85 ?_
    refine lv_bipush (v := (47 : Int32)) hx hb dX11_design_88 (by decide) ?_
    refine lv_aload_n hx hb dX11_design_90 rfl (lv_at hl 0 rfl) ?_
    refine gf_X11_107 hx hb G hown hc_14 dX11_design_91 ?_
    refine lv_imul hx hb dX11_design_94 ?_
    refine lv_iload hx hb dX11_design_95 (lv_at hl 1 rfl) ?_
    refine lv_iadd hx hb dX11_design_97 ?_
    refine lv_iload hx hb dX11_design_98 (lv_at hl 1 rfl) ?_
    obtain ⟨hc_17, hf⟩ := aw_chk_some hf
    refine aw_ias hx hb G hc_17 dX11_design_100 (fun H locs G => ?_)
    refine lv_iinc (v := x4 + 1) (lv' := [(4, .int (x4 + 1)), (0, .ref (ad x0))]) hx hb dX11_design_101 hl (k := 1) rfl rfl (by decide) rfl (fun ls hl => ?_)
    refine lv_goto (tgt := 77) hx hb dX11_design_104 (by decide) ?_
    exact hkb77 _ _ hf _ _ _ (lv_sub hl [1, 0] rfl) G
theorem w_X11_design_L77 {z : Int32 × Dt} (X : aw_X p c cX11_design 5 s RX11 m meth (some .int)) {k77 : Dt → Option (Int32 × Dt)} {x0 : Nat} (n : Nat) {x4 : Int32} {d : Dt} (hf : f_X11_design_L77 σ n k77 x0 x4 d = some z) (hk77 : ∀ (d : Dt), k77 d = some z → ∀ (H : Heap) (locs : List Loc) (ls : Array Slot), lv_has ls 5 [(0, .ref (ad x0))] → aw_G D cA base ad σ d s H locs → W p l e rm_X11_design s m args below meth c H locs 0 0 (aw_Ei D cA base ad σ below args s z) (F0 m 107 ls [])) {H : Heap} {locs : List Loc} {ls : Array Slot} (hl : lv_has ls 5 [(0, .ref (ad x0)), (4, .int x4)]) (G : aw_G D cA base ad σ d s H locs) : W p l e rm_X11_design s m args below meth c H locs 0 0 (aw_Ei D cA base ad σ below args s z) (F0 m 77 ls []) := by
  induction n generalizing x4 d H locs ls with
  | zero => exact absurd (show (none : Option (Int32 × Dt)) = some z from hf) (by simp)
  | succ n ih => exact w_X11_design_B77 X (kb77 := f_X11_design_L77 σ n k77 x0) hf  (fun x4 d hf H locs ls hl G => ih hf hl G) hk77 hl G
set_option maxHeartbeats 4000000 in
set_option maxRecDepth 100000 in
theorem w_X11_design_B110 {z : Int32 × Dt} (X : aw_X p c cX11_design 5 s RX11 m meth (some .int)) {kb110 : Int32 → Dt → Option (Int32 × Dt)} {k110 : Dt → Option (Int32 × Dt)} {x0 : Nat} {x4 : Int32} {d : Dt} (hf : f_X11_design_B110 σ kb110 k110 x0 x4 d = some z) (hkb110 : ∀ (y4 : Int32) (d : Dt), kb110 y4 d = some z → ∀ (H : Heap) (locs : List Loc) (ls : Array Slot), lv_has ls 5 [(0, .ref (ad x0)), (4, .int y4)] → aw_G D cA base ad σ d s H locs → W p l e rm_X11_design s m args below meth c H locs 0 0 (aw_Ei D cA base ad σ below args s z) (F0 m 110 ls [])) (hk110 : ∀ (d : Dt), k110 d = some z → ∀ (H : Heap) (locs : List Loc) (ls : Array Slot), lv_has ls 5 [(0, .ref (ad x0))] → aw_G D cA base ad σ d s H locs → W p l e rm_X11_design s m args below meth c H locs 0 0 (aw_Ei D cA base ad σ below args s z) (F0 m 137 ls [])) {H : Heap} {locs : List Loc} {ls : Array Slot} (hl : lv_has ls 5 [(0, .ref (ad x0)), (4, .int x4)]) (G : aw_G D cA base ad σ d s H locs) : W p l e rm_X11_design s m args below meth c H locs 0 0 (aw_Ei D cA base ad σ below args s z) (F0 m 110 ls []) := by
  have hx := X.1; have hb := X.2.1; have hml := X.2.2.1; have hown := X.2.2.2.1
  unfold f_X11_design_B110 at hf
  refine lv_iload hx hb dX11_design_110 (lv_at hl 1 rfl) ?_
  refine lv_iconst (v := (3 : Int32)) hx hb dX11_design_112 (by decide) ?_
  refine lv_icmp_ge (tgt := 137) hx hb dX11_design_113 (by decide) (fun hc => ?_) (fun hc => ?_)
  · have hf := aw_ite_t hc hf
    exact hk110 _ hf _ _ _ (lv_sub hl [0] rfl) G
  · have hf := aw_ite_f hc hf
    refine lv_aload_n hx hb dX11_design_116 rfl (lv_at hl 0 rfl) ?_
    obtain ⟨hc_19, hf⟩ := aw_chk_some hf
    obtain ⟨q_20, hq_21, hf⟩ := aw_bind_some hf
    refine gf_X11_47 hx hb G hown hc_19 hq_21 dX11_design_117 ?_
    refine lv_iconst (v := (3 : Int32)) hx hb dX11_design_120 (by decide) ?_
    refine lv_aload_n hx hb dX11_design_121 rfl (lv_at hl 0 rfl) ?_
    refine gf_X11_107 hx hb G hown hc_19 dX11_design_122 ?_
    refine lv_imul hx hb dX11_design_125 ?_
    refine lv_iload hx hb dX11_design_126 (lv_at hl 1 rfl) ?_
    refine lv_iadd hx hb dX11_design_128 ?_
    refine lv_iconst (v := (1 : Int32)) hx hb dX11_design_129 (by decide) ?_
    obtain ⟨hc_22, hf⟩ := aw_chk_some hf
    refine aw_zas hx hb G hc_22 dX11_design_130 (fun H locs G => ?_)
    refine lv_iinc (v := x4 + 1) (lv' := [(4, .int (x4 + 1)), (0, .ref (ad x0))]) hx hb dX11_design_131 hl (k := 1) rfl rfl (by decide) rfl (fun ls hl => ?_)
    refine lv_goto (tgt := 110) hx hb dX11_design_134 (by decide) ?_
    exact hkb110 _ _ hf _ _ _ (lv_sub hl [1, 0] rfl) G
theorem w_X11_design_L110 {z : Int32 × Dt} (X : aw_X p c cX11_design 5 s RX11 m meth (some .int)) {k110 : Dt → Option (Int32 × Dt)} {x0 : Nat} (n : Nat) {x4 : Int32} {d : Dt} (hf : f_X11_design_L110 σ n k110 x0 x4 d = some z) (hk110 : ∀ (d : Dt), k110 d = some z → ∀ (H : Heap) (locs : List Loc) (ls : Array Slot), lv_has ls 5 [(0, .ref (ad x0))] → aw_G D cA base ad σ d s H locs → W p l e rm_X11_design s m args below meth c H locs 0 0 (aw_Ei D cA base ad σ below args s z) (F0 m 137 ls [])) {H : Heap} {locs : List Loc} {ls : Array Slot} (hl : lv_has ls 5 [(0, .ref (ad x0)), (4, .int x4)]) (G : aw_G D cA base ad σ d s H locs) : W p l e rm_X11_design s m args below meth c H locs 0 0 (aw_Ei D cA base ad σ below args s z) (F0 m 110 ls []) := by
  induction n generalizing x4 d H locs ls with
  | zero => exact absurd (show (none : Option (Int32 × Dt)) = some z from hf) (by simp)
  | succ n ih => exact w_X11_design_B110 X (kb110 := f_X11_design_L110 σ n k110 x0) hf  (fun x4 d hf H locs ls hl G => ih hf hl G) hk110 hl G
set_option maxHeartbeats 4000000 in
set_option maxRecDepth 100000 in
theorem w_X11_design_B140 {z : Int32 × Dt} (X : aw_X p c cX11_design 5 s RX11 m meth (some .int)) {kb140 : Int32 → Dt → Option (Int32 × Dt)} {k140 : Dt → Option (Int32 × Dt)} {x0 : Nat} {x4 : Int32} {d : Dt} (hf : f_X11_design_B140 σ kb140 k140 x0 x4 d = some z) (hkb140 : ∀ (y4 : Int32) (d : Dt), kb140 y4 d = some z → ∀ (H : Heap) (locs : List Loc) (ls : Array Slot), lv_has ls 5 [(0, .ref (ad x0)), (4, .int y4)] → aw_G D cA base ad σ d s H locs → W p l e rm_X11_design s m args below meth c H locs 0 0 (aw_Ei D cA base ad σ below args s z) (F0 m 140 ls [])) (hk140 : ∀ (d : Dt), k140 d = some z → ∀ (H : Heap) (locs : List Loc) (ls : Array Slot), lv_has ls 5 [(0, .ref (ad x0))] → aw_G D cA base ad σ d s H locs → W p l e rm_X11_design s m args below meth c H locs 0 0 (aw_Ei D cA base ad σ below args s z) (F0 m 170 ls [])) {H : Heap} {locs : List Loc} {ls : Array Slot} (hl : lv_has ls 5 [(0, .ref (ad x0)), (4, .int x4)]) (G : aw_G D cA base ad σ d s H locs) : W p l e rm_X11_design s m args below meth c H locs 0 0 (aw_Ei D cA base ad σ below args s z) (F0 m 140 ls []) := by
  have hx := X.1; have hb := X.2.1; have hml := X.2.2.1; have hown := X.2.2.2.1
  unfold f_X11_design_B140 at hf
  refine lv_iload hx hb dX11_design_140 (lv_at hl 1 rfl) ?_
  refine lv_bipush (v := (50 : Int32)) hx hb dX11_design_142 (by decide) ?_
  refine lv_icmp_ge (tgt := 170) hx hb dX11_design_144 (by decide) (fun hc => ?_) (fun hc => ?_)
  · have hf := aw_ite_t hc hf
    exact hk140 _ hf _ _ _ (lv_sub hl [0] rfl) G
  · have hf := aw_ite_f hc hf
    refine lv_aload_n hx hb dX11_design_147 rfl (lv_at hl 0 rfl) ?_
    obtain ⟨hc_24, hf⟩ := aw_chk_some hf
    obtain ⟨q_25, hq_26, hf⟩ := aw_bind_some hf
    refine gf_X11_50 hx hb G hown hc_24 hq_26 dX11_design_148 ?_
    refine lv_bipush (v := (50 : Int32)) hx hb dX11_design_151 (by decide) ?_
    refine lv_aload_n hx hb dX11_design_153 rfl (lv_at hl 0 rfl) ?_
    refine gf_X11_107 hx hb G hown hc_24 dX11_design_154 ?_
    refine lv_imul hx hb dX11_design_157 ?_
    refine lv_iload hx hb dX11_design_158 (lv_at hl 1 rfl) ?_
    refine lv_iadd hx hb dX11_design_160 ?_
    refine lv_iload hx hb dX11_design_161 (lv_at hl 1 rfl) ?_
    obtain ⟨hc_27, hf⟩ := aw_chk_some hf
    refine aw_ias hx hb G hc_27 dX11_design_163 (fun H locs G => ?_)
    refine lv_iinc (v := x4 + 1) (lv' := [(4, .int (x4 + 1)), (0, .ref (ad x0))]) hx hb dX11_design_164 hl (k := 1) rfl rfl (by decide) rfl (fun ls hl => ?_)
    refine lv_goto (tgt := 140) hx hb dX11_design_167 (by decide) ?_
    exact hkb140 _ _ hf _ _ _ (lv_sub hl [1, 0] rfl) G
theorem w_X11_design_L140 {z : Int32 × Dt} (X : aw_X p c cX11_design 5 s RX11 m meth (some .int)) {k140 : Dt → Option (Int32 × Dt)} {x0 : Nat} (n : Nat) {x4 : Int32} {d : Dt} (hf : f_X11_design_L140 σ n k140 x0 x4 d = some z) (hk140 : ∀ (d : Dt), k140 d = some z → ∀ (H : Heap) (locs : List Loc) (ls : Array Slot), lv_has ls 5 [(0, .ref (ad x0))] → aw_G D cA base ad σ d s H locs → W p l e rm_X11_design s m args below meth c H locs 0 0 (aw_Ei D cA base ad σ below args s z) (F0 m 170 ls [])) {H : Heap} {locs : List Loc} {ls : Array Slot} (hl : lv_has ls 5 [(0, .ref (ad x0)), (4, .int x4)]) (G : aw_G D cA base ad σ d s H locs) : W p l e rm_X11_design s m args below meth c H locs 0 0 (aw_Ei D cA base ad σ below args s z) (F0 m 140 ls []) := by
  induction n generalizing x4 d H locs ls with
  | zero => exact absurd (show (none : Option (Int32 × Dt)) = some z from hf) (by simp)
  | succ n ih => exact w_X11_design_B140 X (kb140 := f_X11_design_L140 σ n k140 x0) hf  (fun x4 d hf H locs ls hl G => ih hf hl G) hk140 hl G
set_option maxHeartbeats 4000000 in
set_option maxRecDepth 100000 in
theorem w_X11_design_J46 {z : Int32 × Dt} (X : aw_X p c cX11_design 5 s RX11 m meth (some .int)) {t1 : Int32} {t0 : Nat} {x0 : Nat} {x1 : Int32} {x2 : Int32} {d : Dt} (hf : f_X11_design_J46 σ t1 t0 x0 x1 x2 d = some z)  {H : Heap} {locs : List Loc} {ls : Array Slot} (hl : lv_has ls 5 [(0, .ref (ad x0)), (1, .int x1), (2, .int x2)]) (G : aw_G D cA base ad σ d s H locs) : W p l e rm_X11_design s m args below meth c H locs 0 0 (aw_Ei D cA base ad σ below args s z) (F0 m 46 ls [.int t1, .ref (ad t0)]) := by
  have hx := X.1; have hb := X.2.1; have hml := X.2.2.1; have hown := X.2.2.2.1
  unfold f_X11_design_J46 at hf
  obtain ⟨hc_6, hf⟩ := aw_chk_some hf
  obtain ⟨z_4, hz_5, hf⟩ := aw_bind_some hf
  refine aw_VI (As := [.int t1]) (rest := []) X G hl.1 cr_X11_113 (c_X11_fails l hz_5) ⟨rfl, rfl⟩ rfl rfl rfl (by decide) hc_6 rfl ⟨Nat.le_of_ble_eq_true rfl, Nat.le_of_ble_eq_true rfl⟩ (Nat.le_of_ble_eq_true rfl) dX11_design_46 ⟨Nat.zero_le _, Nat.zero_le _⟩ (fun H locs G => ?_)
  refine lv_if_eq (tgt := 54) hx hb dX11_design_49 (by decide) (fun hc => ?_) (fun hc => ?_)
  · have hf := aw_ite_t hc hf
    refine lv_aload_n hx hb dX11_design_54 rfl (lv_at hl 0 rfl) ?_
    obtain ⟨hc_7, hf⟩ := aw_chk_some hf
    obtain ⟨q_8, hq_9, hf⟩ := aw_bind_some hf
    refine gf_X11_38 hx hb G hown hc_7 hq_9 dX11_design_55 ?_
    refine lv_aload_n hx hb dX11_design_58 rfl (lv_at hl 0 rfl) ?_
    refine gf_X11_107 hx hb G hown hc_7 dX11_design_59 ?_
    refine lv_iload_n hx hb dX11_design_62 rfl (lv_at hl 1 rfl) ?_
    obtain ⟨hc_10, hf⟩ := aw_chk_some hf
    refine aw_ias hx hb G hc_10 dX11_design_63 (fun H locs G => ?_)
    refine lv_aload_n hx hb dX11_design_64 rfl (lv_at hl 0 rfl) ?_
    obtain ⟨q_11, hq_12, hf⟩ := aw_bind_some hf
    refine gf_X11_41 hx hb G hown hc_7 hq_12 dX11_design_65 ?_
    refine lv_aload_n hx hb dX11_design_68 rfl (lv_at hl 0 rfl) ?_
    refine gf_X11_107 hx hb G hown hc_7 dX11_design_69 ?_
    refine lv_iload_n hx hb dX11_design_72 rfl (lv_at hl 2 rfl) ?_
    obtain ⟨hc_13, hf⟩ := aw_chk_some hf
    refine aw_ias hx hb G hc_13 dX11_design_73 (fun H locs G => ?_)
    refine lv_iconst (v := (0 : Int32)) hx hb dX11_design_74 (by decide) ?_
    refine lv_istore (lv' := [(4, .int ((0 : Int32))), (0, .ref (ad x0)), (1, .int x1), (2, .int x2)]) hx hb dX11_design_75 hl (by decide) rfl (fun ls hl => ?_)
    refine w_X11_design_L77 X aw_FU hf  (fun d_18 hf H locs ls hl G => ?_) (lv_sub hl [1, 0] rfl) G
    refine lv_iconst (v := (0 : Int32)) hx hb dX11_design_107 (by decide) ?_
    refine lv_istore (lv' := [(4, .int ((0 : Int32))), (0, .ref (ad x0))]) hx hb dX11_design_108 hl (by decide) rfl (fun ls hl => ?_)
    refine w_X11_design_L110 X aw_FU hf  (fun d_23 hf H locs ls hl G => ?_) (lv_sub hl [1, 0] rfl) G
    refine lv_iconst (v := (0 : Int32)) hx hb dX11_design_137 (by decide) ?_
    refine lv_istore (lv' := [(4, .int ((0 : Int32))), (0, .ref (ad x0))]) hx hb dX11_design_138 hl (by decide) rfl (fun ls hl => ?_)
    refine w_X11_design_L140 X aw_FU hf  (fun d_28 hf H locs ls hl G => ?_) (lv_sub hl [1, 0] rfl) G
    refine lv_aload_n hx hb dX11_design_170 rfl (lv_at hl 0 rfl) ?_
    refine lv_dup hx hb dX11_design_171 rfl ?_
    refine gf_X11_107 hx hb G hown hc_7 dX11_design_172 ?_
    refine lv_iconst (v := (1 : Int32)) hx hb dX11_design_175 (by decide) ?_
    refine lv_iadd hx hb dX11_design_176 ?_
    refine pf_X11_107 hx hb G hown hc_7 dX11_design_177 (fun H locs G => ?_)
    refine lv_aload_n hx hb dX11_design_180 rfl (lv_at hl 0 rfl) ?_
    refine gf_X11_107 hx hb G hown hc_7 dX11_design_181 ?_
    refine lv_iconst (v := (1 : Int32)) hx hb dX11_design_184 (by decide) ?_
    refine lv_isub hx hb dX11_design_185 ?_
    exact aw_reti X G hf dX11_design_186
  · have hf := aw_ite_f hc hf
    refine lv_iconst (v := (0 : Int32)) hx hb dX11_design_52 (by decide) ?_
    exact aw_reti X G hf dX11_design_53
set_option maxHeartbeats 4000000 in
set_option maxRecDepth 100000 in
theorem w_X11_design_J23 {z : Int32 × Dt} (X : aw_X p c cX11_design 5 s RX11 m meth (some .int)) {t0 : Int32} {x0 : Nat} {x1 : Int32} {x2 : Int32} {d : Dt} (hf : f_X11_design_J23 σ t0 x0 x1 x2 d = some z)  {H : Heap} {locs : List Loc} {ls : Array Slot} (hl : lv_has ls 5 [(0, .ref (ad x0)), (1, .int x1), (2, .int x2)]) (G : aw_G D cA base ad σ d s H locs) : W p l e rm_X11_design s m args below meth c H locs 0 0 (aw_Ei D cA base ad σ below args s z) (F0 m 23 ls [.int t0]) := by
  have hx := X.1; have hb := X.2.1; have hml := X.2.2.1; have hown := X.2.2.2.1
  unfold f_X11_design_J23 at hf
  refine lv_istore_n (lv' := [(3, .int t0), (0, .ref (ad x0)), (1, .int x1), (2, .int x2)]) hx hb dX11_design_23 rfl hl (by decide) rfl (fun ls hl => ?_)
  refine lv_aload_n hx hb dX11_design_24 rfl (lv_at hl 1 rfl) ?_
  refine lv_iload_n hx hb dX11_design_25 rfl (lv_at hl 0 rfl) ?_
  refine lv_if_ne (tgt := 33) hx hb dX11_design_26 (by decide) (fun hc => ?_) (fun hc => ?_)
  · have hf := aw_ite_f hc hf
    refine lv_aload_n hx hb dX11_design_33 rfl (lv_at hl 1 rfl) ?_
    obtain ⟨hc_3, hf⟩ := aw_chk_some hf
    refine gf_X11_107 hx hb G hown hc_3 dX11_design_34 ?_
    refine lv_iconst (v := (5 : Int32)) hx hb dX11_design_37 (by decide) ?_
    refine lv_icmp_ne (tgt := 45) hx hb dX11_design_38 (by decide) (fun hc => ?_) (fun hc => ?_)
    · have hf := aw_ite_f hc hf
      refine lv_iconst (v := (0 : Int32)) hx hb dX11_design_45 (by decide) ?_
      exact w_X11_design_J46 X hf  (lv_sub hl [1, 2, 3] rfl) G
    · have hf := aw_ite_t hc hf
      refine lv_iconst (v := (2 : Int32)) hx hb dX11_design_41 (by decide) ?_
      refine lv_goto (tgt := 46) hx hb dX11_design_42 (by decide) ?_
      exact w_X11_design_J46 X hf  (lv_sub hl [1, 2, 3] rfl) G
  · have hf := aw_ite_t hc hf
    refine lv_iconst (v := (1 : Int32)) hx hb dX11_design_29 (by decide) ?_
    refine lv_goto (tgt := 46) hx hb dX11_design_30 (by decide) ?_
    exact w_X11_design_J46 X hf  (lv_sub hl [1, 2, 3] rfl) G
set_option maxHeartbeats 4000000 in
set_option maxRecDepth 100000 in
theorem w_X11_design_J22 {z : Int32 × Dt} (X : aw_X p c cX11_design 5 s RX11 m meth (some .int)) {x0 : Nat} {x1 : Int32} {x2 : Int32} {d : Dt} (hf : f_X11_design_J22 σ x0 x1 x2 d = some z)  {H : Heap} {locs : List Loc} {ls : Array Slot} (hl : lv_has ls 5 [(0, .ref (ad x0)), (1, .int x1), (2, .int x2)]) (G : aw_G D cA base ad σ d s H locs) : W p l e rm_X11_design s m args below meth c H locs 0 0 (aw_Ei D cA base ad σ below args s z) (F0 m 22 ls []) := by
  have hx := X.1; have hb := X.2.1; have hml := X.2.2.1; have hown := X.2.2.2.1
  unfold f_X11_design_J22 at hf
  refine lv_iconst (v := (0 : Int32)) hx hb dX11_design_22 (by decide) ?_
  exact w_X11_design_J23 X hf  (lv_sub hl [0, 1, 2] rfl) G
end W_X11_design
set_option maxHeartbeats 4000000 in
set_option maxRecDepth 100000 in
theorem c_X11_design (l : Launch) {σ : Sg} {x0 : Nat} {x1 : Int32} {x2 : Int32} {d : Dt} {z : Int32 × Dt} (hf : f_X11_design σ x0 x1 x2 d = some z) : aw_Mi l yX11_design (Cond.code yX11_design cX11_design 5 (some .int)) rm_X11_design (fun ad => [.ref (ad x0), .int x1, .int x2]) σ d z := by
  intro D cA base ad
  refine aw_ofW (own := RX11) (cc := cX11_design) (nL := 5) (ret := some .int) (by decide) rfl rfl ?_
  intro p e s m below meth c X hnm G
  have hx := X.1; have hb := X.2.1; have hml := X.2.2.1; have hown := X.2.2.2.1
  refine aw_ls (lv := [(0, .ref (ad x0)), (1, .int x1), (2, .int x2)]) (Nat.le_of_ble_eq_true rfl) rfl (fun ls hl => ?_)
  unfold f_X11_design at hf
  refine lv_iload_n hx hb dX11_design_0 rfl (lv_at hl 1 rfl) ?_
  refine lv_iconst (v := (0 : Int32)) hx hb dX11_design_1 (by decide) ?_
  refine lv_iconst (v := (1 : Int32)) hx hb dX11_design_2 (by decide) ?_
  obtain ⟨z_1, hz_2, hf⟩ := aw_bind_some hf
  refine aw_SI (As := [.int x1, .int ((0 : Int32)), .int ((1 : Int32))]) (rest := []) X G hl.1 cr_X11_103 (c_X11_isIn l hz_2) ⟨rfl, rfl⟩ rfl rfl rfl ⟨Nat.le_of_ble_eq_true rfl, Nat.le_of_ble_eq_true rfl⟩ (Nat.le_of_ble_eq_true rfl) dX11_design_3 ⟨Nat.zero_le _, Nat.zero_le _⟩ (fun H locs G => ?_)
  refine lv_if_eq (tgt := 22) hx hb dX11_design_6 (by decide) (fun hc => ?_) (fun hc => ?_)
  · have hf := aw_ite_t hc hf
    exact w_X11_design_J22 X hf  (lv_sub hl [0, 1, 2] rfl) G
  · have hf := aw_ite_f hc hf
    refine lv_iload_n hx hb dX11_design_9 rfl (lv_at hl 2 rfl) ?_
    refine lv_iconst (v := (-1 : Int32)) hx hb dX11_design_10 (by decide) ?_
    refine lv_iconst (v := (2 : Int32)) hx hb dX11_design_11 (by decide) ?_
    obtain ⟨z_29, hz_30, hf⟩ := aw_bind_some hf
    refine aw_SI (As := [.int x2, .int ((-1 : Int32)), .int ((2 : Int32))]) (rest := []) X G hl.1 cr_X11_103 (c_X11_isIn l hz_30) ⟨rfl, rfl⟩ rfl rfl rfl ⟨Nat.le_of_ble_eq_true rfl, Nat.le_of_ble_eq_true rfl⟩ (Nat.le_of_ble_eq_true rfl) dX11_design_12 ⟨Nat.zero_le _, Nat.zero_le _⟩ (fun H locs G => ?_)
    refine lv_if_eq (tgt := 22) hx hb dX11_design_15 (by decide) (fun hc => ?_) (fun hc => ?_)
    · have hf := aw_ite_t hc hf
      exact w_X11_design_J22 X hf  (lv_sub hl [0, 1, 2] rfl) G
    · have hf := aw_ite_f hc hf
      refine lv_iconst (v := (1 : Int32)) hx hb dX11_design_18 (by decide) ?_
      refine lv_goto (tgt := 23) hx hb dX11_design_19 (by decide) ?_
      exact w_X11_design_J23 X hf  (lv_sub hl [0, 1, 2] rfl) G
def rm_X11_isUnit : Room := { frames := 1, cells := 0, slots := 0, locals := 22 }
def f_X11_isUnit_J40 (σ : Sg) (t0 : Int32) (d : Dt) : Option (Int32 × Dt) :=
  aw_chk (t0 &&& 1 = t0) (some (t0, d))
def f_X11_isUnit_J35 (σ : Sg)  (d : Dt) : Option (Int32 × Dt) :=
  f_X11_isUnit_J40 σ ((1 : Int32)) d
def f_X11_isUnit_J18 (σ : Sg) (t2 : Int32) (t1 : Int32) (t0 : Int32) (x2 : Int32) (d : Dt) : Option (Int32 × Dt) :=
  (f_X11_isIn σ t0 t1 t2 d).bind (fun z_5 => if z_5.1 = 0 then (f_X11_isIn σ x2 ((44 : Int32)) ((46 : Int32)) z_5.2).bind (fun z_8 => if z_8.1 = 0 then f_X11_isUnit_J40 σ ((0 : Int32)) z_8.2 else f_X11_isUnit_J35 σ z_8.2) else f_X11_isUnit_J35 σ z_5.2)
def f_X11_isUnit (σ : Sg) (x0 : Nat) (x1 : Int32) (x2 : Int32) (d : Dt) : Option (Int32 × Dt) :=
  aw_chk (aw_O σ 11 32 x0) ((σ.2.2 x0 12).bind (fun q_2 => aw_chk (aw_I σ 20 q_2 x1) (if (d.1 q_2 x1.toNatClampNeg) = 0 then f_X11_isUnit_J18 σ ((11 : Int32)) ((0 : Int32)) x2 x2 d else f_X11_isUnit_J18 σ ((43 : Int32)) ((0 : Int32)) x2 x2 d)))
section W_X11_isUnit
variable {p : Program} {l : Launch} {e : Env} {s : State} {m : MethodId} {args : Array Value} {below : List Frame} {meth : Method} {c : Code}
variable {D : va_G} {cA : Nat → ClassId} {base : Nat} {ad : Nat → Nat} {σ : Sg}
set_option maxHeartbeats 4000000 in
set_option maxRecDepth 100000 in
theorem w_X11_isUnit_J40 {z : Int32 × Dt} (X : aw_X p c cX11_isUnit 3 s RX11 m meth (some .boolean)) {t0 : Int32} {d : Dt} (hf : f_X11_isUnit_J40 σ t0 d = some z)  {H : Heap} {locs : List Loc} {ls : Array Slot} (hl : lv_has ls 3 []) (G : aw_G D cA base ad σ d s H locs) : W p l e rm_X11_isUnit s m args below meth c H locs 0 0 (aw_Ei D cA base ad σ below args s z) (F0 m 40 ls [.int t0]) := by
  have hx := X.1; have hb := X.2.1; have hml := X.2.2.1; have hown := X.2.2.2.1
  unfold f_X11_isUnit_J40 at hf
  obtain ⟨hc_7, hf⟩ := aw_chk_some hf
  exact aw_retz X G hc_7 hf dX11_isUnit_40
set_option maxHeartbeats 4000000 in
set_option maxRecDepth 100000 in
theorem w_X11_isUnit_J35 {z : Int32 × Dt} (X : aw_X p c cX11_isUnit 3 s RX11 m meth (some .boolean))  {d : Dt} (hf : f_X11_isUnit_J35 σ d = some z)  {H : Heap} {locs : List Loc} {ls : Array Slot} (hl : lv_has ls 3 []) (G : aw_G D cA base ad σ d s H locs) : W p l e rm_X11_isUnit s m args below meth c H locs 0 0 (aw_Ei D cA base ad σ below args s z) (F0 m 35 ls []) := by
  have hx := X.1; have hb := X.2.1; have hml := X.2.2.1; have hown := X.2.2.2.1
  unfold f_X11_isUnit_J35 at hf
  refine lv_iconst (v := (1 : Int32)) hx hb dX11_isUnit_35 (by decide) ?_
  refine lv_goto (tgt := 40) hx hb dX11_isUnit_36 (by decide) ?_
  exact w_X11_isUnit_J40 X hf  (lv_sub hl [] rfl) G
set_option maxHeartbeats 4000000 in
set_option maxRecDepth 100000 in
theorem w_X11_isUnit_J18 {z : Int32 × Dt} (X : aw_X p c cX11_isUnit 3 s RX11 m meth (some .boolean)) {t2 : Int32} {t1 : Int32} {t0 : Int32} {x2 : Int32} {d : Dt} (hf : f_X11_isUnit_J18 σ t2 t1 t0 x2 d = some z)  {H : Heap} {locs : List Loc} {ls : Array Slot} (hl : lv_has ls 3 [(2, .int x2)]) (G : aw_G D cA base ad σ d s H locs) : W p l e rm_X11_isUnit s m args below meth c H locs 0 0 (aw_Ei D cA base ad σ below args s z) (F0 m 18 ls [.int t2, .int t1, .int t0]) := by
  have hx := X.1; have hb := X.2.1; have hml := X.2.2.1; have hown := X.2.2.2.1
  unfold f_X11_isUnit_J18 at hf
  obtain ⟨z_5, hz_6, hf⟩ := aw_bind_some hf
  refine aw_SI (As := [.int t0, .int t1, .int t2]) (rest := []) X G hl.1 cr_X11_103 (c_X11_isIn l hz_6) ⟨rfl, rfl⟩ rfl rfl rfl ⟨Nat.le_of_ble_eq_true rfl, Nat.le_of_ble_eq_true rfl⟩ (Nat.le_of_ble_eq_true rfl) dX11_isUnit_18 ⟨Nat.zero_le _, Nat.zero_le _⟩ (fun H locs G => ?_)
  refine lv_if_ne (tgt := 35) hx hb dX11_isUnit_21 (by decide) (fun hc => ?_) (fun hc => ?_)
  · have hf := aw_ite_f hc hf
    exact w_X11_isUnit_J35 X hf  (lv_sub hl [] rfl) G
  · have hf := aw_ite_t hc hf
    refine lv_iload_n hx hb dX11_isUnit_24 rfl (lv_at hl 0 rfl) ?_
    refine lv_bipush (v := (44 : Int32)) hx hb dX11_isUnit_25 (by decide) ?_
    refine lv_bipush (v := (46 : Int32)) hx hb dX11_isUnit_27 (by decide) ?_
    obtain ⟨z_8, hz_9, hf⟩ := aw_bind_some hf
    refine aw_SI (As := [.int x2, .int ((44 : Int32)), .int ((46 : Int32))]) (rest := []) X G hl.1 cr_X11_103 (c_X11_isIn l hz_9) ⟨rfl, rfl⟩ rfl rfl rfl ⟨Nat.le_of_ble_eq_true rfl, Nat.le_of_ble_eq_true rfl⟩ (Nat.le_of_ble_eq_true rfl) dX11_isUnit_29 ⟨Nat.zero_le _, Nat.zero_le _⟩ (fun H locs G => ?_)
    refine lv_if_eq (tgt := 39) hx hb dX11_isUnit_32 (by decide) (fun hc => ?_) (fun hc => ?_)
    · have hf := aw_ite_t hc hf
      refine lv_iconst (v := (0 : Int32)) hx hb dX11_isUnit_39 (by decide) ?_
      exact w_X11_isUnit_J40 X hf  (lv_sub hl [] rfl) G
    · have hf := aw_ite_f hc hf
      exact w_X11_isUnit_J35 X hf  (lv_sub hl [] rfl) G
end W_X11_isUnit
set_option maxHeartbeats 4000000 in
set_option maxRecDepth 100000 in
theorem c_X11_isUnit (l : Launch) {σ : Sg} {x0 : Nat} {x1 : Int32} {x2 : Int32} {d : Dt} {z : Int32 × Dt} (hf : f_X11_isUnit σ x0 x1 x2 d = some z) : aw_Mi l yX11_isUnit (Cond.code yX11_isUnit cX11_isUnit 3 (some .boolean)) rm_X11_isUnit (fun ad => [.ref (ad x0), .int x1, .int x2]) σ d z := by
  intro D cA base ad
  refine aw_ofW (own := RX11) (cc := cX11_isUnit) (nL := 3) (ret := some .boolean) (by decide) rfl rfl ?_
  intro p e s m below meth c X hnm G
  have hx := X.1; have hb := X.2.1; have hml := X.2.2.1; have hown := X.2.2.2.1
  refine aw_ls (lv := [(0, .ref (ad x0)), (1, .int x1), (2, .int x2)]) (Nat.le_of_ble_eq_true rfl) rfl (fun ls hl => ?_)
  unfold f_X11_isUnit at hf
  refine lv_iload_n hx hb dX11_isUnit_0 rfl (lv_at hl 2 rfl) ?_
  refine lv_iconst (v := (0 : Int32)) hx hb dX11_isUnit_1 (by decide) ?_
  refine lv_aload_n hx hb dX11_isUnit_2 rfl (lv_at hl 0 rfl) ?_
  obtain ⟨hc_1, hf⟩ := aw_chk_some hf
  obtain ⟨q_2, hq_3, hf⟩ := aw_bind_some hf
  refine gf_X11_38 hx hb G hown hc_1 hq_3 dX11_isUnit_3 ?_
  refine lv_iload_n hx hb dX11_isUnit_6 rfl (lv_at hl 1 rfl) ?_
  obtain ⟨hc_4, hf⟩ := aw_chk_some hf
  refine aw_ial hx hb G hc_4 dX11_isUnit_7 ?_
  refine lv_if_ne (tgt := 16) hx hb dX11_isUnit_8 (by decide) (fun hc => ?_) (fun hc => ?_)
  · have hf := aw_ite_f hc hf
    refine lv_bipush (v := (43 : Int32)) hx hb dX11_isUnit_16 (by decide) ?_
    exact w_X11_isUnit_J18 X hf  (lv_sub hl [2] rfl) G
  · have hf := aw_ite_t hc hf
    refine lv_bipush (v := (11 : Int32)) hx hb dX11_isUnit_11 (by decide) ?_
    refine lv_goto (tgt := 18) hx hb dX11_isUnit_13 (by decide) ?_
    exact w_X11_isUnit_J18 X hf  (lv_sub hl [2] rfl) G
def rm_X11_units : Room := { frames := 2, cells := 0, slots := 0, locals := 44 }
def f_X11_units_J46 (σ : Sg) (kb6 : Int32 → Int32 → Dt → Option (Int32 × Dt)) (t1 : Int32) (t0 : Int32) (x0 : Nat) (x1 : Int32) (x3 : Int32) (x4 : Int32) (x6 : Int32) (d : Dt) : Option (Int32 × Dt) :=
  kb6 (t0 + t1) (x6 + 1) d
def f_X11_units_J45 (σ : Sg) (kb6 : Int32 → Int32 → Dt → Option (Int32 × Dt)) (t0 : Int32) (x0 : Nat) (x1 : Int32) (x3 : Int32) (x4 : Int32) (x6 : Int32) (d : Dt) : Option (Int32 × Dt) :=
  f_X11_units_J46 σ kb6 ((0 : Int32)) t0 x0 x1 x3 x4 x6 d
def f_X11_units_B6 (σ : Sg) (kb6 : Int32 → Int32 → Dt → Option (Int32 × Dt)) (k6 : Int32 → Dt → Option (Int32 × Dt)) (x0 : Nat) (x1 : Int32) (x3 : Int32) (x4 : Int32) (x5 : Int32) (x6 : Int32) (d : Dt) : Option (Int32 × Dt) :=
  if x3 < x6 then k6 x5 d else aw_chk (aw_O σ 11 32 x0) ((f_X11_isUnit σ x0 x1 x6 d).bind (fun z_1 => if z_1.1 = 0 then f_X11_units_J45 σ kb6 x5 x0 x1 x3 x4 x6 z_1.2 else (σ.2.2 x0 14).bind (fun q_4 => aw_chk (aw_I σ 20 q_4 ((((47 : Int32)) * x1) + x6)) (if (z_1.2.1 q_4 ((((47 : Int32)) * x1) + x6).toNatClampNeg) = x4 then f_X11_units_J46 σ kb6 ((1 : Int32)) x5 x0 x1 x3 x4 x6 z_1.2 else f_X11_units_J45 σ kb6 x5 x0 x1 x3 x4 x6 z_1.2))))
def f_X11_units_L6 (σ : Sg) (n : Nat) (k6 : Int32 → Dt → Option (Int32 × Dt)) (x0 : Nat) (x1 : Int32) (x3 : Int32) (x4 : Int32) : Int32 → Int32 → Dt → Option (Int32 × Dt) := match n with
  | 0 => fun _ _ _ => none
  | n + 1 => fun x5 x6 d => f_X11_units_B6 σ (f_X11_units_L6 σ n k6 x0 x1 x3 x4) k6 x0 x1 x3 x4 x5 x6 d
def f_X11_units (σ : Sg) (x0 : Nat) (x1 : Int32) (x2 : Int32) (x3 : Int32) (x4 : Int32) (d : Dt) : Option (Int32 × Dt) :=
  f_X11_units_L6 σ aw_FU (fun x5_7 d_8 => some (x5_7, d_8)) x0 x1 x3 x4 ((0 : Int32)) x2 d
section W_X11_units
variable {p : Program} {l : Launch} {e : Env} {s : State} {m : MethodId} {args : Array Value} {below : List Frame} {meth : Method} {c : Code}
variable {D : va_G} {cA : Nat → ClassId} {base : Nat} {ad : Nat → Nat} {σ : Sg}
set_option maxHeartbeats 4000000 in
set_option maxRecDepth 100000 in
theorem w_X11_units_J46 {z : Int32 × Dt} (X : aw_X p c cX11_units 7 s RX11 m meth (some .int)) {kb6 : Int32 → Int32 → Dt → Option (Int32 × Dt)} {t1 : Int32} {t0 : Int32} {x0 : Nat} {x1 : Int32} {x3 : Int32} {x4 : Int32} {x6 : Int32} {d : Dt} (hf : f_X11_units_J46 σ kb6 t1 t0 x0 x1 x3 x4 x6 d = some z) (hkb6 : ∀ (y5 : Int32) (y6 : Int32) (d : Dt), kb6 y5 y6 d = some z → ∀ (H : Heap) (locs : List Loc) (ls : Array Slot), lv_has ls 7 [(0, .ref (ad x0)), (1, .int x1), (3, .int x3), (4, .int x4), (5, .int y5), (6, .int y6)] → aw_G D cA base ad σ d s H locs → W p l e rm_X11_units s m args below meth c H locs 0 0 (aw_Ei D cA base ad σ below args s z) (F0 m 6 ls [])) {H : Heap} {locs : List Loc} {ls : Array Slot} (hl : lv_has ls 7 [(0, .ref (ad x0)), (1, .int x1), (3, .int x3), (4, .int x4), (6, .int x6)]) (G : aw_G D cA base ad σ d s H locs) : W p l e rm_X11_units s m args below meth c H locs 0 0 (aw_Ei D cA base ad σ below args s z) (F0 m 46 ls [.int t1, .int t0]) := by
  have hx := X.1; have hb := X.2.1; have hml := X.2.2.1; have hown := X.2.2.2.1
  unfold f_X11_units_J46 at hf
  refine lv_iadd hx hb dX11_units_46 ?_
  refine lv_istore (lv' := [(5, .int (t0 + t1)), (0, .ref (ad x0)), (1, .int x1), (3, .int x3), (4, .int x4), (6, .int x6)]) hx hb dX11_units_47 hl (by decide) rfl (fun ls hl => ?_)
  refine lv_iinc (v := x6 + 1) (lv' := [(6, .int (x6 + 1)), (5, .int (t0 + t1)), (0, .ref (ad x0)), (1, .int x1), (3, .int x3), (4, .int x4)]) hx hb dX11_units_49 hl (k := 5) rfl rfl (by decide) rfl (fun ls hl => ?_)
  refine lv_goto (tgt := 6) hx hb dX11_units_52 (by decide) ?_
  exact hkb6 _ _ _ hf _ _ _ (lv_sub hl [2, 3, 4, 5, 1, 0] rfl) G
set_option maxHeartbeats 4000000 in
set_option maxRecDepth 100000 in
theorem w_X11_units_J45 {z : Int32 × Dt} (X : aw_X p c cX11_units 7 s RX11 m meth (some .int)) {kb6 : Int32 → Int32 → Dt → Option (Int32 × Dt)} {t0 : Int32} {x0 : Nat} {x1 : Int32} {x3 : Int32} {x4 : Int32} {x6 : Int32} {d : Dt} (hf : f_X11_units_J45 σ kb6 t0 x0 x1 x3 x4 x6 d = some z) (hkb6 : ∀ (y5 : Int32) (y6 : Int32) (d : Dt), kb6 y5 y6 d = some z → ∀ (H : Heap) (locs : List Loc) (ls : Array Slot), lv_has ls 7 [(0, .ref (ad x0)), (1, .int x1), (3, .int x3), (4, .int x4), (5, .int y5), (6, .int y6)] → aw_G D cA base ad σ d s H locs → W p l e rm_X11_units s m args below meth c H locs 0 0 (aw_Ei D cA base ad σ below args s z) (F0 m 6 ls [])) {H : Heap} {locs : List Loc} {ls : Array Slot} (hl : lv_has ls 7 [(0, .ref (ad x0)), (1, .int x1), (3, .int x3), (4, .int x4), (6, .int x6)]) (G : aw_G D cA base ad σ d s H locs) : W p l e rm_X11_units s m args below meth c H locs 0 0 (aw_Ei D cA base ad σ below args s z) (F0 m 45 ls [.int t0]) := by
  have hx := X.1; have hb := X.2.1; have hml := X.2.2.1; have hown := X.2.2.2.1
  unfold f_X11_units_J45 at hf
  refine lv_iconst (v := (0 : Int32)) hx hb dX11_units_45 (by decide) ?_
  exact w_X11_units_J46 X hf hkb6 (lv_sub hl [0, 1, 2, 3, 4] rfl) G
set_option maxHeartbeats 4000000 in
set_option maxRecDepth 100000 in
theorem w_X11_units_B6 {z : Int32 × Dt} (X : aw_X p c cX11_units 7 s RX11 m meth (some .int)) {kb6 : Int32 → Int32 → Dt → Option (Int32 × Dt)} {k6 : Int32 → Dt → Option (Int32 × Dt)} {x0 : Nat} {x1 : Int32} {x3 : Int32} {x4 : Int32} {x5 : Int32} {x6 : Int32} {d : Dt} (hf : f_X11_units_B6 σ kb6 k6 x0 x1 x3 x4 x5 x6 d = some z) (hkb6 : ∀ (y5 : Int32) (y6 : Int32) (d : Dt), kb6 y5 y6 d = some z → ∀ (H : Heap) (locs : List Loc) (ls : Array Slot), lv_has ls 7 [(0, .ref (ad x0)), (1, .int x1), (3, .int x3), (4, .int x4), (5, .int y5), (6, .int y6)] → aw_G D cA base ad σ d s H locs → W p l e rm_X11_units s m args below meth c H locs 0 0 (aw_Ei D cA base ad σ below args s z) (F0 m 6 ls [])) (hk6 : ∀ (y5 : Int32) (d : Dt), k6 y5 d = some z → ∀ (H : Heap) (locs : List Loc) (ls : Array Slot), lv_has ls 7 [(5, .int y5)] → aw_G D cA base ad σ d s H locs → W p l e rm_X11_units s m args below meth c H locs 0 0 (aw_Ei D cA base ad σ below args s z) (F0 m 55 ls [])) {H : Heap} {locs : List Loc} {ls : Array Slot} (hl : lv_has ls 7 [(0, .ref (ad x0)), (1, .int x1), (3, .int x3), (4, .int x4), (5, .int x5), (6, .int x6)]) (G : aw_G D cA base ad σ d s H locs) : W p l e rm_X11_units s m args below meth c H locs 0 0 (aw_Ei D cA base ad σ below args s z) (F0 m 6 ls []) := by
  have hx := X.1; have hb := X.2.1; have hml := X.2.2.1; have hown := X.2.2.2.1
  unfold f_X11_units_B6 at hf
  refine lv_iload hx hb dX11_units_6 (lv_at hl 5 rfl) ?_
  refine lv_iload_n hx hb dX11_units_8 rfl (lv_at hl 2 rfl) ?_
  refine lv_icmp_gt (tgt := 55) hx hb dX11_units_9 (by decide) (fun hc => ?_) (fun hc => ?_)
  · have hf := aw_ite_t hc hf
    exact hk6 _ _ hf _ _ _ (lv_sub hl [4] rfl) G
  · have hf := aw_ite_f hc hf
    refine lv_iload hx hb dX11_units_12 (lv_at hl 4 rfl) ?_
    refine lv_aload_n hx hb dX11_units_14 rfl (lv_at hl 0 rfl) ?_
    refine lv_iload_n hx hb dX11_units_15 rfl (lv_at hl 1 rfl) ?_
    refine lv_iload hx hb dX11_units_16 (lv_at hl 5 rfl) ?_
    obtain ⟨hc_3, hf⟩ := aw_chk_some hf
    obtain ⟨z_1, hz_2, hf⟩ := aw_bind_some hf
    refine aw_VI (As := [.int x1, .int x6]) (rest := [.int x5]) X G hl.1 cr_X11_139 (c_X11_isUnit l hz_2) ⟨rfl, rfl⟩ rfl rfl rfl (by decide) hc_3 rfl ⟨Nat.le_of_ble_eq_true rfl, Nat.le_of_ble_eq_true rfl⟩ (Nat.le_of_ble_eq_true rfl) dX11_units_18 ⟨Nat.zero_le _, Nat.zero_le _⟩ (fun H locs G => ?_)
    refine lv_if_eq (tgt := 45) hx hb dX11_units_21 (by decide) (fun hc => ?_) (fun hc => ?_)
    · have hf := aw_ite_t hc hf
      exact w_X11_units_J45 X hf hkb6 (lv_sub hl [0, 1, 2, 3, 5] rfl) G
    · have hf := aw_ite_f hc hf
      refine lv_aload_n hx hb dX11_units_24 rfl (lv_at hl 0 rfl) ?_
      obtain ⟨q_4, hq_5, hf⟩ := aw_bind_some hf
      refine gf_X11_44 hx hb G hown hc_3 hq_5 dX11_units_25 ?_
      refine lv_bipush (v := (47 : Int32)) hx hb dX11_units_28 (by decide) ?_
      refine lv_iload_n hx hb dX11_units_30 rfl (lv_at hl 1 rfl) ?_
      refine lv_imul hx hb dX11_units_31 ?_
      refine lv_iload hx hb dX11_units_32 (lv_at hl 5 rfl) ?_
      refine lv_iadd hx hb dX11_units_34 ?_
      obtain ⟨hc_6, hf⟩ := aw_chk_some hf
      refine aw_ial hx hb G hc_6 dX11_units_35 ?_
      refine lv_iload hx hb dX11_units_36 (lv_at hl 3 rfl) ?_
      refine lv_icmp_ne (tgt := 45) hx hb dX11_units_38 (by decide) (fun hc => ?_) (fun hc => ?_)
      · have hf := aw_ite_f hc hf
        exact w_X11_units_J45 X hf hkb6 (lv_sub hl [0, 1, 2, 3, 5] rfl) G
      · have hf := aw_ite_t hc hf
        refine lv_iconst (v := (1 : Int32)) hx hb dX11_units_41 (by decide) ?_
        refine lv_goto (tgt := 46) hx hb dX11_units_42 (by decide) ?_
        exact w_X11_units_J46 X hf hkb6 (lv_sub hl [0, 1, 2, 3, 5] rfl) G
theorem w_X11_units_L6 {z : Int32 × Dt} (X : aw_X p c cX11_units 7 s RX11 m meth (some .int)) {k6 : Int32 → Dt → Option (Int32 × Dt)} {x0 : Nat} {x1 : Int32} {x3 : Int32} {x4 : Int32} (n : Nat) {x5 : Int32} {x6 : Int32} {d : Dt} (hf : f_X11_units_L6 σ n k6 x0 x1 x3 x4 x5 x6 d = some z) (hk6 : ∀ (y5 : Int32) (d : Dt), k6 y5 d = some z → ∀ (H : Heap) (locs : List Loc) (ls : Array Slot), lv_has ls 7 [(5, .int y5)] → aw_G D cA base ad σ d s H locs → W p l e rm_X11_units s m args below meth c H locs 0 0 (aw_Ei D cA base ad σ below args s z) (F0 m 55 ls [])) {H : Heap} {locs : List Loc} {ls : Array Slot} (hl : lv_has ls 7 [(0, .ref (ad x0)), (1, .int x1), (3, .int x3), (4, .int x4), (5, .int x5), (6, .int x6)]) (G : aw_G D cA base ad σ d s H locs) : W p l e rm_X11_units s m args below meth c H locs 0 0 (aw_Ei D cA base ad σ below args s z) (F0 m 6 ls []) := by
  induction n generalizing x5 x6 d H locs ls with
  | zero => exact absurd (show (none : Option (Int32 × Dt)) = some z from hf) (by simp)
  | succ n ih => exact w_X11_units_B6 X (kb6 := f_X11_units_L6 σ n k6 x0 x1 x3 x4) hf  (fun x5 x6 d hf H locs ls hl G => ih hf hl G) hk6 hl G
end W_X11_units
set_option maxHeartbeats 4000000 in
set_option maxRecDepth 100000 in
theorem c_X11_units (l : Launch) {σ : Sg} {x0 : Nat} {x1 : Int32} {x2 : Int32} {x3 : Int32} {x4 : Int32} {d : Dt} {z : Int32 × Dt} (hf : f_X11_units σ x0 x1 x2 x3 x4 d = some z) : aw_Mi l yX11_units (Cond.code yX11_units cX11_units 7 (some .int)) rm_X11_units (fun ad => [.ref (ad x0), .int x1, .int x2, .int x3, .int x4]) σ d z := by
  intro D cA base ad
  refine aw_ofW (own := RX11) (cc := cX11_units) (nL := 7) (ret := some .int) (by decide) rfl rfl ?_
  intro p e s m below meth c X hnm G
  have hx := X.1; have hb := X.2.1; have hml := X.2.2.1; have hown := X.2.2.2.1
  refine aw_ls (lv := [(0, .ref (ad x0)), (1, .int x1), (2, .int x2), (3, .int x3), (4, .int x4)]) (Nat.le_of_ble_eq_true rfl) rfl (fun ls hl => ?_)
  unfold f_X11_units at hf
  refine lv_iconst (v := (0 : Int32)) hx hb dX11_units_0 (by decide) ?_
  refine lv_istore (lv' := [(5, .int ((0 : Int32))), (0, .ref (ad x0)), (1, .int x1), (2, .int x2), (3, .int x3), (4, .int x4)]) hx hb dX11_units_1 hl (by decide) rfl (fun ls hl => ?_)
  refine lv_iload_n hx hb dX11_units_3 rfl (lv_at hl 3 rfl) ?_
  refine lv_istore (lv' := [(6, .int x2), (5, .int ((0 : Int32))), (0, .ref (ad x0)), (1, .int x1), (2, .int x2), (3, .int x3), (4, .int x4)]) hx hb dX11_units_4 hl (by decide) rfl (fun ls hl => ?_)
  refine w_X11_units_L6 X aw_FU hf  (fun x5_7 d_8 hf H locs ls hl G => ?_) (lv_sub hl [2, 3, 5, 6, 1, 0] rfl) G
  refine lv_iload hx hb dX11_units_55 (lv_at hl 0 rfl) ?_
  exact aw_reti X G hf dX11_units_57
def rm_X11_isOf : Room := { frames := 3, cells := 0, slots := 0, locals := 70 }
def f_X11_isOf_J17 (σ : Sg) (t0 : Int32) (d : Dt) : Option (Int32 × Dt) :=
  aw_chk (t0 &&& 1 = t0) (some (t0, d))
def f_X11_isOf (σ : Sg) (x0 : Nat) (x1 : Int32) (x2 : Int32) (d : Dt) : Option (Int32 × Dt) :=
  aw_chk (aw_O σ 11 32 x0) ((f_X11_units σ x0 x1 ((0 : Int32)) ((46 : Int32)) x2 d).bind (fun z_1 => if z_1.1 ≤ 0 then f_X11_isOf_J17 σ ((0 : Int32)) z_1.2 else f_X11_isOf_J17 σ ((1 : Int32)) z_1.2))
section W_X11_isOf
variable {p : Program} {l : Launch} {e : Env} {s : State} {m : MethodId} {args : Array Value} {below : List Frame} {meth : Method} {c : Code}
variable {D : va_G} {cA : Nat → ClassId} {base : Nat} {ad : Nat → Nat} {σ : Sg}
set_option maxHeartbeats 4000000 in
set_option maxRecDepth 100000 in
theorem w_X11_isOf_J17 {z : Int32 × Dt} (X : aw_X p c cX11_isOf 3 s RX11 m meth (some .boolean)) {t0 : Int32} {d : Dt} (hf : f_X11_isOf_J17 σ t0 d = some z)  {H : Heap} {locs : List Loc} {ls : Array Slot} (hl : lv_has ls 3 []) (G : aw_G D cA base ad σ d s H locs) : W p l e rm_X11_isOf s m args below meth c H locs 0 0 (aw_Ei D cA base ad σ below args s z) (F0 m 17 ls [.int t0]) := by
  have hx := X.1; have hb := X.2.1; have hml := X.2.2.1; have hown := X.2.2.2.1
  unfold f_X11_isOf_J17 at hf
  obtain ⟨hc_4, hf⟩ := aw_chk_some hf
  exact aw_retz X G hc_4 hf dX11_isOf_17
end W_X11_isOf
set_option maxHeartbeats 4000000 in
set_option maxRecDepth 100000 in
theorem c_X11_isOf (l : Launch) {σ : Sg} {x0 : Nat} {x1 : Int32} {x2 : Int32} {d : Dt} {z : Int32 × Dt} (hf : f_X11_isOf σ x0 x1 x2 d = some z) : aw_Mi l yX11_isOf (Cond.code yX11_isOf cX11_isOf 3 (some .boolean)) rm_X11_isOf (fun ad => [.ref (ad x0), .int x1, .int x2]) σ d z := by
  intro D cA base ad
  refine aw_ofW (own := RX11) (cc := cX11_isOf) (nL := 3) (ret := some .boolean) (by decide) rfl rfl ?_
  intro p e s m below meth c X hnm G
  have hx := X.1; have hb := X.2.1; have hml := X.2.2.1; have hown := X.2.2.2.1
  refine aw_ls (lv := [(0, .ref (ad x0)), (1, .int x1), (2, .int x2)]) (Nat.le_of_ble_eq_true rfl) rfl (fun ls hl => ?_)
  unfold f_X11_isOf at hf
  refine lv_aload_n hx hb dX11_isOf_0 rfl (lv_at hl 0 rfl) ?_
  refine lv_iload_n hx hb dX11_isOf_1 rfl (lv_at hl 1 rfl) ?_
  refine lv_iconst (v := (0 : Int32)) hx hb dX11_isOf_2 (by decide) ?_
  refine lv_bipush (v := (46 : Int32)) hx hb dX11_isOf_3 (by decide) ?_
  refine lv_iload_n hx hb dX11_isOf_5 rfl (lv_at hl 2 rfl) ?_
  obtain ⟨hc_3, hf⟩ := aw_chk_some hf
  obtain ⟨z_1, hz_2, hf⟩ := aw_bind_some hf
  refine aw_VI (As := [.int x1, .int ((0 : Int32)), .int ((46 : Int32)), .int x2]) (rest := []) X G hl.1 cr_X11_142 (c_X11_units l hz_2) ⟨rfl, rfl⟩ rfl rfl rfl (by decide) hc_3 rfl ⟨Nat.le_of_ble_eq_true rfl, Nat.le_of_ble_eq_true rfl⟩ (Nat.le_of_ble_eq_true rfl) dX11_isOf_6 ⟨Nat.zero_le _, Nat.zero_le _⟩ (fun H locs G => ?_)
  refine lv_if_le (tgt := 16) hx hb dX11_isOf_9 (by decide) (fun hc => ?_) (fun hc => ?_)
  · have hf := aw_ite_t hc hf
    refine lv_iconst (v := (0 : Int32)) hx hb dX11_isOf_16 (by decide) ?_
    exact w_X11_isOf_J17 X hf  (lv_sub hl [] rfl) G
  · have hf := aw_ite_f hc hf
    refine lv_iconst (v := (1 : Int32)) hx hb dX11_isOf_12 (by decide) ?_
    refine lv_goto (tgt := 17) hx hb dX11_isOf_13 (by decide) ?_
    exact w_X11_isOf_J17 X hf  (lv_sub hl [] rfl) G
def rm_X11_assign : Room := { frames := 3, cells := 0, slots := 0, locals := 70 }
def f_X11_assign_J124 (σ : Sg) (t1 : Int32) (t0 : Nat) (x0 : Nat) (x1 : Int32) (x2 : Int32) (x3 : Int32) (x6 : Int32) (d : Dt) : Option (Int32 × Dt) :=
  aw_chk (aw_O σ 11 32 t0) ((f_X11_fails σ t0 t1 d).bind (fun z_6 => if z_6.1 = 0 then aw_chk (aw_O σ 11 32 x0) ((σ.2.2 x0 14).bind (fun q_10 => aw_chk (aw_I σ 20 q_10 ((((47 : Int32)) * x1) + x2)) (some (x6, aw_sI z_6.2 q_10 ((((47 : Int32)) * x1) + x2).toNatClampNeg x3)))) else some ((0 : Int32), z_6.2)))
def f_X11_assign_J123 (σ : Sg) (t0 : Nat) (x0 : Nat) (x1 : Int32) (x2 : Int32) (x3 : Int32) (x6 : Int32) (d : Dt) : Option (Int32 × Dt) :=
  f_X11_assign_J124 σ ((0 : Int32)) t0 x0 x1 x2 x3 x6 d
def f_X11_assign_J86 (σ : Sg) (t0 : Int32) (x0 : Nat) (x1 : Int32) (x2 : Int32) (x3 : Int32) (x4 : Int32) (x5 : Int32) (x6 : Int32) (d : Dt) : Option (Int32 × Dt) :=
  if x5 = 0 then f_X11_assign_J124 σ ((1 : Int32)) x0 x0 x1 x2 x3 x6 d else (f_X11_isSign σ x3 d).bind (fun z_4 => if z_4.1 = 0 then f_X11_assign_J124 σ ((2 : Int32)) x0 x0 x1 x2 x3 x6 z_4.2 else if t0 = 0 then f_X11_assign_J123 σ x0 x0 x1 x2 x3 x6 z_4.2 else if x4 = 0 then f_X11_assign_J124 σ ((3 : Int32)) x0 x0 x1 x2 x3 x6 z_4.2 else f_X11_assign_J123 σ x0 x0 x1 x2 x3 x6 z_4.2)
def f_X11_assign_J85 (σ : Sg) (x0 : Nat) (x1 : Int32) (x2 : Int32) (x3 : Int32) (x4 : Int32) (x5 : Int32) (x6 : Int32) (d : Dt) : Option (Int32 × Dt) :=
  f_X11_assign_J86 σ ((0 : Int32)) x0 x1 x2 x3 x4 x5 x6 d
def f_X11_assign_J78 (σ : Sg) (t1 : Int32) (t0 : Int32) (x0 : Nat) (x1 : Int32) (x2 : Int32) (x3 : Int32) (x4 : Int32) (x5 : Int32) (x6 : Int32) (d : Dt) : Option (Int32 × Dt) :=
  if t0 ≤ t1 then f_X11_assign_J85 σ x0 x1 x2 x3 x4 x5 x6 d else f_X11_assign_J86 σ ((1 : Int32)) x0 x1 x2 x3 x4 x5 x6 d
def f_X11_assign_J44 (σ : Sg) (t0 : Int32) (x0 : Nat) (x1 : Int32) (x2 : Int32) (x3 : Int32) (x4 : Int32) (x5 : Int32) (d : Dt) : Option (Int32 × Dt) :=
  if x5 = 0 then f_X11_assign_J85 σ x0 x1 x2 x3 x4 x5 t0 d else (f_X11_isSign σ x3 d).bind (fun z_13 => if z_13.1 = 0 then f_X11_assign_J85 σ x0 x1 x2 x3 x4 x5 t0 z_13.2 else aw_chk (aw_O σ 11 32 x0) ((f_X11_units σ x0 x1 ((0 : Int32)) ((46 : Int32)) x3 z_13.2).bind (fun z_15 => if t0 = x3 then f_X11_assign_J78 σ ((1 : Int32)) z_15.1 x0 x1 x2 x3 x4 x5 t0 z_15.2 else f_X11_assign_J78 σ ((0 : Int32)) z_15.1 x0 x1 x2 x3 x4 x5 t0 z_15.2)))
def f_X11_assign_J22 (σ : Sg) (t0 : Int32) (x0 : Nat) (x1 : Int32) (x2 : Int32) (x3 : Int32) (x4 : Int32) (d : Dt) : Option (Int32 × Dt) :=
  if t0 = 0 then f_X11_assign_J44 σ ((0 : Int32)) x0 x1 x2 x3 x4 t0 d else aw_chk (aw_O σ 11 32 x0) ((σ.2.2 x0 14).bind (fun q_19 => aw_chk (aw_I σ 20 q_19 ((((47 : Int32)) * x1) + x2)) (f_X11_assign_J44 σ (d.1 q_19 ((((47 : Int32)) * x1) + x2).toNatClampNeg) x0 x1 x2 x3 x4 t0 d)))
def f_X11_assign_J21 (σ : Sg) (x0 : Nat) (x1 : Int32) (x2 : Int32) (x3 : Int32) (x4 : Int32) (d : Dt) : Option (Int32 × Dt) :=
  f_X11_assign_J22 σ ((0 : Int32)) x0 x1 x2 x3 x4 d
def f_X11_assign (σ : Sg) (x0 : Nat) (x1 : Int32) (x2 : Int32) (x3 : Int32) (x4 : Int32) (d : Dt) : Option (Int32 × Dt) :=
  aw_chk (aw_O σ 11 32 x0) ((f_X11_isDesign σ x0 x1 d).bind (fun z_1 => if z_1.1 = 0 then f_X11_assign_J21 σ x0 x1 x2 x3 x4 z_1.2 else (f_X11_isUnit σ x0 x1 x2 z_1.2).bind (fun z_22 => if z_22.1 = 0 then f_X11_assign_J21 σ x0 x1 x2 x3 x4 z_22.2 else f_X11_assign_J22 σ ((1 : Int32)) x0 x1 x2 x3 x4 z_22.2)))
section W_X11_assign
variable {p : Program} {l : Launch} {e : Env} {s : State} {m : MethodId} {args : Array Value} {below : List Frame} {meth : Method} {c : Code}
variable {D : va_G} {cA : Nat → ClassId} {base : Nat} {ad : Nat → Nat} {σ : Sg}
set_option maxHeartbeats 4000000 in
set_option maxRecDepth 100000 in
theorem w_X11_assign_J124 {z : Int32 × Dt} (X : aw_X p c cX11_assign 8 s RX11 m meth (some .int)) {t1 : Int32} {t0 : Nat} {x0 : Nat} {x1 : Int32} {x2 : Int32} {x3 : Int32} {x6 : Int32} {d : Dt} (hf : f_X11_assign_J124 σ t1 t0 x0 x1 x2 x3 x6 d = some z)  {H : Heap} {locs : List Loc} {ls : Array Slot} (hl : lv_has ls 8 [(0, .ref (ad x0)), (1, .int x1), (2, .int x2), (3, .int x3), (6, .int x6)]) (G : aw_G D cA base ad σ d s H locs) : W p l e rm_X11_assign s m args below meth c H locs 0 0 (aw_Ei D cA base ad σ below args s z) (F0 m 124 ls [.int t1, .ref (ad t0)]) := by
  have hx := X.1; have hb := X.2.1; have hml := X.2.2.1; have hown := X.2.2.2.1
  unfold f_X11_assign_J124 at hf
  obtain ⟨hc_8, hf⟩ := aw_chk_some hf
  obtain ⟨z_6, hz_7, hf⟩ := aw_bind_some hf
  refine aw_VI (As := [.int t1]) (rest := []) X G hl.1 cr_X11_113 (c_X11_fails l hz_7) ⟨rfl, rfl⟩ rfl rfl rfl (by decide) hc_8 rfl ⟨Nat.le_of_ble_eq_true rfl, Nat.le_of_ble_eq_true rfl⟩ (Nat.le_of_ble_eq_true rfl) dX11_assign_124 ⟨Nat.zero_le _, Nat.zero_le _⟩ (fun H locs G => ?_)
  refine lv_if_eq (tgt := 132) hx hb dX11_assign_127 (by decide) (fun hc => ?_) (fun hc => ?_)
  · have hf := aw_ite_t hc hf
    refine lv_aload_n hx hb dX11_assign_132 rfl (lv_at hl 0 rfl) ?_
    obtain ⟨hc_9, hf⟩ := aw_chk_some hf
    obtain ⟨q_10, hq_11, hf⟩ := aw_bind_some hf
    refine gf_X11_44 hx hb G hown hc_9 hq_11 dX11_assign_133 ?_
    refine lv_bipush (v := (47 : Int32)) hx hb dX11_assign_136 (by decide) ?_
    refine lv_iload_n hx hb dX11_assign_138 rfl (lv_at hl 1 rfl) ?_
    refine lv_imul hx hb dX11_assign_139 ?_
    refine lv_iload_n hx hb dX11_assign_140 rfl (lv_at hl 2 rfl) ?_
    refine lv_iadd hx hb dX11_assign_141 ?_
    refine lv_iload_n hx hb dX11_assign_142 rfl (lv_at hl 3 rfl) ?_
    obtain ⟨hc_12, hf⟩ := aw_chk_some hf
    refine aw_ias hx hb G hc_12 dX11_assign_143 (fun H locs G => ?_)
    refine lv_iload hx hb dX11_assign_144 (lv_at hl 4 rfl) ?_
    exact aw_reti X G hf dX11_assign_146
  · have hf := aw_ite_f hc hf
    refine lv_iconst (v := (0 : Int32)) hx hb dX11_assign_130 (by decide) ?_
    exact aw_reti X G hf dX11_assign_131
set_option maxHeartbeats 4000000 in
set_option maxRecDepth 100000 in
theorem w_X11_assign_J123 {z : Int32 × Dt} (X : aw_X p c cX11_assign 8 s RX11 m meth (some .int)) {t0 : Nat} {x0 : Nat} {x1 : Int32} {x2 : Int32} {x3 : Int32} {x6 : Int32} {d : Dt} (hf : f_X11_assign_J123 σ t0 x0 x1 x2 x3 x6 d = some z)  {H : Heap} {locs : List Loc} {ls : Array Slot} (hl : lv_has ls 8 [(0, .ref (ad x0)), (1, .int x1), (2, .int x2), (3, .int x3), (6, .int x6)]) (G : aw_G D cA base ad σ d s H locs) : W p l e rm_X11_assign s m args below meth c H locs 0 0 (aw_Ei D cA base ad σ below args s z) (F0 m 123 ls [.ref (ad t0)]) := by
  have hx := X.1; have hb := X.2.1; have hml := X.2.2.1; have hown := X.2.2.2.1
  unfold f_X11_assign_J123 at hf
  refine lv_iconst (v := (0 : Int32)) hx hb dX11_assign_123 (by decide) ?_
  exact w_X11_assign_J124 X hf  (lv_sub hl [0, 1, 2, 3, 4] rfl) G
set_option maxHeartbeats 4000000 in
set_option maxRecDepth 100000 in
theorem w_X11_assign_J86 {z : Int32 × Dt} (X : aw_X p c cX11_assign 8 s RX11 m meth (some .int)) {t0 : Int32} {x0 : Nat} {x1 : Int32} {x2 : Int32} {x3 : Int32} {x4 : Int32} {x5 : Int32} {x6 : Int32} {d : Dt} (hf : f_X11_assign_J86 σ t0 x0 x1 x2 x3 x4 x5 x6 d = some z)  {H : Heap} {locs : List Loc} {ls : Array Slot} (hl : lv_has ls 8 [(0, .ref (ad x0)), (1, .int x1), (2, .int x2), (3, .int x3), (4, .int x4), (5, .int x5), (6, .int x6)]) (G : aw_G D cA base ad σ d s H locs) : W p l e rm_X11_assign s m args below meth c H locs 0 0 (aw_Ei D cA base ad σ below args s z) (F0 m 86 ls [.int t0]) := by
  have hx := X.1; have hb := X.2.1; have hml := X.2.2.1; have hown := X.2.2.2.1
  unfold f_X11_assign_J86 at hf
  refine lv_istore (lv' := [(7, .int t0), (0, .ref (ad x0)), (1, .int x1), (2, .int x2), (3, .int x3), (4, .int x4), (5, .int x5), (6, .int x6)]) hx hb dX11_assign_86 hl (by decide) rfl (fun ls hl => ?_)
  refine lv_aload_n hx hb dX11_assign_88 rfl (lv_at hl 1 rfl) ?_
  refine lv_iload hx hb dX11_assign_89 (lv_at hl 6 rfl) ?_
  refine lv_if_ne (tgt := 98) hx hb dX11_assign_91 (by decide) (fun hc => ?_) (fun hc => ?_)
  · have hf := aw_ite_f hc hf
    refine lv_iload_n hx hb dX11_assign_98 rfl (lv_at hl 4 rfl) ?_
    obtain ⟨z_4, hz_5, hf⟩ := aw_bind_some hf
    refine aw_SI (As := [.int x3]) (rest := [.ref (ad x0)]) X G hl.1 cr_X11_149 (c_X11_isSign l hz_5) ⟨rfl, rfl⟩ rfl rfl rfl ⟨Nat.le_of_ble_eq_true rfl, Nat.le_of_ble_eq_true rfl⟩ (Nat.le_of_ble_eq_true rfl) dX11_assign_99 ⟨Nat.zero_le _, Nat.zero_le _⟩ (fun H locs G => ?_)
    refine lv_if_ne (tgt := 109) hx hb dX11_assign_102 (by decide) (fun hc => ?_) (fun hc => ?_)
    · have hf := aw_ite_f hc hf
      refine lv_iload hx hb dX11_assign_109 (lv_at hl 0 rfl) ?_
      refine lv_if_eq (tgt := 123) hx hb dX11_assign_111 (by decide) (fun hc => ?_) (fun hc => ?_)
      · have hf := aw_ite_t hc hf
        exact w_X11_assign_J123 X hf  (lv_sub hl [1, 2, 3, 4, 7] rfl) G
      · have hf := aw_ite_f hc hf
        refine lv_iload hx hb dX11_assign_114 (lv_at hl 5 rfl) ?_
        refine lv_if_ne (tgt := 123) hx hb dX11_assign_116 (by decide) (fun hc => ?_) (fun hc => ?_)
        · have hf := aw_ite_f hc hf
          exact w_X11_assign_J123 X hf  (lv_sub hl [1, 2, 3, 4, 7] rfl) G
        · have hf := aw_ite_t hc hf
          refine lv_iconst (v := (3 : Int32)) hx hb dX11_assign_119 (by decide) ?_
          refine lv_goto (tgt := 124) hx hb dX11_assign_120 (by decide) ?_
          exact w_X11_assign_J124 X hf  (lv_sub hl [1, 2, 3, 4, 7] rfl) G
    · have hf := aw_ite_t hc hf
      refine lv_iconst (v := (2 : Int32)) hx hb dX11_assign_105 (by decide) ?_
      refine lv_goto (tgt := 124) hx hb dX11_assign_106 (by decide) ?_
      exact w_X11_assign_J124 X hf  (lv_sub hl [1, 2, 3, 4, 7] rfl) G
  · have hf := aw_ite_t hc hf
    refine lv_iconst (v := (1 : Int32)) hx hb dX11_assign_94 (by decide) ?_
    refine lv_goto (tgt := 124) hx hb dX11_assign_95 (by decide) ?_
    exact w_X11_assign_J124 X hf  (lv_sub hl [1, 2, 3, 4, 7] rfl) G
set_option maxHeartbeats 4000000 in
set_option maxRecDepth 100000 in
theorem w_X11_assign_J85 {z : Int32 × Dt} (X : aw_X p c cX11_assign 8 s RX11 m meth (some .int)) {x0 : Nat} {x1 : Int32} {x2 : Int32} {x3 : Int32} {x4 : Int32} {x5 : Int32} {x6 : Int32} {d : Dt} (hf : f_X11_assign_J85 σ x0 x1 x2 x3 x4 x5 x6 d = some z)  {H : Heap} {locs : List Loc} {ls : Array Slot} (hl : lv_has ls 8 [(0, .ref (ad x0)), (1, .int x1), (2, .int x2), (3, .int x3), (4, .int x4), (5, .int x5), (6, .int x6)]) (G : aw_G D cA base ad σ d s H locs) : W p l e rm_X11_assign s m args below meth c H locs 0 0 (aw_Ei D cA base ad σ below args s z) (F0 m 85 ls []) := by
  have hx := X.1; have hb := X.2.1; have hml := X.2.2.1; have hown := X.2.2.2.1
  unfold f_X11_assign_J85 at hf
  refine lv_iconst (v := (0 : Int32)) hx hb dX11_assign_85 (by decide) ?_
  exact w_X11_assign_J86 X hf  (lv_sub hl [0, 1, 2, 3, 4, 5, 6] rfl) G
set_option maxHeartbeats 4000000 in
set_option maxRecDepth 100000 in
theorem w_X11_assign_J78 {z : Int32 × Dt} (X : aw_X p c cX11_assign 8 s RX11 m meth (some .int)) {t1 : Int32} {t0 : Int32} {x0 : Nat} {x1 : Int32} {x2 : Int32} {x3 : Int32} {x4 : Int32} {x5 : Int32} {x6 : Int32} {d : Dt} (hf : f_X11_assign_J78 σ t1 t0 x0 x1 x2 x3 x4 x5 x6 d = some z)  {H : Heap} {locs : List Loc} {ls : Array Slot} (hl : lv_has ls 8 [(0, .ref (ad x0)), (1, .int x1), (2, .int x2), (3, .int x3), (4, .int x4), (5, .int x5), (6, .int x6)]) (G : aw_G D cA base ad σ d s H locs) : W p l e rm_X11_assign s m args below meth c H locs 0 0 (aw_Ei D cA base ad σ below args s z) (F0 m 78 ls [.int t1, .int t0]) := by
  have hx := X.1; have hb := X.2.1; have hml := X.2.2.1; have hown := X.2.2.2.1
  unfold f_X11_assign_J78 at hf
  refine lv_icmp_le (tgt := 85) hx hb dX11_assign_78 (by decide) (fun hc => ?_) (fun hc => ?_)
  · have hf := aw_ite_t hc hf
    exact w_X11_assign_J85 X hf  (lv_sub hl [0, 1, 2, 3, 4, 5, 6] rfl) G
  · have hf := aw_ite_f hc hf
    refine lv_iconst (v := (1 : Int32)) hx hb dX11_assign_81 (by decide) ?_
    refine lv_goto (tgt := 86) hx hb dX11_assign_82 (by decide) ?_
    exact w_X11_assign_J86 X hf  (lv_sub hl [0, 1, 2, 3, 4, 5, 6] rfl) G
set_option maxHeartbeats 4000000 in
set_option maxRecDepth 100000 in
theorem w_X11_assign_J44 {z : Int32 × Dt} (X : aw_X p c cX11_assign 8 s RX11 m meth (some .int)) {t0 : Int32} {x0 : Nat} {x1 : Int32} {x2 : Int32} {x3 : Int32} {x4 : Int32} {x5 : Int32} {d : Dt} (hf : f_X11_assign_J44 σ t0 x0 x1 x2 x3 x4 x5 d = some z)  {H : Heap} {locs : List Loc} {ls : Array Slot} (hl : lv_has ls 8 [(0, .ref (ad x0)), (1, .int x1), (2, .int x2), (3, .int x3), (4, .int x4), (5, .int x5)]) (G : aw_G D cA base ad σ d s H locs) : W p l e rm_X11_assign s m args below meth c H locs 0 0 (aw_Ei D cA base ad σ below args s z) (F0 m 44 ls [.int t0]) := by
  have hx := X.1; have hb := X.2.1; have hml := X.2.2.1; have hown := X.2.2.2.1
  unfold f_X11_assign_J44 at hf
  refine lv_istore (lv' := [(6, .int t0), (0, .ref (ad x0)), (1, .int x1), (2, .int x2), (3, .int x3), (4, .int x4), (5, .int x5)]) hx hb dX11_assign_44 hl (by decide) rfl (fun ls hl => ?_)
  refine lv_iload hx hb dX11_assign_46 (lv_at hl 6 rfl) ?_
  refine lv_if_eq (tgt := 85) hx hb dX11_assign_48 (by decide) (fun hc => ?_) (fun hc => ?_)
  · have hf := aw_ite_t hc hf
    exact w_X11_assign_J85 X hf  (lv_sub hl [1, 2, 3, 4, 5, 6, 0] rfl) G
  · have hf := aw_ite_f hc hf
    refine lv_iload_n hx hb dX11_assign_51 rfl (lv_at hl 4 rfl) ?_
    obtain ⟨z_13, hz_14, hf⟩ := aw_bind_some hf
    refine aw_SI (As := [.int x3]) (rest := []) X G hl.1 cr_X11_149 (c_X11_isSign l hz_14) ⟨rfl, rfl⟩ rfl rfl rfl ⟨Nat.le_of_ble_eq_true rfl, Nat.le_of_ble_eq_true rfl⟩ (Nat.le_of_ble_eq_true rfl) dX11_assign_52 ⟨Nat.zero_le _, Nat.zero_le _⟩ (fun H locs G => ?_)
    refine lv_if_eq (tgt := 85) hx hb dX11_assign_55 (by decide) (fun hc => ?_) (fun hc => ?_)
    · have hf := aw_ite_t hc hf
      exact w_X11_assign_J85 X hf  (lv_sub hl [1, 2, 3, 4, 5, 6, 0] rfl) G
    · have hf := aw_ite_f hc hf
      refine lv_aload_n hx hb dX11_assign_58 rfl (lv_at hl 1 rfl) ?_
      refine lv_iload_n hx hb dX11_assign_59 rfl (lv_at hl 2 rfl) ?_
      refine lv_iconst (v := (0 : Int32)) hx hb dX11_assign_60 (by decide) ?_
      refine lv_bipush (v := (46 : Int32)) hx hb dX11_assign_61 (by decide) ?_
      refine lv_iload_n hx hb dX11_assign_63 rfl (lv_at hl 4 rfl) ?_
      obtain ⟨hc_17, hf⟩ := aw_chk_some hf
      obtain ⟨z_15, hz_16, hf⟩ := aw_bind_some hf
      refine aw_VI (As := [.int x1, .int ((0 : Int32)), .int ((46 : Int32)), .int x3]) (rest := []) X G hl.1 cr_X11_142 (c_X11_units l hz_16) ⟨rfl, rfl⟩ rfl rfl rfl (by decide) hc_17 rfl ⟨Nat.le_of_ble_eq_true rfl, Nat.le_of_ble_eq_true rfl⟩ (Nat.le_of_ble_eq_true rfl) dX11_assign_64 ⟨Nat.zero_le _, Nat.zero_le _⟩ (fun H locs G => ?_)
      refine lv_iload hx hb dX11_assign_67 (lv_at hl 0 rfl) ?_
      refine lv_iload_n hx hb dX11_assign_69 rfl (lv_at hl 4 rfl) ?_
      refine lv_icmp_ne (tgt := 77) hx hb dX11_assign_70 (by decide) (fun hc => ?_) (fun hc => ?_)
      · have hf := aw_ite_f hc hf
        refine lv_iconst (v := (0 : Int32)) hx hb dX11_assign_77 (by decide) ?_
        exact w_X11_assign_J78 X hf  (lv_sub hl [1, 2, 3, 4, 5, 6, 0] rfl) G
      · have hf := aw_ite_t hc hf
        refine lv_iconst (v := (1 : Int32)) hx hb dX11_assign_73 (by decide) ?_
        refine lv_goto (tgt := 78) hx hb dX11_assign_74 (by decide) ?_
        exact w_X11_assign_J78 X hf  (lv_sub hl [1, 2, 3, 4, 5, 6, 0] rfl) G
set_option maxHeartbeats 4000000 in
set_option maxRecDepth 100000 in
theorem w_X11_assign_J22 {z : Int32 × Dt} (X : aw_X p c cX11_assign 8 s RX11 m meth (some .int)) {t0 : Int32} {x0 : Nat} {x1 : Int32} {x2 : Int32} {x3 : Int32} {x4 : Int32} {d : Dt} (hf : f_X11_assign_J22 σ t0 x0 x1 x2 x3 x4 d = some z)  {H : Heap} {locs : List Loc} {ls : Array Slot} (hl : lv_has ls 8 [(0, .ref (ad x0)), (1, .int x1), (2, .int x2), (3, .int x3), (4, .int x4)]) (G : aw_G D cA base ad σ d s H locs) : W p l e rm_X11_assign s m args below meth c H locs 0 0 (aw_Ei D cA base ad σ below args s z) (F0 m 22 ls [.int t0]) := by
  have hx := X.1; have hb := X.2.1; have hml := X.2.2.1; have hown := X.2.2.2.1
  unfold f_X11_assign_J22 at hf
  refine lv_istore (lv' := [(5, .int t0), (0, .ref (ad x0)), (1, .int x1), (2, .int x2), (3, .int x3), (4, .int x4)]) hx hb dX11_assign_22 hl (by decide) rfl (fun ls hl => ?_)
  refine lv_iload hx hb dX11_assign_24 (lv_at hl 0 rfl) ?_
  refine lv_if_eq (tgt := 43) hx hb dX11_assign_26 (by decide) (fun hc => ?_) (fun hc => ?_)
  · have hf := aw_ite_t hc hf
    refine lv_iconst (v := (0 : Int32)) hx hb dX11_assign_43 (by decide) ?_
    exact w_X11_assign_J44 X hf  (lv_sub hl [1, 2, 3, 4, 5, 0] rfl) G
  · have hf := aw_ite_f hc hf
    refine lv_aload_n hx hb dX11_assign_29 rfl (lv_at hl 1 rfl) ?_
    obtain ⟨hc_18, hf⟩ := aw_chk_some hf
    obtain ⟨q_19, hq_20, hf⟩ := aw_bind_some hf
    refine gf_X11_44 hx hb G hown hc_18 hq_20 dX11_assign_30 ?_
    refine lv_bipush (v := (47 : Int32)) hx hb dX11_assign_33 (by decide) ?_
    refine lv_iload_n hx hb dX11_assign_35 rfl (lv_at hl 2 rfl) ?_
    refine lv_imul hx hb dX11_assign_36 ?_
    refine lv_iload_n hx hb dX11_assign_37 rfl (lv_at hl 3 rfl) ?_
    refine lv_iadd hx hb dX11_assign_38 ?_
    obtain ⟨hc_21, hf⟩ := aw_chk_some hf
    refine aw_ial hx hb G hc_21 dX11_assign_39 ?_
    refine lv_goto (tgt := 44) hx hb dX11_assign_40 (by decide) ?_
    exact w_X11_assign_J44 X hf  (lv_sub hl [1, 2, 3, 4, 5, 0] rfl) G
set_option maxHeartbeats 4000000 in
set_option maxRecDepth 100000 in
theorem w_X11_assign_J21 {z : Int32 × Dt} (X : aw_X p c cX11_assign 8 s RX11 m meth (some .int)) {x0 : Nat} {x1 : Int32} {x2 : Int32} {x3 : Int32} {x4 : Int32} {d : Dt} (hf : f_X11_assign_J21 σ x0 x1 x2 x3 x4 d = some z)  {H : Heap} {locs : List Loc} {ls : Array Slot} (hl : lv_has ls 8 [(0, .ref (ad x0)), (1, .int x1), (2, .int x2), (3, .int x3), (4, .int x4)]) (G : aw_G D cA base ad σ d s H locs) : W p l e rm_X11_assign s m args below meth c H locs 0 0 (aw_Ei D cA base ad σ below args s z) (F0 m 21 ls []) := by
  have hx := X.1; have hb := X.2.1; have hml := X.2.2.1; have hown := X.2.2.2.1
  unfold f_X11_assign_J21 at hf
  refine lv_iconst (v := (0 : Int32)) hx hb dX11_assign_21 (by decide) ?_
  exact w_X11_assign_J22 X hf  (lv_sub hl [0, 1, 2, 3, 4] rfl) G
end W_X11_assign
set_option maxHeartbeats 4000000 in
set_option maxRecDepth 100000 in
theorem c_X11_assign (l : Launch) {σ : Sg} {x0 : Nat} {x1 : Int32} {x2 : Int32} {x3 : Int32} {x4 : Int32} {d : Dt} {z : Int32 × Dt} (hf : f_X11_assign σ x0 x1 x2 x3 x4 d = some z) : aw_Mi l yX11_assign (Cond.code yX11_assign cX11_assign 8 (some .int)) rm_X11_assign (fun ad => [.ref (ad x0), .int x1, .int x2, .int x3, .int x4]) σ d z := by
  intro D cA base ad
  refine aw_ofW (own := RX11) (cc := cX11_assign) (nL := 8) (ret := some .int) (by decide) rfl rfl ?_
  intro p e s m below meth c X hnm G
  have hx := X.1; have hb := X.2.1; have hml := X.2.2.1; have hown := X.2.2.2.1
  refine aw_ls (lv := [(0, .ref (ad x0)), (1, .int x1), (2, .int x2), (3, .int x3), (4, .int x4)]) (Nat.le_of_ble_eq_true rfl) rfl (fun ls hl => ?_)
  unfold f_X11_assign at hf
  refine lv_aload_n hx hb dX11_assign_0 rfl (lv_at hl 0 rfl) ?_
  refine lv_iload_n hx hb dX11_assign_1 rfl (lv_at hl 1 rfl) ?_
  obtain ⟨hc_3, hf⟩ := aw_chk_some hf
  obtain ⟨z_1, hz_2, hf⟩ := aw_bind_some hf
  refine aw_VI (As := [.int x1]) (rest := []) X G hl.1 cr_X11_146 (c_X11_isDesign l hz_2) ⟨rfl, rfl⟩ rfl rfl rfl (by decide) hc_3 rfl ⟨Nat.le_of_ble_eq_true rfl, Nat.le_of_ble_eq_true rfl⟩ (Nat.le_of_ble_eq_true rfl) dX11_assign_2 ⟨Nat.zero_le _, Nat.zero_le _⟩ (fun H locs G => ?_)
  refine lv_if_eq (tgt := 21) hx hb dX11_assign_5 (by decide) (fun hc => ?_) (fun hc => ?_)
  · have hf := aw_ite_t hc hf
    exact w_X11_assign_J21 X hf  (lv_sub hl [0, 1, 2, 3, 4] rfl) G
  · have hf := aw_ite_f hc hf
    refine lv_aload_n hx hb dX11_assign_8 rfl (lv_at hl 0 rfl) ?_
    refine lv_iload_n hx hb dX11_assign_9 rfl (lv_at hl 1 rfl) ?_
    refine lv_iload_n hx hb dX11_assign_10 rfl (lv_at hl 2 rfl) ?_
    obtain ⟨z_22, hz_23, hf⟩ := aw_bind_some hf
    refine aw_VI (As := [.int x1, .int x2]) (rest := []) X G hl.1 cr_X11_139 (c_X11_isUnit l hz_23) ⟨rfl, rfl⟩ rfl rfl rfl (by decide) hc_3 rfl ⟨Nat.le_of_ble_eq_true rfl, Nat.le_of_ble_eq_true rfl⟩ (Nat.le_of_ble_eq_true rfl) dX11_assign_11 ⟨Nat.zero_le _, Nat.zero_le _⟩ (fun H locs G => ?_)
    refine lv_if_eq (tgt := 21) hx hb dX11_assign_14 (by decide) (fun hc => ?_) (fun hc => ?_)
    · have hf := aw_ite_t hc hf
      exact w_X11_assign_J21 X hf  (lv_sub hl [0, 1, 2, 3, 4] rfl) G
    · have hf := aw_ite_f hc hf
      refine lv_iconst (v := (1 : Int32)) hx hb dX11_assign_17 (by decide) ?_
      refine lv_goto (tgt := 22) hx hb dX11_assign_18 (by decide) ?_
      exact w_X11_assign_J22 X hf  (lv_sub hl [0, 1, 2, 3, 4] rfl) G
