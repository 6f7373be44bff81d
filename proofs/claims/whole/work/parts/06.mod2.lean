/-! X11_syllables X11_readings X11_readingsAnew X11_fitOf X11_fit X11_strokes X11_shape X11_lesser X11_far X11_apart X11_clear -/
def rm_X11_syllables : Room := { frames := 3, cells := 0, slots := 0, locals := 70 }
def f_X11_syllables_J264 (σ : Sg) (kb6 : Int64 → Int32 → Dt → Option (Int64 × Dt)) (x0 : Nat) (x1 : Int32) (x2 : Int32) (x3 : Int32) (x4 : Int64) (x6 : Int32) (d : Dt) : Option (Int64 × Dt) :=
  kb6 x4 (x6 + 1) d
def f_X11_syllables_J254 (σ : Sg) (kb6 : Int64 → Int32 → Dt → Option (Int64 × Dt)) (t1 : Int64) (t0 : Int64) (x0 : Nat) (x1 : Int32) (x2 : Int32) (x3 : Int32) (x4 : Int64) (x6 : Int32) (d : Dt) : Option (Int64 × Dt) :=
  f_X11_syllables_J264 σ kb6 x0 x1 x2 x3 (x4 + (t0 * t1)) x6 d
def f_X11_syllables_J188 (σ : Sg) (kb6 : Int64 → Int32 → Dt → Option (Int64 × Dt)) (t3 : Int32) (t2 : Int32) (t1 : Nat) (t0 : Int64) (x0 : Nat) (x1 : Int32) (x2 : Int32) (x3 : Int32) (x4 : Int64) (x6 : Int32) (x8 : Int32) (x9 : Int32) (x10 : Int32) (x11 : Int32) (d : Dt) : Option (Int64 × Dt) :=
  aw_chk (aw_O σ 11 32 t1) ((f_X11_tones σ t1 t2 t3 d).bind (fun z_11 => if x9 = 0 then f_X11_syllables_J254 σ kb6 ((1 : Int64)) (t0 * z_11.1.toInt64) x0 x1 x2 x3 x4 x6 z_11.2 else if x10 = 0 then aw_chk (aw_O σ 11 32 x0) ((σ.2.2 x0 21).bind (fun q_15 => aw_chk (aw_I σ 20 q_15 (x11 + x8)) ((f_X11_units σ x0 x1 ((36 : Int32)) ((43 : Int32)) (z_11.2.1 q_15 (x11 + x8).toNatClampNeg) z_11.2).bind (fun z_18 => f_X11_syllables_J254 σ kb6 z_18.1.toInt64 (t0 * z_11.1.toInt64) x0 x1 x2 x3 x4 x6 z_18.2)))) else aw_chk (aw_O σ 11 32 x0) ((σ.2.2 x0 21).bind (fun q_21 => aw_chk (aw_I σ 20 q_21 (x11 + x8)) ((f_X11_units σ x0 x1 ((0 : Int32)) ((7 : Int32)) (z_11.2.1 q_21 (x11 + x8).toNatClampNeg) z_11.2).bind (fun z_24 => f_X11_syllables_J254 σ kb6 z_24.1.toInt64 (t0 * z_11.1.toInt64) x0 x1 x2 x3 x4 x6 z_24.2))))))
def f_X11_syllables_J161 (σ : Sg) (kb6 : Int64 → Int32 → Dt → Option (Int64 × Dt)) (t1 : Int64) (t0 : Int64) (x0 : Nat) (x1 : Int32) (x2 : Int32) (x3 : Int32) (x4 : Int64) (x6 : Int32) (x8 : Int32) (x9 : Int32) (x10 : Int32) (x11 : Int32) (d : Dt) : Option (Int64 × Dt) :=
  if x8 = ((1 : Int32)) then aw_chk (aw_O σ 11 32 x0) ((σ.2.2 x0 21).bind (fun q_27 => aw_chk (aw_I σ 20 q_27 (x11 + 1)) (f_X11_syllables_J188 σ kb6 (d.1 q_27 (x11 + 1).toNatClampNeg) x1 x0 (t0 * t1) x0 x1 x2 x3 x4 x6 x8 x9 x10 (x11 + 1) d))) else f_X11_syllables_J188 σ kb6 ((-1 : Int32)) x1 x0 (t0 * t1) x0 x1 x2 x3 x4 x6 x8 x9 x10 (x11 + 1) d
def f_X11_syllables_J118 (σ : Sg) (kb6 : Int64 → Int32 → Dt → Option (Int64 × Dt)) (x0 : Nat) (x1 : Int32) (x2 : Int32) (x3 : Int32) (x4 : Int64) (x6 : Int32) (x8 : Int32) (x9 : Int32) (x10 : Int32) (x11 : Int32) (x12 : Int64) (d : Dt) : Option (Int64 × Dt) :=
  if x10 = 0 then aw_chk (aw_O σ 11 32 x0) ((σ.2.2 x0 21).bind (fun q_6 => aw_chk (aw_I σ 20 q_6 x11) ((f_X11_units σ x0 x1 ((0 : Int32)) ((35 : Int32)) (d.1 q_6 x11.toNatClampNeg) d).bind (fun z_9 => f_X11_syllables_J161 σ kb6 z_9.1.toInt64 x12 x0 x1 x2 x3 x4 x6 x8 x9 x10 x11 z_9.2)))) else aw_chk (aw_O σ 11 32 x0) ((σ.2.2 x0 21).bind (fun q_31 => aw_chk (aw_I σ 20 q_31 x11) ((f_X11_units σ x0 x1 ((8 : Int32)) ((11 : Int32)) (d.1 q_31 x11.toNatClampNeg) d).bind (fun z_34 => f_X11_syllables_J161 σ kb6 z_34.1.toInt64 x12 x0 x1 x2 x3 x4 x6 x8 x9 x10 x11 z_34.2))))
def f_X11_syllables_J88 (σ : Sg) (kb6 : Int64 → Int32 → Dt → Option (Int64 × Dt)) (x0 : Nat) (x1 : Int32) (x2 : Int32) (x3 : Int32) (x4 : Int64) (x6 : Int32) (x7 : Int32) (x8 : Int32) (x9 : Int32) (x10 : Int32) (x11 : Int32) (x12 : Int64) (d : Dt) : Option (Int64 × Dt) :=
  if x7 = ((1 : Int32)) then aw_chk (aw_O σ 11 32 x0) ((σ.2.2 x0 21).bind (fun q_37 => aw_chk (aw_I σ 20 q_37 x11) ((f_X11_units σ x0 x1 ((0 : Int32)) ((7 : Int32)) (d.1 q_37 x11.toNatClampNeg) d).bind (fun z_40 => f_X11_syllables_J118 σ kb6 x0 x1 x2 x3 x4 x6 x8 x9 x10 (x11 + 1) (x12 * z_40.1.toInt64) z_40.2)))) else f_X11_syllables_J118 σ kb6 x0 x1 x2 x3 x4 x6 x8 x9 x10 x11 x12 d
def f_X11_syllables_J66 (σ : Sg) (kb6 : Int64 → Int32 → Dt → Option (Int64 × Dt)) (t0 : Int32) (x0 : Nat) (x1 : Int32) (x2 : Int32) (x3 : Int32) (x4 : Int64) (x6 : Int32) (x7 : Int32) (x8 : Int32) (x9 : Int32) (x10 : Int32) (x11 : Int32) (x12 : Int64) (d : Dt) : Option (Int64 × Dt) :=
  if (((t0 + ((1 : Int32))) + x8) + x9) = x3 then if x10 = 0 then if x7 = 0 then f_X11_syllables_J88 σ kb6 x0 x1 x2 x3 x4 x6 x7 x8 x9 x10 x11 x12 d else f_X11_syllables_J264 σ kb6 x0 x1 x2 x3 x4 x6 d else f_X11_syllables_J88 σ kb6 x0 x1 x2 x3 x4 x6 x7 x8 x9 x10 x11 x12 d else f_X11_syllables_J264 σ kb6 x0 x1 x2 x3 x4 x6 d
def f_X11_syllables_J47 (σ : Sg) (kb6 : Int64 → Int32 → Dt → Option (Int64 × Dt)) (t0 : Int32) (x0 : Nat) (x1 : Int32) (x2 : Int32) (x3 : Int32) (x4 : Int64) (x6 : Int32) (x7 : Int32) (x8 : Int32) (x9 : Int32) (d : Dt) : Option (Int64 × Dt) :=
  if t0 = 0 then f_X11_syllables_J66 σ kb6 ((0 : Int32)) x0 x1 x2 x3 x4 x6 x7 x8 x9 t0 x2 ((1 : Int64)) d else f_X11_syllables_J66 σ kb6 x7 x0 x1 x2 x3 x4 x6 x7 x8 x9 t0 x2 ((1 : Int64)) d
def f_X11_syllables_B6 (σ : Sg) (kb6 : Int64 → Int32 → Dt → Option (Int64 × Dt)) (k6 : Int64 → Dt → Option (Int64 × Dt)) (x0 : Nat) (x1 : Int32) (x2 : Int32) (x3 : Int32) (x4 : Int64) (x6 : Int32) (d : Dt) : Option (Int64 × Dt) :=
  if ((8 : Int32)) ≤ x6 then k6 x4 d else aw_chk (aw_O σ 11 32 x0) ((σ.2.2 x0 12).bind (fun q_2 => aw_chk (aw_I σ 20 q_2 x1) (if (d.1 q_2 x1.toNatClampNeg) = 0 then f_X11_syllables_J47 σ kb6 ((1 : Int32)) x0 x1 x2 x3 x4 x6 (x6 &&& ((1 : Int32))) ((x6 >>> (((1 : Int32)) &&& 31)) &&& ((1 : Int32))) (x6 >>> (((2 : Int32)) &&& 31)) d else f_X11_syllables_J47 σ kb6 ((0 : Int32)) x0 x1 x2 x3 x4 x6 (x6 &&& ((1 : Int32))) ((x6 >>> (((1 : Int32)) &&& 31)) &&& ((1 : Int32))) (x6 >>> (((2 : Int32)) &&& 31)) d)))
def f_X11_syllables_L6 (σ : Sg) (n : Nat) (k6 : Int64 → Dt → Option (Int64 × Dt)) (x0 : Nat) (x1 : Int32) (x2 : Int32) (x3 : Int32) : Int64 → Int32 → Dt → Option (Int64 × Dt) := match n with
  | 0 => fun _ _ _ => none
  | n + 1 => fun x4 x6 d => f_X11_syllables_B6 σ (f_X11_syllables_L6 σ n k6 x0 x1 x2 x3) k6 x0 x1 x2 x3 x4 x6 d
def f_X11_syllables (σ : Sg) (x0 : Nat) (x1 : Int32) (x2 : Int32) (x3 : Int32) (d : Dt) : Option (Int64 × Dt) :=
  f_X11_syllables_L6 σ aw_FU (fun x4_42 d_43 => some (x4_42, d_43)) x0 x1 x2 x3 ((0 : Int64)) ((0 : Int32)) d
section W_X11_syllables
variable {p : Program} {l : Launch} {e : Env} {s : State} {m : MethodId} {args : Array Value} {below : List Frame} {meth : Method} {c : Code}
variable {D : va_G} {cA : Nat → ClassId} {base : Nat} {ad : Nat → Nat} {σ : Sg}
set_option maxHeartbeats 4000000 in
set_option maxRecDepth 100000 in
theorem w_X11_syllables_J264 {z : Int64 × Dt} (X : aw_X p c cX11_syllables 14 s RX11 m meth (some .long)) {kb6 : Int64 → Int32 → Dt → Option (Int64 × Dt)} {x0 : Nat} {x1 : Int32} {x2 : Int32} {x3 : Int32} {x4 : Int64} {x6 : Int32} {d : Dt} (hf : f_X11_syllables_J264 σ kb6 x0 x1 x2 x3 x4 x6 d = some z) (hkb6 : ∀ (y4 : Int64) (y6 : Int32) (d : Dt), kb6 y4 y6 d = some z → ∀ (H : Heap) (locs : List Loc) (ls : Array Slot), lv_has ls 14 [(0, .ref (ad x0)), (1, .int x1), (2, .int x2), (3, .int x3), (4, .long y4), (6, .int y6)] → aw_G D cA base ad σ d s H locs → W p l e rm_X11_syllables s m args below meth c H locs 0 0 (aw_El D cA base ad σ below args s z) (F0 m 6 ls [])) {H : Heap} {locs : List Loc} {ls : Array Slot} (hl : lv_has ls 14 [(0, .ref (ad x0)), (1, .int x1), (2, .int x2), (3, .int x3), (4, .long x4), (6, .int x6)]) (G : aw_G D cA base ad σ d s H locs) : W p l e rm_X11_syllables s m args below meth c H locs 0 0 (aw_El D cA base ad σ below args s z) (F0 m 264 ls []) := by
  have hx := X.1; have hb := X.2.1; have hml := X.2.2.1; have hown := X.2.2.2.1
  unfold f_X11_syllables_J264 at hf
  refine lv_iinc (v := x6 + 1) (lv' := [(6, .int (x6 + 1)), (0, .ref (ad x0)), (1, .int x1), (2, .int x2), (3, .int x3), (4, .long x4)]) hx hb dX11_syllables_264 hl (k := 5) rfl rfl (by decide) rfl (fun ls hl => ?_)
  refine lv_goto (tgt := 6) hx hb dX11_syllables_267 (by decide) ?_
  exact hkb6 _ _ _ hf _ _ _ (lv_sub hl [1, 2, 3, 4, 5, 0] rfl) G
set_option maxHeartbeats 4000000 in
set_option maxRecDepth 100000 in
theorem w_X11_syllables_J254 {z : Int64 × Dt} (X : aw_X p c cX11_syllables 14 s RX11 m meth (some .long)) {kb6 : Int64 → Int32 → Dt → Option (Int64 × Dt)} {t1 : Int64} {t0 : Int64} {x0 : Nat} {x1 : Int32} {x2 : Int32} {x3 : Int32} {x4 : Int64} {x6 : Int32} {d : Dt} (hf : f_X11_syllables_J254 σ kb6 t1 t0 x0 x1 x2 x3 x4 x6 d = some z) (hkb6 : ∀ (y4 : Int64) (y6 : Int32) (d : Dt), kb6 y4 y6 d = some z → ∀ (H : Heap) (locs : List Loc) (ls : Array Slot), lv_has ls 14 [(0, .ref (ad x0)), (1, .int x1), (2, .int x2), (3, .int x3), (4, .long y4), (6, .int y6)] → aw_G D cA base ad σ d s H locs → W p l e rm_X11_syllables s m args below meth c H locs 0 0 (aw_El D cA base ad σ below args s z) (F0 m 6 ls [])) {H : Heap} {locs : List Loc} {ls : Array Slot} (hl : lv_has ls 14 [(0, .ref (ad x0)), (1, .int x1), (2, .int x2), (3, .int x3), (4, .long x4), (6, .int x6)]) (G : aw_G D cA base ad σ d s H locs) : W p l e rm_X11_syllables s m args below meth c H locs 0 0 (aw_El D cA base ad σ below args s z) (F0 m 254 ls [.long t1, .long t0]) := by
  have hx := X.1; have hb := X.2.1; have hml := X.2.2.1; have hown := X.2.2.2.1
  unfold f_X11_syllables_J254 at hf
  refine lv_lmul hx hb dX11_syllables_254 ?_
  refine lv_lstore (lv' := [(12, .long (t0 * t1)), (0, .ref (ad x0)), (1, .int x1), (2, .int x2), (3, .int x3), (4, .long x4), (6, .int x6)]) hx hb dX11_syllables_255 hl (by decide) rfl (fun ls hl => ?_)
  refine lv_lload hx hb dX11_syllables_257 (lv_at hl 5 rfl) ?_
  refine lv_lload hx hb dX11_syllables_259 (lv_at hl 0 rfl) ?_
  refine lv_ladd hx hb dX11_syllables_261 ?_
  refine lv_lstore (lv' := [(4, .long (x4 + (t0 * t1))), (12, .long (t0 * t1)), (0, .ref (ad x0)), (1, .int x1), (2, .int x2), (3, .int x3), (6, .int x6)]) hx hb dX11_syllables_262 hl (by decide) rfl (fun ls hl => ?_)
  exact w_X11_syllables_J264 X hf hkb6 (lv_sub hl [2, 3, 4, 5, 0, 6] rfl) G
set_option maxHeartbeats 4000000 in
set_option maxRecDepth 100000 in
theorem w_X11_syllables_J188 {z : Int64 × Dt} (X : aw_X p c cX11_syllables 14 s RX11 m meth (some .long)) {kb6 : Int64 → Int32 → Dt → Option (Int64 × Dt)} {t3 : Int32} {t2 : Int32} {t1 : Nat} {t0 : Int64} {x0 : Nat} {x1 : Int32} {x2 : Int32} {x3 : Int32} {x4 : Int64} {x6 : Int32} {x8 : Int32} {x9 : Int32} {x10 : Int32} {x11 : Int32} {d : Dt} (hf : f_X11_syllables_J188 σ kb6 t3 t2 t1 t0 x0 x1 x2 x3 x4 x6 x8 x9 x10 x11 d = some z) (hkb6 : ∀ (y4 : Int64) (y6 : Int32) (d : Dt), kb6 y4 y6 d = some z → ∀ (H : Heap) (locs : List Loc) (ls : Array Slot), lv_has ls 14 [(0, .ref (ad x0)), (1, .int x1), (2, .int x2), (3, .int x3), (4, .long y4), (6, .int y6)] → aw_G D cA base ad σ d s H locs → W p l e rm_X11_syllables s m args below meth c H locs 0 0 (aw_El D cA base ad σ below args s z) (F0 m 6 ls [])) {H : Heap} {locs : List Loc} {ls : Array Slot} (hl : lv_has ls 14 [(0, .ref (ad x0)), (1, .int x1), (2, .int x2), (3, .int x3), (4, .long x4), (6, .int x6), (8, .int x8), (9, .int x9), (10, .int x10), (11, .int x11)]) (G : aw_G D cA base ad σ d s H locs) : W p l e rm_X11_syllables s m args below meth c H locs 0 0 (aw_El D cA base ad σ below args s z) (F0 m 188 ls [.int t3, .int t2, .ref (ad t1), .long t0]) := by
  have hx := X.1; have hb := X.2.1; have hml := X.2.2.1; have hown := X.2.2.2.1
  unfold f_X11_syllables_J188 at hf
  obtain ⟨hc_13, hf⟩ := aw_chk_some hf
  obtain ⟨z_11, hz_12, hf⟩ := aw_bind_some hf
  refine aw_VI (As := [.int t2, .int t3]) (rest := [.long t0]) X G hl.1 cr_X11_166 (c_X11_tones l hz_12) ⟨rfl, rfl⟩ rfl rfl rfl (by decide) hc_13 rfl ⟨Nat.le_of_ble_eq_true rfl, Nat.le_of_ble_eq_true rfl⟩ (Nat.le_of_ble_eq_true rfl) dX11_syllables_188 ⟨Nat.zero_le _, Nat.zero_le _⟩ (fun H locs G => ?_)
  refine lv_i2l hx hb dX11_syllables_191 rfl ?_
  refine lv_lmul hx hb dX11_syllables_192 ?_
  refine lv_lstore (lv' := [(12, .long (t0 * z_11.1.toInt64)), (0, .ref (ad x0)), (1, .int x1), (2, .int x2), (3, .int x3), (4, .long x4), (6, .int x6), (8, .int x8), (9, .int x9), (10, .int x10), (11, .int x11)]) hx hb dX11_syllables_193 hl (by decide) rfl (fun ls hl => ?_)
  refine lv_iload hx hb dX11_syllables_195 (lv_at hl 10 rfl) ?_
  refine lv_iload hx hb dX11_syllables_197 (lv_at hl 7 rfl) ?_
  refine lv_iadd hx hb dX11_syllables_199 ?_
  refine lv_istore (lv' := [(11, .int (x11 + x8)), (12, .long (t0 * z_11.1.toInt64)), (0, .ref (ad x0)), (1, .int x1), (2, .int x2), (3, .int x3), (4, .long x4), (6, .int x6), (8, .int x8), (9, .int x9), (10, .int x10)]) hx hb dX11_syllables_200 hl (by decide) rfl (fun ls hl => ?_)
  refine lv_lload hx hb dX11_syllables_202 (lv_at hl 1 rfl) ?_
  refine lv_iload hx hb dX11_syllables_204 (lv_at hl 9 rfl) ?_
  refine lv_if_ne (tgt := 213) hx hb dX11_syllables_206 (by decide) (fun hc => ?_) (fun hc => ?_)
  · have hf := aw_ite_f hc hf
    refine lv_iload hx hb dX11_syllables_213 (lv_at hl 10 rfl) ?_
    refine lv_if_eq (tgt := 237) hx hb dX11_syllables_215 (by decide) (fun hc => ?_) (fun hc => ?_)
    · have hf := aw_ite_t hc hf
      refine lv_aload_n hx hb dX11_syllables_237 rfl (lv_at hl 2 rfl) ?_
      refine lv_iload_n hx hb dX11_syllables_238 rfl (lv_at hl 3 rfl) ?_
      refine lv_bipush (v := (36 : Int32)) hx hb dX11_syllables_239 (by decide) ?_
      refine lv_bipush (v := (43 : Int32)) hx hb dX11_syllables_241 (by decide) ?_
      refine lv_aload_n hx hb dX11_syllables_243 rfl (lv_at hl 2 rfl) ?_
      obtain ⟨hc_14, hf⟩ := aw_chk_some hf
      obtain ⟨q_15, hq_16, hf⟩ := aw_bind_some hf
      refine gf_X11_65 hx hb G hown hc_14 hq_16 dX11_syllables_244 ?_
      refine lv_iload hx hb dX11_syllables_247 (lv_at hl 0 rfl) ?_
      obtain ⟨hc_17, hf⟩ := aw_chk_some hf
      refine aw_ial hx hb G hc_17 dX11_syllables_249 ?_
      obtain ⟨z_18, hz_19, hf⟩ := aw_bind_some hf
      refine aw_VI (As := [.int x1, .int ((36 : Int32)), .int ((43 : Int32)), .int (z_11.2.1 q_15 (x11 + x8).toNatClampNeg)]) (rest := [.long (t0 * z_11.1.toInt64)]) X G hl.1 cr_X11_142 (c_X11_units l hz_19) ⟨rfl, rfl⟩ rfl rfl rfl (by decide) hc_14 rfl ⟨Nat.le_of_ble_eq_true rfl, Nat.le_of_ble_eq_true rfl⟩ (Nat.le_of_ble_eq_true rfl) dX11_syllables_250 ⟨Nat.zero_le _, Nat.zero_le _⟩ (fun H locs G => ?_)
      refine lv_i2l hx hb dX11_syllables_253 rfl ?_
      exact w_X11_syllables_J254 X hf hkb6 (lv_sub hl [2, 3, 4, 5, 6, 7] rfl) G
    · have hf := aw_ite_f hc hf
      refine lv_aload_n hx hb dX11_syllables_218 rfl (lv_at hl 2 rfl) ?_
      refine lv_iload_n hx hb dX11_syllables_219 rfl (lv_at hl 3 rfl) ?_
      refine lv_iconst (v := (0 : Int32)) hx hb dX11_syllables_220 (by decide) ?_
      refine lv_bipush (v := (7 : Int32)) hx hb dX11_syllables_221 (by decide) ?_
      refine lv_aload_n hx hb dX11_syllables_223 rfl (lv_at hl 2 rfl) ?_
      obtain ⟨hc_20, hf⟩ := aw_chk_some hf
      obtain ⟨q_21, hq_22, hf⟩ := aw_bind_some hf
      refine gf_X11_65 hx hb G hown hc_20 hq_22 dX11_syllables_224 ?_
      refine lv_iload hx hb dX11_syllables_227 (lv_at hl 0 rfl) ?_
      obtain ⟨hc_23, hf⟩ := aw_chk_some hf
      refine aw_ial hx hb G hc_23 dX11_syllables_229 ?_
      obtain ⟨z_24, hz_25, hf⟩ := aw_bind_some hf
      refine aw_VI (As := [.int x1, .int ((0 : Int32)), .int ((7 : Int32)), .int (z_11.2.1 q_21 (x11 + x8).toNatClampNeg)]) (rest := [.long (t0 * z_11.1.toInt64)]) X G hl.1 cr_X11_142 (c_X11_units l hz_25) ⟨rfl, rfl⟩ rfl rfl rfl (by decide) hc_20 rfl ⟨Nat.le_of_ble_eq_true rfl, Nat.le_of_ble_eq_true rfl⟩ (Nat.le_of_ble_eq_true rfl) dX11_syllables_230 ⟨Nat.zero_le _, Nat.zero_le _⟩ (fun H locs G => ?_)
      refine lv_i2l hx hb dX11_syllables_233 rfl ?_
      refine lv_goto (tgt := 254) hx hb dX11_syllables_234 (by decide) ?_
      exact w_X11_syllables_J254 X hf hkb6 (lv_sub hl [2, 3, 4, 5, 6, 7] rfl) G
  · have hf := aw_ite_t hc hf
    refine lv_lconst (v := (1 : Int64)) hx hb dX11_syllables_209 (by decide) ?_
    refine lv_goto (tgt := 254) hx hb dX11_syllables_210 (by decide) ?_
    exact w_X11_syllables_J254 X hf hkb6 (lv_sub hl [2, 3, 4, 5, 6, 7] rfl) G
set_option maxHeartbeats 4000000 in
set_option maxRecDepth 100000 in
theorem w_X11_syllables_J161 {z : Int64 × Dt} (X : aw_X p c cX11_syllables 14 s RX11 m meth (some .long)) {kb6 : Int64 → Int32 → Dt → Option (Int64 × Dt)} {t1 : Int64} {t0 : Int64} {x0 : Nat} {x1 : Int32} {x2 : Int32} {x3 : Int32} {x4 : Int64} {x6 : Int32} {x8 : Int32} {x9 : Int32} {x10 : Int32} {x11 : Int32} {d : Dt} (hf : f_X11_syllables_J161 σ kb6 t1 t0 x0 x1 x2 x3 x4 x6 x8 x9 x10 x11 d = some z) (hkb6 : ∀ (y4 : Int64) (y6 : Int32) (d : Dt), kb6 y4 y6 d = some z → ∀ (H : Heap) (locs : List Loc) (ls : Array Slot), lv_has ls 14 [(0, .ref (ad x0)), (1, .int x1), (2, .int x2), (3, .int x3), (4, .long y4), (6, .int y6)] → aw_G D cA base ad σ d s H locs → W p l e rm_X11_syllables s m args below meth c H locs 0 0 (aw_El D cA base ad σ below args s z) (F0 m 6 ls [])) {H : Heap} {locs : List Loc} {ls : Array Slot} (hl : lv_has ls 14 [(0, .ref (ad x0)), (1, .int x1), (2, .int x2), (3, .int x3), (4, .long x4), (6, .int x6), (8, .int x8), (9, .int x9), (10, .int x10), (11, .int x11)]) (G : aw_G D cA base ad σ d s H locs) : W p l e rm_X11_syllables s m args below meth c H locs 0 0 (aw_El D cA base ad σ below args s z) (F0 m 161 ls [.long t1, .long t0]) := by
  have hx := X.1; have hb := X.2.1; have hml := X.2.2.1; have hown := X.2.2.2.1
  unfold f_X11_syllables_J161 at hf
  refine lv_lmul hx hb dX11_syllables_161 ?_
  refine lv_lstore (lv' := [(12, .long (t0 * t1)), (0, .ref (ad x0)), (1, .int x1), (2, .int x2), (3, .int x3), (4, .long x4), (6, .int x6), (8, .int x8), (9, .int x9), (10, .int x10), (11, .int x11)]) hx hb dX11_syllables_162 hl (by decide) rfl (fun ls hl => ?_)
  refine lv_iinc (v := x11 + 1) (lv' := [(11, .int (x11 + 1)), (12, .long (t0 * t1)), (0, .ref (ad x0)), (1, .int x1), (2, .int x2), (3, .int x3), (4, .long x4), (6, .int x6), (8, .int x8), (9, .int x9), (10, .int x10)]) hx hb dX11_syllables_164 hl (k := 10) rfl rfl (by decide) rfl (fun ls hl => ?_)
  refine lv_lload hx hb dX11_syllables_167 (lv_at hl 1 rfl) ?_
  refine lv_aload_n hx hb dX11_syllables_169 rfl (lv_at hl 2 rfl) ?_
  refine lv_iload_n hx hb dX11_syllables_170 rfl (lv_at hl 3 rfl) ?_
  refine lv_iload hx hb dX11_syllables_171 (lv_at hl 8 rfl) ?_
  refine lv_iconst (v := (1 : Int32)) hx hb dX11_syllables_173 (by decide) ?_
  refine lv_icmp_ne (tgt := 187) hx hb dX11_syllables_174 (by decide) (fun hc => ?_) (fun hc => ?_)
  · have hf := aw_ite_f hc hf
    refine lv_iconst (v := (-1 : Int32)) hx hb dX11_syllables_187 (by decide) ?_
    exact w_X11_syllables_J188 X hf hkb6 (lv_sub hl [2, 3, 4, 5, 6, 7, 8, 9, 10, 0] rfl) G
  · have hf := aw_ite_t hc hf
    refine lv_aload_n hx hb dX11_syllables_177 rfl (lv_at hl 2 rfl) ?_
    obtain ⟨hc_26, hf⟩ := aw_chk_some hf
    obtain ⟨q_27, hq_28, hf⟩ := aw_bind_some hf
    refine gf_X11_65 hx hb G hown hc_26 hq_28 dX11_syllables_178 ?_
    refine lv_iload hx hb dX11_syllables_181 (lv_at hl 0 rfl) ?_
    obtain ⟨hc_29, hf⟩ := aw_chk_some hf
    refine aw_ial hx hb G hc_29 dX11_syllables_183 ?_
    refine lv_goto (tgt := 188) hx hb dX11_syllables_184 (by decide) ?_
    exact w_X11_syllables_J188 X hf hkb6 (lv_sub hl [2, 3, 4, 5, 6, 7, 8, 9, 10, 0] rfl) G
set_option maxHeartbeats 4000000 in
set_option maxRecDepth 100000 in
theorem w_X11_syllables_J118 {z : Int64 × Dt} (X : aw_X p c cX11_syllables 14 s RX11 m meth (some .long)) {kb6 : Int64 → Int32 → Dt → Option (Int64 × Dt)} {x0 : Nat} {x1 : Int32} {x2 : Int32} {x3 : Int32} {x4 : Int64} {x6 : Int32} {x8 : Int32} {x9 : Int32} {x10 : Int32} {x11 : Int32} {x12 : Int64} {d : Dt} (hf : f_X11_syllables_J118 σ kb6 x0 x1 x2 x3 x4 x6 x8 x9 x10 x11 x12 d = some z) (hkb6 : ∀ (y4 : Int64) (y6 : Int32) (d : Dt), kb6 y4 y6 d = some z → ∀ (H : Heap) (locs : List Loc) (ls : Array Slot), lv_has ls 14 [(0, .ref (ad x0)), (1, .int x1), (2, .int x2), (3, .int x3), (4, .long y4), (6, .int y6)] → aw_G D cA base ad σ d s H locs → W p l e rm_X11_syllables s m args below meth c H locs 0 0 (aw_El D cA base ad σ below args s z) (F0 m 6 ls [])) {H : Heap} {locs : List Loc} {ls : Array Slot} (hl : lv_has ls 14 [(0, .ref (ad x0)), (1, .int x1), (2, .int x2), (3, .int x3), (4, .long x4), (6, .int x6), (8, .int x8), (9, .int x9), (10, .int x10), (11, .int x11), (12, .long x12)]) (G : aw_G D cA base ad σ d s H locs) : W p l e rm_X11_syllables s m args below meth c H locs 0 0 (aw_El D cA base ad σ below args s z) (F0 m 118 ls []) := by
  have hx := X.1; have hb := X.2.1; have hml := X.2.2.1; have hown := X.2.2.2.1
  unfold f_X11_syllables_J118 at hf
  refine lv_lload hx hb dX11_syllables_118 (lv_at hl 10 rfl) ?_
  refine lv_iload hx hb dX11_syllables_120 (lv_at hl 8 rfl) ?_
  refine lv_if_eq (tgt := 145) hx hb dX11_syllables_122 (by decide) (fun hc => ?_) (fun hc => ?_)
  · have hf := aw_ite_t hc hf
    refine lv_aload_n hx hb dX11_syllables_145 rfl (lv_at hl 0 rfl) ?_
    refine lv_iload_n hx hb dX11_syllables_146 rfl (lv_at hl 1 rfl) ?_
    refine lv_iconst (v := (0 : Int32)) hx hb dX11_syllables_147 (by decide) ?_
    refine lv_bipush (v := (35 : Int32)) hx hb dX11_syllables_148 (by decide) ?_
    refine lv_aload_n hx hb dX11_syllables_150 rfl (lv_at hl 0 rfl) ?_
    obtain ⟨hc_5, hf⟩ := aw_chk_some hf
    obtain ⟨q_6, hq_7, hf⟩ := aw_bind_some hf
    refine gf_X11_65 hx hb G hown hc_5 hq_7 dX11_syllables_151 ?_
    refine lv_iload hx hb dX11_syllables_154 (lv_at hl 9 rfl) ?_
    obtain ⟨hc_8, hf⟩ := aw_chk_some hf
    refine aw_ial hx hb G hc_8 dX11_syllables_156 ?_
    obtain ⟨z_9, hz_10, hf⟩ := aw_bind_some hf
    refine aw_VI (As := [.int x1, .int ((0 : Int32)), .int ((35 : Int32)), .int (d.1 q_6 x11.toNatClampNeg)]) (rest := [.long x12]) X G hl.1 cr_X11_142 (c_X11_units l hz_10) ⟨rfl, rfl⟩ rfl rfl rfl (by decide) hc_5 rfl ⟨Nat.le_of_ble_eq_true rfl, Nat.le_of_ble_eq_true rfl⟩ (Nat.le_of_ble_eq_true rfl) dX11_syllables_157 ⟨Nat.zero_le _, Nat.zero_le _⟩ (fun H locs G => ?_)
    refine lv_i2l hx hb dX11_syllables_160 rfl ?_
    exact w_X11_syllables_J161 X hf hkb6 (lv_sub hl [0, 1, 2, 3, 4, 5, 6, 7, 8, 9] rfl) G
  · have hf := aw_ite_f hc hf
    refine lv_aload_n hx hb dX11_syllables_125 rfl (lv_at hl 0 rfl) ?_
    refine lv_iload_n hx hb dX11_syllables_126 rfl (lv_at hl 1 rfl) ?_
    refine lv_bipush (v := (8 : Int32)) hx hb dX11_syllables_127 (by decide) ?_
    refine lv_bipush (v := (11 : Int32)) hx hb dX11_syllables_129 (by decide) ?_
    refine lv_aload_n hx hb dX11_syllables_131 rfl (lv_at hl 0 rfl) ?_
    obtain ⟨hc_30, hf⟩ := aw_chk_some hf
    obtain ⟨q_31, hq_32, hf⟩ := aw_bind_some hf
    refine gf_X11_65 hx hb G hown hc_30 hq_32 dX11_syllables_132 ?_
    refine lv_iload hx hb dX11_syllables_135 (lv_at hl 9 rfl) ?_
    obtain ⟨hc_33, hf⟩ := aw_chk_some hf
    refine aw_ial hx hb G hc_33 dX11_syllables_137 ?_
    obtain ⟨z_34, hz_35, hf⟩ := aw_bind_some hf
    refine aw_VI (As := [.int x1, .int ((8 : Int32)), .int ((11 : Int32)), .int (d.1 q_31 x11.toNatClampNeg)]) (rest := [.long x12]) X G hl.1 cr_X11_142 (c_X11_units l hz_35) ⟨rfl, rfl⟩ rfl rfl rfl (by decide) hc_30 rfl ⟨Nat.le_of_ble_eq_true rfl, Nat.le_of_ble_eq_true rfl⟩ (Nat.le_of_ble_eq_true rfl) dX11_syllables_138 ⟨Nat.zero_le _, Nat.zero_le _⟩ (fun H locs G => ?_)
    refine lv_i2l hx hb dX11_syllables_141 rfl ?_
    refine lv_goto (tgt := 161) hx hb dX11_syllables_142 (by decide) ?_
    exact w_X11_syllables_J161 X hf hkb6 (lv_sub hl [0, 1, 2, 3, 4, 5, 6, 7, 8, 9] rfl) G
set_option maxHeartbeats 4000000 in
set_option maxRecDepth 100000 in
theorem w_X11_syllables_J88 {z : Int64 × Dt} (X : aw_X p c cX11_syllables 14 s RX11 m meth (some .long)) {kb6 : Int64 → Int32 → Dt → Option (Int64 × Dt)} {x0 : Nat} {x1 : Int32} {x2 : Int32} {x3 : Int32} {x4 : Int64} {x6 : Int32} {x7 : Int32} {x8 : Int32} {x9 : Int32} {x10 : Int32} {x11 : Int32} {x12 : Int64} {d : Dt} (hf : f_X11_syllables_J88 σ kb6 x0 x1 x2 x3 x4 x6 x7 x8 x9 x10 x11 x12 d = some z) (hkb6 : ∀ (y4 : Int64) (y6 : Int32) (d : Dt), kb6 y4 y6 d = some z → ∀ (H : Heap) (locs : List Loc) (ls : Array Slot), lv_has ls 14 [(0, .ref (ad x0)), (1, .int x1), (2, .int x2), (3, .int x3), (4, .long y4), (6, .int y6)] → aw_G D cA base ad σ d s H locs → W p l e rm_X11_syllables s m args below meth c H locs 0 0 (aw_El D cA base ad σ below args s z) (F0 m 6 ls [])) {H : Heap} {locs : List Loc} {ls : Array Slot} (hl : lv_has ls 14 [(0, .ref (ad x0)), (1, .int x1), (2, .int x2), (3, .int x3), (4, .long x4), (6, .int x6), (7, .int x7), (8, .int x8), (9, .int x9), (10, .int x10), (11, .int x11), (12, .long x12)]) (G : aw_G D cA base ad σ d s H locs) : W p l e rm_X11_syllables s m args below meth c H locs 0 0 (aw_El D cA base ad σ below args s z) (F0 m 88 ls []) := by
  have hx := X.1; have hb := X.2.1; have hml := X.2.2.1; have hown := X.2.2.2.1
  unfold f_X11_syllables_J88 at hf
  refine lv_iload hx hb dX11_syllables_88 (lv_at hl 6 rfl) ?_
  refine lv_iconst (v := (1 : Int32)) hx hb dX11_syllables_90 (by decide) ?_
  refine lv_icmp_ne (tgt := 118) hx hb dX11_syllables_91 (by decide) (fun hc => ?_) (fun hc => ?_)
  · have hf := aw_ite_f hc hf
    exact w_X11_syllables_J118 X hf hkb6 (lv_sub hl [0, 1, 2, 3, 4, 5, 7, 8, 9, 10, 11] rfl) G
  · have hf := aw_ite_t hc hf
    refine lv_lload hx hb dX11_syllables_94 (lv_at hl 11 rfl) ?_
    refine lv_aload_n hx hb dX11_syllables_96 rfl (lv_at hl 0 rfl) ?_
    refine lv_iload_n hx hb dX11_syllables_97 rfl (lv_at hl 1 rfl) ?_
    refine lv_iconst (v := (0 : Int32)) hx hb dX11_syllables_98 (by decide) ?_
    refine lv_bipush (v := (7 : Int32)) hx hb dX11_syllables_99 (by decide) ?_
    refine lv_aload_n hx hb dX11_syllables_101 rfl (lv_at hl 0 rfl) ?_
    obtain ⟨hc_36, hf⟩ := aw_chk_some hf
    obtain ⟨q_37, hq_38, hf⟩ := aw_bind_some hf
    refine gf_X11_65 hx hb G hown hc_36 hq_38 dX11_syllables_102 ?_
    refine lv_iload hx hb dX11_syllables_105 (lv_at hl 10 rfl) ?_
    obtain ⟨hc_39, hf⟩ := aw_chk_some hf
    refine aw_ial hx hb G hc_39 dX11_syllables_107 ?_
    obtain ⟨z_40, hz_41, hf⟩ := aw_bind_some hf
    refine aw_VI (As := [.int x1, .int ((0 : Int32)), .int ((7 : Int32)), .int (d.1 q_37 x11.toNatClampNeg)]) (rest := [.long x12]) X G hl.1 cr_X11_142 (c_X11_units l hz_41) ⟨rfl, rfl⟩ rfl rfl rfl (by decide) hc_36 rfl ⟨Nat.le_of_ble_eq_true rfl, Nat.le_of_ble_eq_true rfl⟩ (Nat.le_of_ble_eq_true rfl) dX11_syllables_108 ⟨Nat.zero_le _, Nat.zero_le _⟩ (fun H locs G => ?_)
    refine lv_i2l hx hb dX11_syllables_111 rfl ?_
    refine lv_lmul hx hb dX11_syllables_112 ?_
    refine lv_lstore (lv' := [(12, .long (x12 * z_40.1.toInt64)), (0, .ref (ad x0)), (1, .int x1), (2, .int x2), (3, .int x3), (4, .long x4), (6, .int x6), (7, .int x7), (8, .int x8), (9, .int x9), (10, .int x10), (11, .int x11)]) hx hb dX11_syllables_113 hl (by decide) rfl (fun ls hl => ?_)
    refine lv_iinc (v := x11 + 1) (lv' := [(11, .int (x11 + 1)), (12, .long (x12 * z_40.1.toInt64)), (0, .ref (ad x0)), (1, .int x1), (2, .int x2), (3, .int x3), (4, .long x4), (6, .int x6), (7, .int x7), (8, .int x8), (9, .int x9), (10, .int x10)]) hx hb dX11_syllables_115 hl (k := 11) rfl rfl (by decide) rfl (fun ls hl => ?_)
    exact w_X11_syllables_J118 X hf hkb6 (lv_sub hl [2, 3, 4, 5, 6, 7, 9, 10, 11, 0, 1] rfl) G
set_option maxHeartbeats 4000000 in
set_option maxRecDepth 100000 in
theorem w_X11_syllables_J66 {z : Int64 × Dt} (X : aw_X p c cX11_syllables 14 s RX11 m meth (some .long)) {kb6 : Int64 → Int32 → Dt → Option (Int64 × Dt)} {t0 : Int32} {x0 : Nat} {x1 : Int32} {x2 : Int32} {x3 : Int32} {x4 : Int64} {x6 : Int32} {x7 : Int32} {x8 : Int32} {x9 : Int32} {x10 : Int32} {x11 : Int32} {x12 : Int64} {d : Dt} (hf : f_X11_syllables_J66 σ kb6 t0 x0 x1 x2 x3 x4 x6 x7 x8 x9 x10 x11 x12 d = some z) (hkb6 : ∀ (y4 : Int64) (y6 : Int32) (d : Dt), kb6 y4 y6 d = some z → ∀ (H : Heap) (locs : List Loc) (ls : Array Slot), lv_has ls 14 [(0, .ref (ad x0)), (1, .int x1), (2, .int x2), (3, .int x3), (4, .long y4), (6, .int y6)] → aw_G D cA base ad σ d s H locs → W p l e rm_X11_syllables s m args below meth c H locs 0 0 (aw_El D cA base ad σ below args s z) (F0 m 6 ls [])) {H : Heap} {locs : List Loc} {ls : Array Slot} (hl : lv_has ls 14 [(0, .ref (ad x0)), (1, .int x1), (2, .int x2), (3, .int x3), (4, .long x4), (6, .int x6), (7, .int x7), (8, .int x8), (9, .int x9), (10, .int x10), (11, .int x11), (12, .long x12)]) (G : aw_G D cA base ad σ d s H locs) : W p l e rm_X11_syllables s m args below meth c H locs 0 0 (aw_El D cA base ad σ below args s z) (F0 m 66 ls [.int t0]) := by
  have hx := X.1; have hb := X.2.1; have hml := X.2.2.1; have hown := X.2.2.2.1
  unfold f_X11_syllables_J66 at hf
  refine lv_iconst (v := (1 : Int32)) hx hb dX11_syllables_66 (by decide) ?_
  refine lv_iadd hx hb dX11_syllables_67 ?_
  refine lv_iload hx hb dX11_syllables_68 (lv_at hl 7 rfl) ?_
  refine lv_iadd hx hb dX11_syllables_70 ?_
  refine lv_iload hx hb dX11_syllables_71 (lv_at hl 8 rfl) ?_
  refine lv_iadd hx hb dX11_syllables_73 ?_
  refine lv_iload_n hx hb dX11_syllables_74 rfl (lv_at hl 3 rfl) ?_
  refine lv_icmp_ne (tgt := 264) hx hb dX11_syllables_75 (by decide) (fun hc => ?_) (fun hc => ?_)
  · have hf := aw_ite_f hc hf
    exact w_X11_syllables_J264 X hf hkb6 (lv_sub hl [0, 1, 2, 3, 4, 5] rfl) G
  · have hf := aw_ite_t hc hf
    refine lv_iload hx hb dX11_syllables_78 (lv_at hl 9 rfl) ?_
    refine lv_if_ne (tgt := 88) hx hb dX11_syllables_80 (by decide) (fun hc => ?_) (fun hc => ?_)
    · have hf := aw_ite_f hc hf
      exact w_X11_syllables_J88 X hf hkb6 (lv_sub hl [0, 1, 2, 3, 4, 5, 6, 7, 8, 9, 10, 11] rfl) G
    · have hf := aw_ite_t hc hf
      refine lv_iload hx hb dX11_syllables_83 (lv_at hl 6 rfl) ?_
      refine lv_if_ne (tgt := 264) hx hb dX11_syllables_85 (by decide) (fun hc => ?_) (fun hc => ?_)
      · have hf := aw_ite_f hc hf
        exact w_X11_syllables_J264 X hf hkb6 (lv_sub hl [0, 1, 2, 3, 4, 5] rfl) G
      · have hf := aw_ite_t hc hf
        exact w_X11_syllables_J88 X hf hkb6 (lv_sub hl [0, 1, 2, 3, 4, 5, 6, 7, 8, 9, 10, 11] rfl) G
set_option maxHeartbeats 4000000 in
set_option maxRecDepth 100000 in
theorem w_X11_syllables_J47 {z : Int64 × Dt} (X : aw_X p c cX11_syllables 14 s RX11 m meth (some .long)) {kb6 : Int64 → Int32 → Dt → Option (Int64 × Dt)} {t0 : Int32} {x0 : Nat} {x1 : Int32} {x2 : Int32} {x3 : Int32} {x4 : Int64} {x6 : Int32} {x7 : Int32} {x8 : Int32} {x9 : Int32} {d : Dt} (hf : f_X11_syllables_J47 σ kb6 t0 x0 x1 x2 x3 x4 x6 x7 x8 x9 d = some z) (hkb6 : ∀ (y4 : Int64) (y6 : Int32) (d : Dt), kb6 y4 y6 d = some z → ∀ (H : Heap) (locs : List Loc) (ls : Array Slot), lv_has ls 14 [(0, .ref (ad x0)), (1, .int x1), (2, .int x2), (3, .int x3), (4, .long y4), (6, .int y6)] → aw_G D cA base ad σ d s H locs → W p l e rm_X11_syllables s m args below meth c H locs 0 0 (aw_El D cA base ad σ below args s z) (F0 m 6 ls [])) {H : Heap} {locs : List Loc} {ls : Array Slot} (hl : lv_has ls 14 [(0, .ref (ad x0)), (1, .int x1), (2, .int x2), (3, .int x3), (4, .long x4), (6, .int x6), (7, .int x7), (8, .int x8), (9, .int x9)]) (G : aw_G D cA base ad σ d s H locs) : W p l e rm_X11_syllables s m args below meth c H locs 0 0 (aw_El D cA base ad σ below args s z) (F0 m 47 ls [.int t0]) := by
  have hx := X.1; have hb := X.2.1; have hml := X.2.2.1; have hown := X.2.2.2.1
  unfold f_X11_syllables_J47 at hf
  refine lv_istore (lv' := [(10, .int t0), (0, .ref (ad x0)), (1, .int x1), (2, .int x2), (3, .int x3), (4, .long x4), (6, .int x6), (7, .int x7), (8, .int x8), (9, .int x9)]) hx hb dX11_syllables_47 hl (by decide) rfl (fun ls hl => ?_)
  refine lv_iload_n hx hb dX11_syllables_49 rfl (lv_at hl 3 rfl) ?_
  refine lv_istore (lv' := [(11, .int x2), (10, .int t0), (0, .ref (ad x0)), (1, .int x1), (2, .int x2), (3, .int x3), (4, .long x4), (6, .int x6), (7, .int x7), (8, .int x8), (9, .int x9)]) hx hb dX11_syllables_50 hl (by decide) rfl (fun ls hl => ?_)
  refine lv_lconst (v := (1 : Int64)) hx hb dX11_syllables_52 (by decide) ?_
  refine lv_lstore (lv' := [(12, .long ((1 : Int64))), (11, .int x2), (10, .int t0), (0, .ref (ad x0)), (1, .int x1), (2, .int x2), (3, .int x3), (4, .long x4), (6, .int x6), (7, .int x7), (8, .int x8), (9, .int x9)]) hx hb dX11_syllables_53 hl (by decide) rfl (fun ls hl => ?_)
  refine lv_iload hx hb dX11_syllables_55 (lv_at hl 2 rfl) ?_
  refine lv_if_eq (tgt := 65) hx hb dX11_syllables_57 (by decide) (fun hc => ?_) (fun hc => ?_)
  · have hf := aw_ite_t hc hf
    refine lv_iconst (v := (0 : Int32)) hx hb dX11_syllables_65 (by decide) ?_
    exact w_X11_syllables_J66 X hf hkb6 (lv_sub hl [3, 4, 5, 6, 7, 8, 9, 10, 11, 2, 1, 0] rfl) G
  · have hf := aw_ite_f hc hf
    refine lv_iload hx hb dX11_syllables_60 (lv_at hl 9 rfl) ?_
    refine lv_goto (tgt := 66) hx hb dX11_syllables_62 (by decide) ?_
    exact w_X11_syllables_J66 X hf hkb6 (lv_sub hl [3, 4, 5, 6, 7, 8, 9, 10, 11, 2, 1, 0] rfl) G
set_option maxHeartbeats 4000000 in
set_option maxRecDepth 100000 in
theorem w_X11_syllables_B6 {z : Int64 × Dt} (X : aw_X p c cX11_syllables 14 s RX11 m meth (some .long)) {kb6 : Int64 → Int32 → Dt → Option (Int64 × Dt)} {k6 : Int64 → Dt → Option (Int64 × Dt)} {x0 : Nat} {x1 : Int32} {x2 : Int32} {x3 : Int32} {x4 : Int64} {x6 : Int32} {d : Dt} (hf : f_X11_syllables_B6 σ kb6 k6 x0 x1 x2 x3 x4 x6 d = some z) (hkb6 : ∀ (y4 : Int64) (y6 : Int32) (d : Dt), kb6 y4 y6 d = some z → ∀ (H : Heap) (locs : List Loc) (ls : Array Slot), lv_has ls 14 [(0, .ref (ad x0)), (1, .int x1), (2, .int x2), (3, .int x3), (4, .long y4), (6, .int y6)] → aw_G D cA base ad σ d s H locs → W p l e rm_X11_syllables s m args below meth c H locs 0 0 (aw_El D cA base ad σ below args s z) (F0 m 6 ls [])) (hk6 : ∀ (y4 : Int64) (d : Dt), k6 y4 d = some z → ∀ (H : Heap) (locs : List Loc) (ls : Array Slot), lv_has ls 14 [(4, .long y4)] → aw_G D cA base ad σ d s H locs → W p l e rm_X11_syllables s m args below meth c H locs 0 0 (aw_El D cA base ad σ below args s z) (F0 m 270 ls [])) {H : Heap} {locs : List Loc} {ls : Array Slot} (hl : lv_has ls 14 [(0, .ref (ad x0)), (1, .int x1), (2, .int x2), (3, .int x3), (4, .long x4), (6, .int x6)]) (G : aw_G D cA base ad σ d s H locs) : W p l e rm_X11_syllables s m args below meth c H locs 0 0 (aw_El D cA base ad σ below args s z) (F0 m 6 ls []) := by
  have hx := X.1; have hb := X.2.1; have hml := X.2.2.1; have hown := X.2.2.2.1
  unfold f_X11_syllables_B6 at hf
  refine lv_iload hx hb dX11_syllables_6 (lv_at hl 5 rfl) ?_
  refine lv_bipush (v := (8 : Int32)) hx hb dX11_syllables_8 (by decide) ?_
  refine lv_icmp_ge (tgt := 270) hx hb dX11_syllables_10 (by decide) (fun hc => ?_) (fun hc => ?_)
  · have hf := aw_ite_t hc hf
    exact hk6 _ _ hf _ _ _ (lv_sub hl [4] rfl) G
  · have hf := aw_ite_f hc hf
    refine lv_iload hx hb dX11_syllables_13 (lv_at hl 5 rfl) ?_
    refine lv_iconst (v := (1 : Int32)) hx hb dX11_syllables_15 (by decide) ?_
    refine lv_iand hx hb dX11_syllables_16 ?_
    refine lv_istore (lv' := [(7, .int (x6 &&& ((1 : Int32)))), (0, .ref (ad x0)), (1, .int x1), (2, .int x2), (3, .int x3), (4, .long x4), (6, .int x6)]) hx hb dX11_syllables_17 hl (by decide) rfl (fun ls hl => ?_)
    refine lv_iload hx hb dX11_syllables_19 (lv_at hl 6 rfl) ?_
    refine lv_iconst (v := (1 : Int32)) hx hb dX11_syllables_21 (by decide) ?_
    refine lv_ishr hx hb dX11_syllables_22 ?_
    refine lv_iconst (v := (1 : Int32)) hx hb dX11_syllables_23 (by decide) ?_
    refine lv_iand hx hb dX11_syllables_24 ?_
    refine lv_istore (lv' := [(8, .int ((x6 >>> (((1 : Int32)) &&& 31)) &&& ((1 : Int32)))), (7, .int (x6 &&& ((1 : Int32)))), (0, .ref (ad x0)), (1, .int x1), (2, .int x2), (3, .int x3), (4, .long x4), (6, .int x6)]) hx hb dX11_syllables_25 hl (by decide) rfl (fun ls hl => ?_)
    refine lv_iload hx hb dX11_syllables_27 (lv_at hl 7 rfl) ?_
    refine lv_iconst (v := (2 : Int32)) hx hb dX11_syllables_29 (by decide) ?_
    refine lv_ishr hx hb dX11_syllables_30 ?_
    refine lv_istore (lv' := [(9, .int (x6 >>> (((2 : Int32)) &&& 31))), (8, .int ((x6 >>> (((1 : Int32)) &&& 31)) &&& ((1 : Int32)))), (7, .int (x6 &&& ((1 : Int32)))), (0, .ref (ad x0)), (1, .int x1), (2, .int x2), (3, .int x3), (4, .long x4), (6, .int x6)]) hx hb dX11_syllables_31 hl (by decide) rfl (fun ls hl => ?_)
    refine lv_aload_n hx hb dX11_syllables_33 rfl (lv_at hl 3 rfl) ?_
    obtain ⟨hc_1, hf⟩ := aw_chk_some hf
    obtain ⟨q_2, hq_3, hf⟩ := aw_bind_some hf
    refine gf_X11_38 hx hb G hown hc_1 hq_3 dX11_syllables_34 ?_
    refine lv_iload_n hx hb dX11_syllables_37 rfl (lv_at hl 4 rfl) ?_
    obtain ⟨hc_4, hf⟩ := aw_chk_some hf
    refine aw_ial hx hb G hc_4 dX11_syllables_38 ?_
    refine lv_if_ne (tgt := 46) hx hb dX11_syllables_39 (by decide) (fun hc => ?_) (fun hc => ?_)
    · have hf := aw_ite_f hc hf
      refine lv_iconst (v := (0 : Int32)) hx hb dX11_syllables_46 (by decide) ?_
      exact w_X11_syllables_J47 X hf hkb6 (lv_sub hl [3, 4, 5, 6, 7, 8, 2, 1, 0] rfl) G
    · have hf := aw_ite_t hc hf
      refine lv_iconst (v := (1 : Int32)) hx hb dX11_syllables_42 (by decide) ?_
      refine lv_goto (tgt := 47) hx hb dX11_syllables_43 (by decide) ?_
      exact w_X11_syllables_J47 X hf hkb6 (lv_sub hl [3, 4, 5, 6, 7, 8, 2, 1, 0] rfl) G
theorem w_X11_syllables_L6 {z : Int64 × Dt} (X : aw_X p c cX11_syllables 14 s RX11 m meth (some .long)) {k6 : Int64 → Dt → Option (Int64 × Dt)} {x0 : Nat} {x1 : Int32} {x2 : Int32} {x3 : Int32} (n : Nat) {x4 : Int64} {x6 : Int32} {d : Dt} (hf : f_X11_syllables_L6 σ n k6 x0 x1 x2 x3 x4 x6 d = some z) (hk6 : ∀ (y4 : Int64) (d : Dt), k6 y4 d = some z → ∀ (H : Heap) (locs : List Loc) (ls : Array Slot), lv_has ls 14 [(4, .long y4)] → aw_G D cA base ad σ d s H locs → W p l e rm_X11_syllables s m args below meth c H locs 0 0 (aw_El D cA base ad σ below args s z) (F0 m 270 ls [])) {H : Heap} {locs : List Loc} {ls : Array Slot} (hl : lv_has ls 14 [(0, .ref (ad x0)), (1, .int x1), (2, .int x2), (3, .int x3), (4, .long x4), (6, .int x6)]) (G : aw_G D cA base ad σ d s H locs) : W p l e rm_X11_syllables s m args below meth c H locs 0 0 (aw_El D cA base ad σ below args s z) (F0 m 6 ls []) := by
  induction n generalizing x4 x6 d H locs ls with
  | zero => exact absurd (show (none : Option (Int64 × Dt)) = some z from hf) (by simp)
  | succ n ih => exact w_X11_syllables_B6 X (kb6 := f_X11_syllables_L6 σ n k6 x0 x1 x2 x3) hf  (fun x4 x6 d hf H locs ls hl G => ih hf hl G) hk6 hl G
end W_X11_syllables
set_option maxHeartbeats 4000000 in
set_option maxRecDepth 100000 in
theorem c_X11_syllables (l : Launch) {σ : Sg} {x0 : Nat} {x1 : Int32} {x2 : Int32} {x3 : Int32} {d : Dt} {z : Int64 × Dt} (hf : f_X11_syllables σ x0 x1 x2 x3 d = some z) : aw_Ml l yX11_syllables (Cond.code yX11_syllables cX11_syllables 14 (some .long)) rm_X11_syllables (fun ad => [.ref (ad x0), .int x1, .int x2, .int x3]) σ d z := by
  intro D cA base ad
  refine aw_ofW (own := RX11) (cc := cX11_syllables) (nL := 14) (ret := some .long) (by decide) rfl rfl ?_
  intro p e s m below meth c X hnm G
  have hx := X.1; have hb := X.2.1; have hml := X.2.2.1; have hown := X.2.2.2.1
  refine aw_ls (lv := [(0, .ref (ad x0)), (1, .int x1), (2, .int x2), (3, .int x3)]) (Nat.le_of_ble_eq_true rfl) rfl (fun ls hl => ?_)
  unfold f_X11_syllables at hf
  refine lv_lconst (v := (0 : Int64)) hx hb dX11_syllables_0 (by decide) ?_
  refine lv_lstore (lv' := [(4, .long ((0 : Int64))), (0, .ref (ad x0)), (1, .int x1), (2, .int x2), (3, .int x3)]) hx hb dX11_syllables_1 hl (by decide) rfl (fun ls hl => ?_)
  refine lv_iconst (v := (0 : Int32)) hx hb dX11_syllables_3 (by decide) ?_
  refine lv_istore (lv' := [(6, .int ((0 : Int32))), (4, .long ((0 : Int64))), (0, .ref (ad x0)), (1, .int x1), (2, .int x2), (3, .int x3)]) hx hb dX11_syllables_4 hl (by decide) rfl (fun ls hl => ?_)
  refine w_X11_syllables_L6 X aw_FU hf  (fun x4_42 d_43 hf H locs ls hl G => ?_) (lv_sub hl [2, 3, 4, 5, 1, 0] rfl) G
  refine lv_lload hx hb dX11_syllables_270 (lv_at hl 0 rfl) ?_
  exact aw_retl X G hf dX11_syllables_272
def rm_X11_readings : Room := { frames := 4, cells := 0, slots := 0, locals := 103 }
def f_X11_readings_J76 (σ : Sg) (kb53 : Int32 → Dt → Option (Int64 × Dt)) (t2 : Int64) (t1 : Int32) (t0 : Nat) (x0 : Nat) (x1 : Int32) (x3 : Int32) (x4 : Int32) (d : Dt) : Option (Int64 × Dt) :=
  aw_chk (aw_I σ 21 t0 t1) (kb53 (x4 + 1) (aw_sL d t0 t1.toNatClampNeg t2))
def f_X11_readings_B53 (σ : Sg) (kb53 : Int32 → Dt → Option (Int64 × Dt)) (k53 : Dt → Option (Int64 × Dt)) (x0 : Nat) (x1 : Int32) (x3 : Int32) (x4 : Int32) (d : Dt) : Option (Int64 × Dt) :=
  if ((16 : Int32)) < x4 then k53 d else aw_chk (aw_O σ 11 32 x0) ((σ.2.2 x0 24).bind (fun q_17 => if x4 = 0 then f_X11_readings_J76 σ kb53 ((1 : Int64)) x4 q_17 x0 x1 x3 x4 d else f_X11_readings_J76 σ kb53 ((0 : Int64)) x4 q_17 x0 x1 x3 x4 d))
def f_X11_readings_L53 (σ : Sg) (n : Nat) (k53 : Dt → Option (Int64 × Dt)) (x0 : Nat) (x1 : Int32) (x3 : Int32) : Int32 → Dt → Option (Int64 × Dt) := match n with
  | 0 => fun _ _ => none
  | n + 1 => fun x4 d => f_X11_readings_B53 σ (f_X11_readings_L53 σ n k53 x0 x1 x3) k53 x0 x1 x3 x4 d
def f_X11_readings_B98 (σ : Sg) (kb98 : Int32 → Dt → Option (Int64 × Dt)) (k98 : Dt → Option (Int64 × Dt)) (x0 : Nat) (x1 : Int32) (x3 : Int32) (x4 : Int64) (x6 : Int32) (x7 : Int32) (d : Dt) : Option (Int64 × Dt) :=
  if ((16 : Int32)) < x7 then k98 d else aw_chk (aw_O σ 11 32 x0) ((σ.2.2 x0 25).bind (fun q_22 => aw_chk (aw_I σ 21 q_22 x7) (kb98 (x7 + 1) (aw_sL d q_22 x7.toNatClampNeg ((0 : Int64))))))
def f_X11_readings_L98 (σ : Sg) (n : Nat) (k98 : Dt → Option (Int64 × Dt)) (x0 : Nat) (x1 : Int32) (x3 : Int32) (x4 : Int64) (x6 : Int32) : Int32 → Dt → Option (Int64 × Dt) := match n with
  | 0 => fun _ _ => none
  | n + 1 => fun x7 d => f_X11_readings_B98 σ (f_X11_readings_L98 σ n k98 x0 x1 x3 x4 x6) k98 x0 x1 x3 x4 x6 x7 d
def f_X11_readings_B131 (σ : Sg) (kb131 : Int32 → Dt → Option (Int64 × Dt)) (k131 : Dt → Option (Int64 × Dt)) (x0 : Nat) (x1 : Int32) (x3 : Int32) (x4 : Int64) (x6 : Int32) (x7 : Int32) (x8 : Int32) (d : Dt) : Option (Int64 × Dt) :=
  if ((4 : Int32)) < x8 then k131 d else if x3 < (x7 + x8) then k131 d else aw_chk (aw_O σ 11 32 x0) ((σ.2.2 x0 24).bind (fun q_27 => aw_chk (aw_I σ 21 q_27 x7) (if (lg_cmp (d.2 q_27 x7.toNatClampNeg) ((0 : Int64))) ≤ 0 then k131 d else (σ.2.2 x0 25).bind (fun q_30 => aw_chk (aw_I σ 21 q_30 (x7 + x8)) ((f_X11_syllables σ x0 x1 x7 x8 d).bind (fun z_33 => kb131 (x8 + 1) (aw_sL z_33.2 q_30 (x7 + x8).toNatClampNeg ((d.2 q_30 (x7 + x8).toNatClampNeg) + ((d.2 q_27 x7.toNatClampNeg) * z_33.1)))))))))
def f_X11_readings_L131 (σ : Sg) (n : Nat) (k131 : Dt → Option (Int64 × Dt)) (x0 : Nat) (x1 : Int32) (x3 : Int32) (x4 : Int64) (x6 : Int32) (x7 : Int32) : Int32 → Dt → Option (Int64 × Dt) := match n with
  | 0 => fun _ _ => none
  | n + 1 => fun x8 d => f_X11_readings_B131 σ (f_X11_readings_L131 σ n k131 x0 x1 x3 x4 x6 x7) k131 x0 x1 x3 x4 x6 x7 x8 d
def f_X11_readings_J194 (σ : Sg) (kb122 : Int32 → Dt → Option (Int64 × Dt)) (x0 : Nat) (x1 : Int32) (x3 : Int32) (x4 : Int64) (x6 : Int32) (x7 : Int32) (d : Dt) : Option (Int64 × Dt) :=
  kb122 (x7 + 1) d
def f_X11_readings_B122 (σ : Sg) (kb122 : Int32 → Dt → Option (Int64 × Dt)) (k122 : Dt → Option (Int64 × Dt)) (x0 : Nat) (x1 : Int32) (x3 : Int32) (x4 : Int64) (x6 : Int32) (x7 : Int32) (d : Dt) : Option (Int64 × Dt) :=
  if x3 ≤ x7 then k122 d else f_X11_readings_L131 σ aw_FU (fun d_35 => f_X11_readings_J194 σ kb122 x0 x1 x3 x4 x6 x7 d_35) x0 x1 x3 x4 x6 x7 ((1 : Int32)) d
def f_X11_readings_L122 (σ : Sg) (n : Nat) (k122 : Dt → Option (Int64 × Dt)) (x0 : Nat) (x1 : Int32) (x3 : Int32) (x4 : Int64) (x6 : Int32) : Int32 → Dt → Option (Int64 × Dt) := match n with
  | 0 => fun _ _ => none
  | n + 1 => fun x7 d => f_X11_readings_B122 σ (f_X11_readings_L122 σ n k122 x0 x1 x3 x4 x6) k122 x0 x1 x3 x4 x6 x7 d
def f_X11_readings_B203 (σ : Sg) (kb203 : Int32 → Dt → Option (Int64 × Dt)) (k203 : Dt → Option (Int64 × Dt)) (x0 : Nat) (x1 : Int32) (x3 : Int32) (x4 : Int64) (x6 : Int32) (x7 : Int32) (d : Dt) : Option (Int64 × Dt) :=
  if ((16 : Int32)) < x7 then k203 d else aw_chk (aw_O σ 11 32 x0) ((σ.2.2 x0 24).bind (fun q_38 => (σ.2.2 x0 25).bind (fun q_40 => aw_chk (aw_I σ 21 q_40 x7) (aw_chk (aw_I σ 21 q_38 x7) (kb203 (x7 + 1) (aw_sL d q_38 x7.toNatClampNeg (d.2 q_40 x7.toNatClampNeg)))))))
def f_X11_readings_L203 (σ : Sg) (n : Nat) (k203 : Dt → Option (Int64 × Dt)) (x0 : Nat) (x1 : Int32) (x3 : Int32) (x4 : Int64) (x6 : Int32) : Int32 → Dt → Option (Int64 × Dt) := match n with
  | 0 => fun _ _ => none
  | n + 1 => fun x7 d => f_X11_readings_B203 σ (f_X11_readings_L203 σ n k203 x0 x1 x3 x4 x6) k203 x0 x1 x3 x4 x6 x7 d
def f_X11_readings_B89 (σ : Sg) (kb89 : Int64 → Int32 → Dt → Option (Int64 × Dt)) (k89 : Int64 → Dt → Option (Int64 × Dt)) (x0 : Nat) (x1 : Int32) (x3 : Int32) (x4 : Int64) (x6 : Int32) (d : Dt) : Option (Int64 × Dt) :=
  if ((4 : Int32)) ≤ x6 then k89 x4 d else f_X11_readings_L98 σ aw_FU (fun d_25 => f_X11_readings_L122 σ aw_FU (fun d_36 => f_X11_readings_L203 σ aw_FU (fun d_44 => aw_chk (aw_O σ 11 32 x0) ((σ.2.2 x0 24).bind (fun q_46 => aw_chk (aw_I σ 21 q_46 x3) (kb89 (x4 + (d_44.2 q_46 x3.toNatClampNeg)) (x6 + 1) d_44)))) x0 x1 x3 x4 x6 ((0 : Int32)) d_36) x0 x1 x3 x4 x6 ((0 : Int32)) d_25) x0 x1 x3 x4 x6 ((0 : Int32)) d
def f_X11_readings_L89 (σ : Sg) (n : Nat) (k89 : Int64 → Dt → Option (Int64 × Dt)) (x0 : Nat) (x1 : Int32) (x3 : Int32) : Int64 → Int32 → Dt → Option (Int64 × Dt) := match n with
  | 0 => fun _ _ _ => none
  | n + 1 => fun x4 x6 d => f_X11_readings_B89 σ (f_X11_readings_L89 σ n k89 x0 x1 x3) k89 x0 x1 x3 x4 x6 d
def f_X11_readings_J22 (σ : Sg) (t1 : Int32) (t0 : Nat) (x0 : Nat) (x1 : Int32) (x2 : Int32) (d : Dt) : Option (Int64 × Dt) :=
  aw_chk (aw_O σ 11 32 t0) ((f_X11_fails σ t0 t1 d).bind (fun z_4 => if z_4.1 = 0 then aw_chk (aw_O σ 11 32 x0) ((σ.2.2 x0 13).bind (fun q_8 => aw_chk (aw_I σ 20 q_8 x1) ((f_X11_spells σ x0 x1 (z_4.2.1 q_8 x1.toNatClampNeg) x2 ((0 : Int32)) z_4.2).bind (fun z_11 => (σ.2.2 x0 22).bind (fun q_13 => aw_chk (aw_I σ 20 q_13 ((0 : Int32))) (f_X11_readings_L53 σ aw_FU (fun d_20 => f_X11_readings_L89 σ aw_FU (fun x4_49 d_50 => some (x4_49, d_50)) x0 x1 (z_11.2.1 q_13 ((0 : Int32)).toNatClampNeg) ((0 : Int64)) ((0 : Int32)) d_20) x0 x1 (z_11.2.1 q_13 ((0 : Int32)).toNatClampNeg) ((0 : Int32)) z_11.2)))))) else some ((0 : Int64), z_4.2)))
def f_X11_readings_J21 (σ : Sg) (t0 : Nat) (x0 : Nat) (x1 : Int32) (x2 : Int32) (d : Dt) : Option (Int64 × Dt) :=
  f_X11_readings_J22 σ ((1 : Int32)) t0 x0 x1 x2 d
def f_X11_readings (σ : Sg) (x0 : Nat) (x1 : Int32) (x2 : Int32) (d : Dt) : Option (Int64 × Dt) :=
  aw_chk (aw_O σ 11 32 x0) ((f_X11_isDesign σ x0 x1 d).bind (fun z_1 => if z_1.1 = 0 then f_X11_readings_J21 σ x0 x0 x1 x2 z_1.2 else (f_X11_isWord σ x0 x2 z_1.2).bind (fun z_51 => if z_51.1 = 0 then f_X11_readings_J21 σ x0 x0 x1 x2 z_51.2 else f_X11_readings_J22 σ ((0 : Int32)) x0 x0 x1 x2 z_51.2)))
section W_X11_readings
variable {p : Program} {l : Launch} {e : Env} {s : State} {m : MethodId} {args : Array Value} {below : List Frame} {meth : Method} {c : Code}
variable {D : va_G} {cA : Nat → ClassId} {base : Nat} {ad : Nat → Nat} {σ : Sg}
set_option maxHeartbeats 4000000 in
set_option maxRecDepth 100000 in
theorem w_X11_readings_J76 {z : Int64 × Dt} (X : aw_X p c cX11_readings 9 s RX11 m meth (some .long)) {kb53 : Int32 → Dt → Option (Int64 × Dt)} {t2 : Int64} {t1 : Int32} {t0 : Nat} {x0 : Nat} {x1 : Int32} {x3 : Int32} {x4 : Int32} {d : Dt} (hf : f_X11_readings_J76 σ kb53 t2 t1 t0 x0 x1 x3 x4 d = some z) (hkb53 : ∀ (y4 : Int32) (d : Dt), kb53 y4 d = some z → ∀ (H : Heap) (locs : List Loc) (ls : Array Slot), lv_has ls 9 [(0, .ref (ad x0)), (1, .int x1), (3, .int x3), (4, .int y4)] → aw_G D cA base ad σ d s H locs → W p l e rm_X11_readings s m args below meth c H locs 0 0 (aw_El D cA base ad σ below args s z) (F0 m 53 ls [])) {H : Heap} {locs : List Loc} {ls : Array Slot} (hl : lv_has ls 9 [(0, .ref (ad x0)), (1, .int x1), (3, .int x3), (4, .int x4)]) (G : aw_G D cA base ad σ d s H locs) : W p l e rm_X11_readings s m args below meth c H locs 0 0 (aw_El D cA base ad σ below args s z) (F0 m 76 ls [.long t2, .int t1, .ref (ad t0)]) := by
  have hx := X.1; have hb := X.2.1; have hml := X.2.2.1; have hown := X.2.2.2.1
  unfold f_X11_readings_J76 at hf
  obtain ⟨hc_19, hf⟩ := aw_chk_some hf
  refine aw_las hx hb G hc_19 dX11_readings_76 (fun H locs G => ?_)
  refine lv_iinc (v := x4 + 1) (lv' := [(4, .int (x4 + 1)), (0, .ref (ad x0)), (1, .int x1), (3, .int x3)]) hx hb dX11_readings_77 hl (k := 3) rfl rfl (by decide) rfl (fun ls hl => ?_)
  refine lv_goto (tgt := 53) hx hb dX11_readings_80 (by decide) ?_
  exact hkb53 _ _ hf _ _ _ (lv_sub hl [1, 2, 3, 0] rfl) G
set_option maxHeartbeats 4000000 in
set_option maxRecDepth 100000 in
theorem w_X11_readings_B53 {z : Int64 × Dt} (X : aw_X p c cX11_readings 9 s RX11 m meth (some .long)) {kb53 : Int32 → Dt → Option (Int64 × Dt)} {k53 : Dt → Option (Int64 × Dt)} {x0 : Nat} {x1 : Int32} {x3 : Int32} {x4 : Int32} {d : Dt} (hf : f_X11_readings_B53 σ kb53 k53 x0 x1 x3 x4 d = some z) (hkb53 : ∀ (y4 : Int32) (d : Dt), kb53 y4 d = some z → ∀ (H : Heap) (locs : List Loc) (ls : Array Slot), lv_has ls 9 [(0, .ref (ad x0)), (1, .int x1), (3, .int x3), (4, .int y4)] → aw_G D cA base ad σ d s H locs → W p l e rm_X11_readings s m args below meth c H locs 0 0 (aw_El D cA base ad σ below args s z) (F0 m 53 ls [])) (hk53 : ∀ (d : Dt), k53 d = some z → ∀ (H : Heap) (locs : List Loc) (ls : Array Slot), lv_has ls 9 [(0, .ref (ad x0)), (1, .int x1), (3, .int x3)] → aw_G D cA base ad σ d s H locs → W p l e rm_X11_readings s m args below meth c H locs 0 0 (aw_El D cA base ad σ below args s z) (F0 m 83 ls [])) {H : Heap} {locs : List Loc} {ls : Array Slot} (hl : lv_has ls 9 [(0, .ref (ad x0)), (1, .int x1), (3, .int x3), (4, .int x4)]) (G : aw_G D cA base ad σ d s H locs) : W p l e rm_X11_readings s m args below meth c H locs 0 0 (aw_El D cA base ad σ below args s z) (F0 m 53 ls []) := by
  have hx := X.1; have hb := X.2.1; have hml := X.2.2.1; have hown := X.2.2.2.1
  unfold f_X11_readings_B53 at hf
  refine lv_iload hx hb dX11_readings_53 (lv_at hl 3 rfl) ?_
  refine lv_bipush (v := (16 : Int32)) hx hb dX11_readings_55 (by decide) ?_
  refine lv_icmp_gt (tgt := 83) hx hb dX11_readings_57 (by decide) (fun hc => ?_) (fun hc => ?_)
  · have hf := aw_ite_t hc hf
    exact hk53 _ hf _ _ _ (lv_sub hl [0, 1, 2] rfl) G
  · have hf := aw_ite_f hc hf
    refine lv_aload_n hx hb dX11_readings_60 rfl (lv_at hl 0 rfl) ?_
    obtain ⟨hc_16, hf⟩ := aw_chk_some hf
    obtain ⟨q_17, hq_18, hf⟩ := aw_bind_some hf
    refine gf_X11_74 hx hb G hown hc_16 hq_18 dX11_readings_61 ?_
    refine lv_iload hx hb dX11_readings_64 (lv_at hl 3 rfl) ?_
    refine lv_iload hx hb dX11_readings_66 (lv_at hl 3 rfl) ?_
    refine lv_if_ne (tgt := 75) hx hb dX11_readings_68 (by decide) (fun hc => ?_) (fun hc => ?_)
    · have hf := aw_ite_f hc hf
      refine lv_lconst (v := (0 : Int64)) hx hb dX11_readings_75 (by decide) ?_
      exact w_X11_readings_J76 X hf hkb53 (lv_sub hl [0, 1, 2, 3] rfl) G
    · have hf := aw_ite_t hc hf
      refine lv_lconst (v := (1 : Int64)) hx hb dX11_readings_71 (by decide) ?_
      refine lv_goto (tgt := 76) hx hb dX11_readings_72 (by decide) ?_
      exact w_X11_readings_J76 X hf hkb53 (lv_sub hl [0, 1, 2, 3] rfl) G
theorem w_X11_readings_L53 {z : Int64 × Dt} (X : aw_X p c cX11_readings 9 s RX11 m meth (some .long)) {k53 : Dt → Option (Int64 × Dt)} {x0 : Nat} {x1 : Int32} {x3 : Int32} (n : Nat) {x4 : Int32} {d : Dt} (hf : f_X11_readings_L53 σ n k53 x0 x1 x3 x4 d = some z) (hk53 : ∀ (d : Dt), k53 d = some z → ∀ (H : Heap) (locs : List Loc) (ls : Array Slot), lv_has ls 9 [(0, .ref (ad x0)), (1, .int x1), (3, .int x3)] → aw_G D cA base ad σ d s H locs → W p l e rm_X11_readings s m args below meth c H locs 0 0 (aw_El D cA base ad σ below args s z) (F0 m 83 ls [])) {H : Heap} {locs : List Loc} {ls : Array Slot} (hl : lv_has ls 9 [(0, .ref (ad x0)), (1, .int x1), (3, .int x3), (4, .int x4)]) (G : aw_G D cA base ad σ d s H locs) : W p l e rm_X11_readings s m args below meth c H locs 0 0 (aw_El D cA base ad σ below args s z) (F0 m 53 ls []) := by
  induction n generalizing x4 d H locs ls with
  | zero => exact absurd (show (none : Option (Int64 × Dt)) = some z from hf) (by simp)
  | succ n ih => exact w_X11_readings_B53 X (kb53 := f_X11_readings_L53 σ n k53 x0 x1 x3) hf  (fun x4 d hf H locs ls hl G => ih hf hl G) hk53 hl G
set_option maxHeartbeats 4000000 in
set_option maxRecDepth 100000 in
theorem w_X11_readings_B98 {z : Int64 × Dt} (X : aw_X p c cX11_readings 9 s RX11 m meth (some .long)) {kb98 : Int32 → Dt → Option (Int64 × Dt)} {k98 : Dt → Option (Int64 × Dt)} {x0 : Nat} {x1 : Int32} {x3 : Int32} {x4 : Int64} {x6 : Int32} {x7 : Int32} {d : Dt} (hf : f_X11_readings_B98 σ kb98 k98 x0 x1 x3 x4 x6 x7 d = some z) (hkb98 : ∀ (y7 : Int32) (d : Dt), kb98 y7 d = some z → ∀ (H : Heap) (locs : List Loc) (ls : Array Slot), lv_has ls 9 [(0, .ref (ad x0)), (1, .int x1), (3, .int x3), (4, .long x4), (6, .int x6), (7, .int y7)] → aw_G D cA base ad σ d s H locs → W p l e rm_X11_readings s m args below meth c H locs 0 0 (aw_El D cA base ad σ below args s z) (F0 m 98 ls [])) (hk98 : ∀ (d : Dt), k98 d = some z → ∀ (H : Heap) (locs : List Loc) (ls : Array Slot), lv_has ls 9 [(0, .ref (ad x0)), (1, .int x1), (3, .int x3), (4, .long x4), (6, .int x6)] → aw_G D cA base ad σ d s H locs → W p l e rm_X11_readings s m args below meth c H locs 0 0 (aw_El D cA base ad σ below args s z) (F0 m 119 ls [])) {H : Heap} {locs : List Loc} {ls : Array Slot} (hl : lv_has ls 9 [(0, .ref (ad x0)), (1, .int x1), (3, .int x3), (4, .long x4), (6, .int x6), (7, .int x7)]) (G : aw_G D cA base ad σ d s H locs) : W p l e rm_X11_readings s m args below meth c H locs 0 0 (aw_El D cA base ad σ below args s z) (F0 m 98 ls []) := by
  have hx := X.1; have hb := X.2.1; have hml := X.2.2.1; have hown := X.2.2.2.1
  unfold f_X11_readings_B98 at hf
  refine lv_iload hx hb dX11_readings_98 (lv_at hl 5 rfl) ?_
  refine lv_bipush (v := (16 : Int32)) hx hb dX11_readings_100 (by decide) ?_
  refine lv_icmp_gt (tgt := 119) hx hb dX11_readings_102 (by decide) (fun hc => ?_) (fun hc => ?_)
  · have hf := aw_ite_t hc hf
    exact hk98 _ hf _ _ _ (lv_sub hl [0, 1, 2, 3, 4] rfl) G
  · have hf := aw_ite_f hc hf
    refine lv_aload_n hx hb dX11_readings_105 rfl (lv_at hl 0 rfl) ?_
    obtain ⟨hc_21, hf⟩ := aw_chk_some hf
    obtain ⟨q_22, hq_23, hf⟩ := aw_bind_some hf
    refine gf_X11_78 hx hb G hown hc_21 hq_23 dX11_readings_106 ?_
    refine lv_iload hx hb dX11_readings_109 (lv_at hl 5 rfl) ?_
    refine lv_lconst (v := (0 : Int64)) hx hb dX11_readings_111 (by decide) ?_
    obtain ⟨hc_24, hf⟩ := aw_chk_some hf
    refine aw_las hx hb G hc_24 dX11_readings_112 (fun H locs G => ?_)
    refine lv_iinc (v := x7 + 1) (lv' := [(7, .int (x7 + 1)), (0, .ref (ad x0)), (1, .int x1), (3, .int x3), (4, .long x4), (6, .int x6)]) hx hb dX11_readings_113 hl (k := 5) rfl rfl (by decide) rfl (fun ls hl => ?_)
    refine lv_goto (tgt := 98) hx hb dX11_readings_116 (by decide) ?_
    exact hkb98 _ _ hf _ _ _ (lv_sub hl [1, 2, 3, 4, 5, 0] rfl) G
theorem w_X11_readings_L98 {z : Int64 × Dt} (X : aw_X p c cX11_readings 9 s RX11 m meth (some .long)) {k98 : Dt → Option (Int64 × Dt)} {x0 : Nat} {x1 : Int32} {x3 : Int32} {x4 : Int64} {x6 : Int32} (n : Nat) {x7 : Int32} {d : Dt} (hf : f_X11_readings_L98 σ n k98 x0 x1 x3 x4 x6 x7 d = some z) (hk98 : ∀ (d : Dt), k98 d = some z → ∀ (H : Heap) (locs : List Loc) (ls : Array Slot), lv_has ls 9 [(0, .ref (ad x0)), (1, .int x1), (3, .int x3), (4, .long x4), (6, .int x6)] → aw_G D cA base ad σ d s H locs → W p l e rm_X11_readings s m args below meth c H locs 0 0 (aw_El D cA base ad σ below args s z) (F0 m 119 ls [])) {H : Heap} {locs : List Loc} {ls : Array Slot} (hl : lv_has ls 9 [(0, .ref (ad x0)), (1, .int x1), (3, .int x3), (4, .long x4), (6, .int x6), (7, .int x7)]) (G : aw_G D cA base ad σ d s H locs) : W p l e rm_X11_readings s m args below meth c H locs 0 0 (aw_El D cA base ad σ below args s z) (F0 m 98 ls []) := by
  induction n generalizing x7 d H locs ls with
  | zero => exact absurd (show (none : Option (Int64 × Dt)) = some z from hf) (by simp)
  | succ n ih => exact w_X11_readings_B98 X (kb98 := f_X11_readings_L98 σ n k98 x0 x1 x3 x4 x6) hf  (fun x7 d hf H locs ls hl G => ih hf hl G) hk98 hl G
set_option maxHeartbeats 4000000 in
set_option maxRecDepth 100000 in
theorem w_X11_readings_B131 {z : Int64 × Dt} (X : aw_X p c cX11_readings 9 s RX11 m meth (some .long)) {kb131 : Int32 → Dt → Option (Int64 × Dt)} {k131 : Dt → Option (Int64 × Dt)} {x0 : Nat} {x1 : Int32} {x3 : Int32} {x4 : Int64} {x6 : Int32} {x7 : Int32} {x8 : Int32} {d : Dt} (hf : f_X11_readings_B131 σ kb131 k131 x0 x1 x3 x4 x6 x7 x8 d = some z) (hkb131 : ∀ (y8 : Int32) (d : Dt), kb131 y8 d = some z → ∀ (H : Heap) (locs : List Loc) (ls : Array Slot), lv_has ls 9 [(0, .ref (ad x0)), (1, .int x1), (3, .int x3), (4, .long x4), (6, .int x6), (7, .int x7), (8, .int y8)] → aw_G D cA base ad σ d s H locs → W p l e rm_X11_readings s m args below meth c H locs 0 0 (aw_El D cA base ad σ below args s z) (F0 m 131 ls [])) (hk131 : ∀ (d : Dt), k131 d = some z → ∀ (H : Heap) (locs : List Loc) (ls : Array Slot), lv_has ls 9 [(0, .ref (ad x0)), (1, .int x1), (3, .int x3), (4, .long x4), (6, .int x6), (7, .int x7)] → aw_G D cA base ad σ d s H locs → W p l e rm_X11_readings s m args below meth c H locs 0 0 (aw_El D cA base ad σ below args s z) (F0 m 194 ls [])) {H : Heap} {locs : List Loc} {ls : Array Slot} (hl : lv_has ls 9 [(0, .ref (ad x0)), (1, .int x1), (3, .int x3), (4, .long x4), (6, .int x6), (7, .int x7), (8, .int x8)]) (G : aw_G D cA base ad σ d s H locs) : W p l e rm_X11_readings s m args below meth c H locs 0 0 (aw_El D cA base ad σ below args s z) (F0 m 131 ls []) := by
  have hx := X.1; have hb := X.2.1; have hml := X.2.2.1; have hown := X.2.2.2.1
  unfold f_X11_readings_B131 at hf
  refine lv_iload hx hb dX11_readings_131 (lv_at hl 6 rfl) ?_
  refine lv_iconst (v := (4 : Int32)) hx hb dX11_readings_133 (by decide) ?_
  refine lv_icmp_gt (tgt := 194) hx hb dX11_readings_134 (by decide) (fun hc => ?_) (fun hc => ?_)
  · have hf := aw_ite_t hc hf
    exact hk131 _ hf _ _ _ (lv_sub hl [0, 1, 2, 3, 4, 5] rfl) G
  · have hf := aw_ite_f hc hf
    refine lv_iload hx hb dX11_readings_137 (lv_at hl 5 rfl) ?_
    refine lv_iload hx hb dX11_readings_139 (lv_at hl 6 rfl) ?_
    refine lv_iadd hx hb dX11_readings_141 ?_
    refine lv_iload_n hx hb dX11_readings_142 rfl (lv_at hl 2 rfl) ?_
    refine lv_icmp_gt (tgt := 194) hx hb dX11_readings_143 (by decide) (fun hc => ?_) (fun hc => ?_)
    · have hf := aw_ite_t hc hf
      exact hk131 _ hf _ _ _ (lv_sub hl [0, 1, 2, 3, 4, 5] rfl) G
    · have hf := aw_ite_f hc hf
      refine lv_aload_n hx hb dX11_readings_146 rfl (lv_at hl 0 rfl) ?_
      obtain ⟨hc_26, hf⟩ := aw_chk_some hf
      obtain ⟨q_27, hq_28, hf⟩ := aw_bind_some hf
      refine gf_X11_74 hx hb G hown hc_26 hq_28 dX11_readings_147 ?_
      refine lv_iload hx hb dX11_readings_150 (lv_at hl 5 rfl) ?_
      obtain ⟨hc_29, hf⟩ := aw_chk_some hf
      refine aw_lal hx hb G hc_29 dX11_readings_152 ?_
      refine lv_lconst (v := (0 : Int64)) hx hb dX11_readings_153 (by decide) ?_
      refine W.lcmp hx hb dX11_readings_154 ?_
      refine lv_if_le (tgt := 194) hx hb dX11_readings_155 (by decide) (fun hc => ?_) (fun hc => ?_)
      · have hf := aw_ite_t hc hf
        exact hk131 _ hf _ _ _ (lv_sub hl [0, 1, 2, 3, 4, 5] rfl) G
      · have hf := aw_ite_f hc hf
        refine lv_aload_n hx hb dX11_readings_158 rfl (lv_at hl 0 rfl) ?_
        obtain ⟨q_30, hq_31, hf⟩ := aw_bind_some hf
        refine gf_X11_78 hx hb G hown hc_26 hq_31 dX11_readings_159 ?_
        refine lv_iload hx hb dX11_readings_162 (lv_at hl 5 rfl) ?_
        refine lv_iload hx hb dX11_readings_164 (lv_at hl 6 rfl) ?_
        refine lv_iadd hx hb dX11_readings_166 ?_
        refine lv_dup2_11 hx hb dX11_readings_167 rfl rfl ?_
        obtain ⟨hc_32, hf⟩ := aw_chk_some hf
        refine aw_lal hx hb G hc_32 dX11_readings_168 ?_
        refine lv_aload_n hx hb dX11_readings_169 rfl (lv_at hl 0 rfl) ?_
        refine gf_X11_74 hx hb G hown hc_26 hq_28 dX11_readings_170 ?_
        refine lv_iload hx hb dX11_readings_173 (lv_at hl 5 rfl) ?_
        refine aw_lal hx hb G hc_29 dX11_readings_175 ?_
        refine lv_aload_n hx hb dX11_readings_176 rfl (lv_at hl 0 rfl) ?_
        refine lv_iload_n hx hb dX11_readings_177 rfl (lv_at hl 1 rfl) ?_
        refine lv_iload hx hb dX11_readings_178 (lv_at hl 5 rfl) ?_
        refine lv_iload hx hb dX11_readings_180 (lv_at hl 6 rfl) ?_
        obtain ⟨z_33, hz_34, hf⟩ := aw_bind_some hf
        refine aw_VL (As := [.int x1, .int x7, .int x8]) (rest := [.long (d.2 q_27 x7.toNatClampNeg), .long (d.2 q_30 (x7 + x8).toNatClampNeg), .int (x7 + x8), .ref (ad q_30)]) X G hl.1 cr_X11_169 (c_X11_syllables l hz_34) ⟨rfl, rfl⟩ rfl rfl rfl (by decide) hc_26 rfl ⟨Nat.le_of_ble_eq_true rfl, Nat.le_of_ble_eq_true rfl⟩ (Nat.le_of_ble_eq_true rfl) dX11_readings_182 ⟨Nat.zero_le _, Nat.zero_le _⟩ (fun H locs G => ?_)
        refine lv_lmul hx hb dX11_readings_185 ?_
        refine lv_ladd hx hb dX11_readings_186 ?_
        refine aw_las hx hb G hc_32 dX11_readings_187 (fun H locs G => ?_)
        refine lv_iinc (v := x8 + 1) (lv' := [(8, .int (x8 + 1)), (0, .ref (ad x0)), (1, .int x1), (3, .int x3), (4, .long x4), (6, .int x6), (7, .int x7)]) hx hb dX11_readings_188 hl (k := 6) rfl rfl (by decide) rfl (fun ls hl => ?_)
        refine lv_goto (tgt := 131) hx hb dX11_readings_191 (by decide) ?_
        exact hkb131 _ _ hf _ _ _ (lv_sub hl [1, 2, 3, 4, 5, 6, 0] rfl) G
theorem w_X11_readings_L131 {z : Int64 × Dt} (X : aw_X p c cX11_readings 9 s RX11 m meth (some .long)) {k131 : Dt → Option (Int64 × Dt)} {x0 : Nat} {x1 : Int32} {x3 : Int32} {x4 : Int64} {x6 : Int32} {x7 : Int32} (n : Nat) {x8 : Int32} {d : Dt} (hf : f_X11_readings_L131 σ n k131 x0 x1 x3 x4 x6 x7 x8 d = some z) (hk131 : ∀ (d : Dt), k131 d = some z → ∀ (H : Heap) (locs : List Loc) (ls : Array Slot), lv_has ls 9 [(0, .ref (ad x0)), (1, .int x1), (3, .int x3), (4, .long x4), (6, .int x6), (7, .int x7)] → aw_G D cA base ad σ d s H locs → W p l e rm_X11_readings s m args below meth c H locs 0 0 (aw_El D cA base ad σ below args s z) (F0 m 194 ls [])) {H : Heap} {locs : List Loc} {ls : Array Slot} (hl : lv_has ls 9 [(0, .ref (ad x0)), (1, .int x1), (3, .int x3), (4, .long x4), (6, .int x6), (7, .int x7), (8, .int x8)]) (G : aw_G D cA base ad σ d s H locs) : W p l e rm_X11_readings s m args below meth c H locs 0 0 (aw_El D cA base ad σ below args s z) (F0 m 131 ls []) := by
  induction n generalizing x8 d H locs ls with
  | zero => exact absurd (show (none : Option (Int64 × Dt)) = some z from hf) (by simp)
  | succ n ih => exact w_X11_readings_B131 X (kb131 := f_X11_readings_L131 σ n k131 x0 x1 x3 x4 x6 x7) hf  (fun x8 d hf H locs ls hl G => ih hf hl G) hk131 hl G
set_option maxHeartbeats 4000000 in
set_option maxRecDepth 100000 in
theorem w_X11_readings_J194 {z : Int64 × Dt} (X : aw_X p c cX11_readings 9 s RX11 m meth (some .long)) {kb122 : Int32 → Dt → Option (Int64 × Dt)} {x0 : Nat} {x1 : Int32} {x3 : Int32} {x4 : Int64} {x6 : Int32} {x7 : Int32} {d : Dt} (hf : f_X11_readings_J194 σ kb122 x0 x1 x3 x4 x6 x7 d = some z) (hkb122 : ∀ (y7 : Int32) (d : Dt), kb122 y7 d = some z → ∀ (H : Heap) (locs : List Loc) (ls : Array Slot), lv_has ls 9 [(0, .ref (ad x0)), (1, .int x1), (3, .int x3), (4, .long x4), (6, .int x6), (7, .int y7)] → aw_G D cA base ad σ d s H locs → W p l e rm_X11_readings s m args below meth c H locs 0 0 (aw_El D cA base ad σ below args s z) (F0 m 122 ls [])) {H : Heap} {locs : List Loc} {ls : Array Slot} (hl : lv_has ls 9 [(0, .ref (ad x0)), (1, .int x1), (3, .int x3), (4, .long x4), (6, .int x6), (7, .int x7)]) (G : aw_G D cA base ad σ d s H locs) : W p l e rm_X11_readings s m args below meth c H locs 0 0 (aw_El D cA base ad σ below args s z) (F0 m 194 ls []) := by
  have hx := X.1; have hb := X.2.1; have hml := X.2.2.1; have hown := X.2.2.2.1
  unfold f_X11_readings_J194 at hf
  refine lv_iinc (v := x7 + 1) (lv' := [(7, .int (x7 + 1)), (0, .ref (ad x0)), (1, .int x1), (3, .int x3), (4, .long x4), (6, .int x6)]) hx hb dX11_readings_194 hl (k := 5) rfl rfl (by decide) rfl (fun ls hl => ?_)
  refine lv_goto (tgt := 122) hx hb dX11_readings_197 (by decide) ?_
  exact hkb122 _ _ hf _ _ _ (lv_sub hl [1, 2, 3, 4, 5, 0] rfl) G
set_option maxHeartbeats 4000000 in
set_option maxRecDepth 100000 in
theorem w_X11_readings_B122 {z : Int64 × Dt} (X : aw_X p c cX11_readings 9 s RX11 m meth (some .long)) {kb122 : Int32 → Dt → Option (Int64 × Dt)} {k122 : Dt → Option (Int64 × Dt)} {x0 : Nat} {x1 : Int32} {x3 : Int32} {x4 : Int64} {x6 : Int32} {x7 : Int32} {d : Dt} (hf : f_X11_readings_B122 σ kb122 k122 x0 x1 x3 x4 x6 x7 d = some z) (hkb122 : ∀ (y7 : Int32) (d : Dt), kb122 y7 d = some z → ∀ (H : Heap) (locs : List Loc) (ls : Array Slot), lv_has ls 9 [(0, .ref (ad x0)), (1, .int x1), (3, .int x3), (4, .long x4), (6, .int x6), (7, .int y7)] → aw_G D cA base ad σ d s H locs → W p l e rm_X11_readings s m args below meth c H locs 0 0 (aw_El D cA base ad σ below args s z) (F0 m 122 ls [])) (hk122 : ∀ (d : Dt), k122 d = some z → ∀ (H : Heap) (locs : List Loc) (ls : Array Slot), lv_has ls 9 [(0, .ref (ad x0)), (1, .int x1), (3, .int x3), (4, .long x4), (6, .int x6)] → aw_G D cA base ad σ d s H locs → W p l e rm_X11_readings s m args below meth c H locs 0 0 (aw_El D cA base ad σ below args s z) (F0 m 200 ls [])) {H : Heap} {locs : List Loc} {ls : Array Slot} (hl : lv_has ls 9 [(0, .ref (ad x0)), (1, .int x1), (3, .int x3), (4, .long x4), (6, .int x6), (7, .int x7)]) (G : aw_G D cA base ad σ d s H locs) : W p l e rm_X11_readings s m args below meth c H locs 0 0 (aw_El D cA base ad σ below args s z) (F0 m 122 ls []) := by
  have hx := X.1; have hb := X.2.1; have hml := X.2.2.1; have hown := X.2.2.2.1
  unfold f_X11_readings_B122 at hf
  refine lv_iload hx hb dX11_readings_122 (lv_at hl 5 rfl) ?_
  refine lv_iload_n hx hb dX11_readings_124 rfl (lv_at hl 2 rfl) ?_
  refine lv_icmp_ge (tgt := 200) hx hb dX11_readings_125 (by decide) (fun hc => ?_) (fun hc => ?_)
  · have hf := aw_ite_t hc hf
    exact hk122 _ hf _ _ _ (lv_sub hl [0, 1, 2, 3, 4] rfl) G
  · have hf := aw_ite_f hc hf
    refine lv_iconst (v := (1 : Int32)) hx hb dX11_readings_128 (by decide) ?_
    refine lv_istore (lv' := [(8, .int ((1 : Int32))), (0, .ref (ad x0)), (1, .int x1), (3, .int x3), (4, .long x4), (6, .int x6), (7, .int x7)]) hx hb dX11_readings_129 hl (by decide) rfl (fun ls hl => ?_)
    refine w_X11_readings_L131 X aw_FU hf  (fun d_35 hf H locs ls hl G => ?_) (lv_sub hl [1, 2, 3, 4, 5, 6, 0] rfl) G
    exact w_X11_readings_J194 X hf hkb122 (lv_sub hl [0, 1, 2, 3, 4, 5] rfl) G
theorem w_X11_readings_L122 {z : Int64 × Dt} (X : aw_X p c cX11_readings 9 s RX11 m meth (some .long)) {k122 : Dt → Option (Int64 × Dt)} {x0 : Nat} {x1 : Int32} {x3 : Int32} {x4 : Int64} {x6 : Int32} (n : Nat) {x7 : Int32} {d : Dt} (hf : f_X11_readings_L122 σ n k122 x0 x1 x3 x4 x6 x7 d = some z) (hk122 : ∀ (d : Dt), k122 d = some z → ∀ (H : Heap) (locs : List Loc) (ls : Array Slot), lv_has ls 9 [(0, .ref (ad x0)), (1, .int x1), (3, .int x3), (4, .long x4), (6, .int x6)] → aw_G D cA base ad σ d s H locs → W p l e rm_X11_readings s m args below meth c H locs 0 0 (aw_El D cA base ad σ below args s z) (F0 m 200 ls [])) {H : Heap} {locs : List Loc} {ls : Array Slot} (hl : lv_has ls 9 [(0, .ref (ad x0)), (1, .int x1), (3, .int x3), (4, .long x4), (6, .int x6), (7, .int x7)]) (G : aw_G D cA base ad σ d s H locs) : W p l e rm_X11_readings s m args below meth c H locs 0 0 (aw_El D cA base ad σ below args s z) (F0 m 122 ls []) := by
  induction n generalizing x7 d H locs ls with
  | zero => exact absurd (show (none : Option (Int64 × Dt)) = some z from hf) (by simp)
  | succ n ih => exact w_X11_readings_B122 X (kb122 := f_X11_readings_L122 σ n k122 x0 x1 x3 x4 x6) hf  (fun x7 d hf H locs ls hl G => ih hf hl G) hk122 hl G
set_option maxHeartbeats 4000000 in
set_option maxRecDepth 100000 in
theorem w_X11_readings_B203 {z : Int64 × Dt} (X : aw_X p c cX11_readings 9 s RX11 m meth (some .long)) {kb203 : Int32 → Dt → Option (Int64 × Dt)} {k203 : Dt → Option (Int64 × Dt)} {x0 : Nat} {x1 : Int32} {x3 : Int32} {x4 : Int64} {x6 : Int32} {x7 : Int32} {d : Dt} (hf : f_X11_readings_B203 σ kb203 k203 x0 x1 x3 x4 x6 x7 d = some z) (hkb203 : ∀ (y7 : Int32) (d : Dt), kb203 y7 d = some z → ∀ (H : Heap) (locs : List Loc) (ls : Array Slot), lv_has ls 9 [(0, .ref (ad x0)), (1, .int x1), (3, .int x3), (4, .long x4), (6, .int x6), (7, .int y7)] → aw_G D cA base ad σ d s H locs → W p l e rm_X11_readings s m args below meth c H locs 0 0 (aw_El D cA base ad σ below args s z) (F0 m 203 ls [])) (hk203 : ∀ (d : Dt), k203 d = some z → ∀ (H : Heap) (locs : List Loc) (ls : Array Slot), lv_has ls 9 [(0, .ref (ad x0)), (1, .int x1), (3, .int x3), (4, .long x4), (6, .int x6)] → aw_G D cA base ad σ d s H locs → W p l e rm_X11_readings s m args below meth c H locs 0 0 (aw_El D cA base ad σ below args s z) (F0 m 230 ls [])) {H : Heap} {locs : List Loc} {ls : Array Slot} (hl : lv_has ls 9 [(0, .ref (ad x0)), (1, .int x1), (3, .int x3), (4, .long x4), (6, .int x6), (7, .int x7)]) (G : aw_G D cA base ad σ d s H locs) : W p l e rm_X11_readings s m args below meth c H locs 0 0 (aw_El D cA base ad σ below args s z) (F0 m 203 ls []) := by
  have hx := X.1; have hb := X.2.1; have hml := X.2.2.1; have hown := X.2.2.2.1
  unfold f_X11_readings_B203 at hf
  refine lv_iload hx hb dX11_readings_203 (lv_at hl 5 rfl) ?_
  refine lv_bipush (v := (16 : Int32)) hx hb dX11_readings_205 (by decide) ?_
  refine lv_icmp_gt (tgt := 230) hx hb dX11_readings_207 (by decide) (fun hc => ?_) (fun hc => ?_)
  · have hf := aw_ite_t hc hf
    exact hk203 _ hf _ _ _ (lv_sub hl [0, 1, 2, 3, 4] rfl) G
  · have hf := aw_ite_f hc hf
    refine lv_aload_n hx hb dX11_readings_210 rfl (lv_at hl 0 rfl) ?_
    obtain ⟨hc_37, hf⟩ := aw_chk_some hf
    obtain ⟨q_38, hq_39, hf⟩ := aw_bind_some hf
    refine gf_X11_74 hx hb G hown hc_37 hq_39 dX11_readings_211 ?_
    refine lv_iload hx hb dX11_readings_214 (lv_at hl 5 rfl) ?_
    refine lv_aload_n hx hb dX11_readings_216 rfl (lv_at hl 0 rfl) ?_
    obtain ⟨q_40, hq_41, hf⟩ := aw_bind_some hf
    refine gf_X11_78 hx hb G hown hc_37 hq_41 dX11_readings_217 ?_
    refine lv_iload hx hb dX11_readings_220 (lv_at hl 5 rfl) ?_
    obtain ⟨hc_42, hf⟩ := aw_chk_some hf
    refine aw_lal hx hb G hc_42 dX11_readings_222 ?_
    obtain ⟨hc_43, hf⟩ := aw_chk_some hf
    refine aw_las hx hb G hc_43 dX11_readings_223 (fun H locs G => ?_)
    refine lv_iinc (v := x7 + 1) (lv' := [(7, .int (x7 + 1)), (0, .ref (ad x0)), (1, .int x1), (3, .int x3), (4, .long x4), (6, .int x6)]) hx hb dX11_readings_224 hl (k := 5) rfl rfl (by decide) rfl (fun ls hl => ?_)
    refine lv_goto (tgt := 203) hx hb dX11_readings_227 (by decide) ?_
    exact hkb203 _ _ hf _ _ _ (lv_sub hl [1, 2, 3, 4, 5, 0] rfl) G
theorem w_X11_readings_L203 {z : Int64 × Dt} (X : aw_X p c cX11_readings 9 s RX11 m meth (some .long)) {k203 : Dt → Option (Int64 × Dt)} {x0 : Nat} {x1 : Int32} {x3 : Int32} {x4 : Int64} {x6 : Int32} (n : Nat) {x7 : Int32} {d : Dt} (hf : f_X11_readings_L203 σ n k203 x0 x1 x3 x4 x6 x7 d = some z) (hk203 : ∀ (d : Dt), k203 d = some z → ∀ (H : Heap) (locs : List Loc) (ls : Array Slot), lv_has ls 9 [(0, .ref (ad x0)), (1, .int x1), (3, .int x3), (4, .long x4), (6, .int x6)] → aw_G D cA base ad σ d s H locs → W p l e rm_X11_readings s m args below meth c H locs 0 0 (aw_El D cA base ad σ below args s z) (F0 m 230 ls [])) {H : Heap} {locs : List Loc} {ls : Array Slot} (hl : lv_has ls 9 [(0, .ref (ad x0)), (1, .int x1), (3, .int x3), (4, .long x4), (6, .int x6), (7, .int x7)]) (G : aw_G D cA base ad σ d s H locs) : W p l e rm_X11_readings s m args below meth c H locs 0 0 (aw_El D cA base ad σ below args s z) (F0 m 203 ls []) := by
  induction n generalizing x7 d H locs ls with
  | zero => exact absurd (show (none : Option (Int64 × Dt)) = some z from hf) (by simp)
  | succ n ih => exact w_X11_readings_B203 X (kb203 := f_X11_readings_L203 σ n k203 x0 x1 x3 x4 x6) hf  (fun x7 d hf H locs ls hl G => ih hf hl G) hk203 hl G
set_option maxHeartbeats 4000000 in
set_option maxRecDepth 100000 in
theorem w_X11_readings_B89 {z : Int64 × Dt} (X : aw_X p c cX11_readings 9 s RX11 m meth (some .long)) {kb89 : Int64 → Int32 → Dt → Option (Int64 × Dt)} {k89 : Int64 → Dt → Option (Int64 × Dt)} {x0 : Nat} {x1 : Int32} {x3 : Int32} {x4 : Int64} {x6 : Int32} {d : Dt} (hf : f_X11_readings_B89 σ kb89 k89 x0 x1 x3 x4 x6 d = some z) (hkb89 : ∀ (y4 : Int64) (y6 : Int32) (d : Dt), kb89 y4 y6 d = some z → ∀ (H : Heap) (locs : List Loc) (ls : Array Slot), lv_has ls 9 [(0, .ref (ad x0)), (1, .int x1), (3, .int x3), (4, .long y4), (6, .int y6)] → aw_G D cA base ad σ d s H locs → W p l e rm_X11_readings s m args below meth c H locs 0 0 (aw_El D cA base ad σ below args s z) (F0 m 89 ls [])) (hk89 : ∀ (y4 : Int64) (d : Dt), k89 y4 d = some z → ∀ (H : Heap) (locs : List Loc) (ls : Array Slot), lv_has ls 9 [(4, .long y4)] → aw_G D cA base ad σ d s H locs → W p l e rm_X11_readings s m args below meth c H locs 0 0 (aw_El D cA base ad σ below args s z) (F0 m 247 ls [])) {H : Heap} {locs : List Loc} {ls : Array Slot} (hl : lv_has ls 9 [(0, .ref (ad x0)), (1, .int x1), (3, .int x3), (4, .long x4), (6, .int x6)]) (G : aw_G D cA base ad σ d s H locs) : W p l e rm_X11_readings s m args below meth c H locs 0 0 (aw_El D cA base ad σ below args s z) (F0 m 89 ls []) := by
  have hx := X.1; have hb := X.2.1; have hml := X.2.2.1; have hown := X.2.2.2.1
  unfold f_X11_readings_B89 at hf
  refine lv_iload hx hb dX11_readings_89 (lv_at hl 4 rfl) ?_
  refine lv_iconst (v := (4 : Int32)) hx hb dX11_readings_91 (by decide) ?_
  refine lv_icmp_ge (tgt := 247) hx hb dX11_readings_92 (by decide) (fun hc => ?_) (fun hc => ?_)
  · have hf := aw_ite_t hc hf
    exact hk89 _ _ hf _ _ _ (lv_sub hl [3] rfl) G
  · have hf := aw_ite_f hc hf
    refine lv_iconst (v := (0 : Int32)) hx hb dX11_readings_95 (by decide) ?_
    refine lv_istore (lv' := [(7, .int ((0 : Int32))), (0, .ref (ad x0)), (1, .int x1), (3, .int x3), (4, .long x4), (6, .int x6)]) hx hb dX11_readings_96 hl (by decide) rfl (fun ls hl => ?_)
    refine w_X11_readings_L98 X aw_FU hf  (fun d_25 hf H locs ls hl G => ?_) (lv_sub hl [1, 2, 3, 4, 5, 0] rfl) G
    refine lv_iconst (v := (0 : Int32)) hx hb dX11_readings_119 (by decide) ?_
    refine lv_istore (lv' := [(7, .int ((0 : Int32))), (0, .ref (ad x0)), (1, .int x1), (3, .int x3), (4, .long x4), (6, .int x6)]) hx hb dX11_readings_120 hl (by decide) rfl (fun ls hl => ?_)
    refine w_X11_readings_L122 X aw_FU hf  (fun d_36 hf H locs ls hl G => ?_) (lv_sub hl [1, 2, 3, 4, 5, 0] rfl) G
    refine lv_iconst (v := (0 : Int32)) hx hb dX11_readings_200 (by decide) ?_
    refine lv_istore (lv' := [(7, .int ((0 : Int32))), (0, .ref (ad x0)), (1, .int x1), (3, .int x3), (4, .long x4), (6, .int x6)]) hx hb dX11_readings_201 hl (by decide) rfl (fun ls hl => ?_)
    refine w_X11_readings_L203 X aw_FU hf  (fun d_44 hf H locs ls hl G => ?_) (lv_sub hl [1, 2, 3, 4, 5, 0] rfl) G
    refine lv_lload hx hb dX11_readings_230 (lv_at hl 3 rfl) ?_
    refine lv_aload_n hx hb dX11_readings_232 rfl (lv_at hl 0 rfl) ?_
    obtain ⟨hc_45, hf⟩ := aw_chk_some hf
    obtain ⟨q_46, hq_47, hf⟩ := aw_bind_some hf
    refine gf_X11_74 hx hb G hown hc_45 hq_47 dX11_readings_233 ?_
    refine lv_iload_n hx hb dX11_readings_236 rfl (lv_at hl 2 rfl) ?_
    obtain ⟨hc_48, hf⟩ := aw_chk_some hf
    refine aw_lal hx hb G hc_48 dX11_readings_237 ?_
    refine lv_ladd hx hb dX11_readings_238 ?_
    refine lv_lstore (lv' := [(4, .long (x4 + (d_44.2 q_46 x3.toNatClampNeg))), (0, .ref (ad x0)), (1, .int x1), (3, .int x3), (6, .int x6)]) hx hb dX11_readings_239 hl (by decide) rfl (fun ls hl => ?_)
    refine lv_iinc (v := x6 + 1) (lv' := [(6, .int (x6 + 1)), (4, .long (x4 + (d_44.2 q_46 x3.toNatClampNeg))), (0, .ref (ad x0)), (1, .int x1), (3, .int x3)]) hx hb dX11_readings_241 hl (k := 4) rfl rfl (by decide) rfl (fun ls hl => ?_)
    refine lv_goto (tgt := 89) hx hb dX11_readings_244 (by decide) ?_
    exact hkb89 _ _ _ hf _ _ _ (lv_sub hl [2, 3, 4, 1, 0] rfl) G
theorem w_X11_readings_L89 {z : Int64 × Dt} (X : aw_X p c cX11_readings 9 s RX11 m meth (some .long)) {k89 : Int64 → Dt → Option (Int64 × Dt)} {x0 : Nat} {x1 : Int32} {x3 : Int32} (n : Nat) {x4 : Int64} {x6 : Int32} {d : Dt} (hf : f_X11_readings_L89 σ n k89 x0 x1 x3 x4 x6 d = some z) (hk89 : ∀ (y4 : Int64) (d : Dt), k89 y4 d = some z → ∀ (H : Heap) (locs : List Loc) (ls : Array Slot), lv_has ls 9 [(4, .long y4)] → aw_G D cA base ad σ d s H locs → W p l e rm_X11_readings s m args below meth c H locs 0 0 (aw_El D cA base ad σ below args s z) (F0 m 247 ls [])) {H : Heap} {locs : List Loc} {ls : Array Slot} (hl : lv_has ls 9 [(0, .ref (ad x0)), (1, .int x1), (3, .int x3), (4, .long x4), (6, .int x6)]) (G : aw_G D cA base ad σ d s H locs) : W p l e rm_X11_readings s m args below meth c H locs 0 0 (aw_El D cA base ad σ below args s z) (F0 m 89 ls []) := by
  induction n generalizing x4 x6 d H locs ls with
  | zero => exact absurd (show (none : Option (Int64 × Dt)) = some z from hf) (by simp)
  | succ n ih => exact w_X11_readings_B89 X (kb89 := f_X11_readings_L89 σ n k89 x0 x1 x3) hf  (fun x4 x6 d hf H locs ls hl G => ih hf hl G) hk89 hl G
set_option maxHeartbeats 4000000 in
set_option maxRecDepth 100000 in
theorem w_X11_readings_J22 {z : Int64 × Dt} (X : aw_X p c cX11_readings 9 s RX11 m meth (some .long)) {t1 : Int32} {t0 : Nat} {x0 : Nat} {x1 : Int32} {x2 : Int32} {d : Dt} (hf : f_X11_readings_J22 σ t1 t0 x0 x1 x2 d = some z)  {H : Heap} {locs : List Loc} {ls : Array Slot} (hl : lv_has ls 9 [(0, .ref (ad x0)), (1, .int x1), (2, .int x2)]) (G : aw_G D cA base ad σ d s H locs) : W p l e rm_X11_readings s m args below meth c H locs 0 0 (aw_El D cA base ad σ below args s z) (F0 m 22 ls [.int t1, .ref (ad t0)]) := by
  have hx := X.1; have hb := X.2.1; have hml := X.2.2.1; have hown := X.2.2.2.1
  unfold f_X11_readings_J22 at hf
  obtain ⟨hc_6, hf⟩ := aw_chk_some hf
  obtain ⟨z_4, hz_5, hf⟩ := aw_bind_some hf
  refine aw_VI (As := [.int t1]) (rest := []) X G hl.1 cr_X11_113 (c_X11_fails l hz_5) ⟨rfl, rfl⟩ rfl rfl rfl (by decide) hc_6 rfl ⟨Nat.le_of_ble_eq_true rfl, Nat.le_of_ble_eq_true rfl⟩ (Nat.le_of_ble_eq_true rfl) dX11_readings_22 ⟨Nat.zero_le _, Nat.zero_le _⟩ (fun H locs G => ?_)
  refine lv_if_eq (tgt := 30) hx hb dX11_readings_25 (by decide) (fun hc => ?_) (fun hc => ?_)
  · have hf := aw_ite_t hc hf
    refine lv_aload_n hx hb dX11_readings_30 rfl (lv_at hl 0 rfl) ?_
    refine lv_iload_n hx hb dX11_readings_31 rfl (lv_at hl 1 rfl) ?_
    refine lv_aload_n hx hb dX11_readings_32 rfl (lv_at hl 0 rfl) ?_
    obtain ⟨hc_7, hf⟩ := aw_chk_some hf
    obtain ⟨q_8, hq_9, hf⟩ := aw_bind_some hf
    refine gf_X11_41 hx hb G hown hc_7 hq_9 dX11_readings_33 ?_
    refine lv_iload_n hx hb dX11_readings_36 rfl (lv_at hl 1 rfl) ?_
    obtain ⟨hc_10, hf⟩ := aw_chk_some hf
    refine aw_ial hx hb G hc_10 dX11_readings_37 ?_
    refine lv_iload_n hx hb dX11_readings_38 rfl (lv_at hl 2 rfl) ?_
    refine lv_iconst (v := (0 : Int32)) hx hb dX11_readings_39 (by decide) ?_
    obtain ⟨z_11, hz_12, hf⟩ := aw_bind_some hf
    refine aw_VV (As := [.int x1, .int (z_4.2.1 q_8 x1.toNatClampNeg), .int x2, .int ((0 : Int32))]) (rest := []) X G hl.1 cr_X11_152 (c_X11_spells l hz_12) ⟨rfl, rfl⟩ rfl rfl rfl (by decide) hc_7 rfl ⟨Nat.le_of_ble_eq_true rfl, Nat.le_of_ble_eq_true rfl⟩ (Nat.le_of_ble_eq_true rfl) dX11_readings_40 ⟨Nat.zero_le _, Nat.zero_le _⟩ (fun H locs G => ?_)
    refine lv_aload_n hx hb dX11_readings_43 rfl (lv_at hl 0 rfl) ?_
    obtain ⟨q_13, hq_14, hf⟩ := aw_bind_some hf
    refine gf_X11_68 hx hb G hown hc_7 hq_14 dX11_readings_44 ?_
    refine lv_iconst (v := (0 : Int32)) hx hb dX11_readings_47 (by decide) ?_
    obtain ⟨hc_15, hf⟩ := aw_chk_some hf
    refine aw_ial hx hb G hc_15 dX11_readings_48 ?_
    refine lv_istore_n (lv' := [(3, .int (z_11.2.1 q_13 ((0 : Int32)).toNatClampNeg)), (0, .ref (ad x0)), (1, .int x1), (2, .int x2)]) hx hb dX11_readings_49 rfl hl (by decide) rfl (fun ls hl => ?_)
    refine lv_iconst (v := (0 : Int32)) hx hb dX11_readings_50 (by decide) ?_
    refine lv_istore (lv' := [(4, .int ((0 : Int32))), (3, .int (z_11.2.1 q_13 ((0 : Int32)).toNatClampNeg)), (0, .ref (ad x0)), (1, .int x1), (2, .int x2)]) hx hb dX11_readings_51 hl (by decide) rfl (fun ls hl => ?_)
    refine w_X11_readings_L53 X aw_FU hf  (fun d_20 hf H locs ls hl G => ?_) (lv_sub hl [2, 3, 1, 0] rfl) G
    refine lv_lconst (v := (0 : Int64)) hx hb dX11_readings_83 (by decide) ?_
    refine lv_lstore (lv' := [(4, .long ((0 : Int64))), (0, .ref (ad x0)), (1, .int x1), (3, .int (z_11.2.1 q_13 ((0 : Int32)).toNatClampNeg))]) hx hb dX11_readings_84 hl (by decide) rfl (fun ls hl => ?_)
    refine lv_iconst (v := (0 : Int32)) hx hb dX11_readings_86 (by decide) ?_
    refine lv_istore (lv' := [(6, .int ((0 : Int32))), (4, .long ((0 : Int64))), (0, .ref (ad x0)), (1, .int x1), (3, .int (z_11.2.1 q_13 ((0 : Int32)).toNatClampNeg))]) hx hb dX11_readings_87 hl (by decide) rfl (fun ls hl => ?_)
    refine w_X11_readings_L89 X aw_FU hf  (fun x4_49 d_50 hf H locs ls hl G => ?_) (lv_sub hl [2, 3, 4, 1, 0] rfl) G
    refine lv_lload hx hb dX11_readings_247 (lv_at hl 0 rfl) ?_
    exact aw_retl X G hf dX11_readings_249
  · have hf := aw_ite_f hc hf
    refine lv_lconst (v := (0 : Int64)) hx hb dX11_readings_28 (by decide) ?_
    exact aw_retl X G hf dX11_readings_29
set_option maxHeartbeats 4000000 in
set_option maxRecDepth 100000 in
theorem w_X11_readings_J21 {z : Int64 × Dt} (X : aw_X p c cX11_readings 9 s RX11 m meth (some .long)) {t0 : Nat} {x0 : Nat} {x1 : Int32} {x2 : Int32} {d : Dt} (hf : f_X11_readings_J21 σ t0 x0 x1 x2 d = some z)  {H : Heap} {locs : List Loc} {ls : Array Slot} (hl : lv_has ls 9 [(0, .ref (ad x0)), (1, .int x1), (2, .int x2)]) (G : aw_G D cA base ad σ d s H locs) : W p l e rm_X11_readings s m args below meth c H locs 0 0 (aw_El D cA base ad σ below args s z) (F0 m 21 ls [.ref (ad t0)]) := by
  have hx := X.1; have hb := X.2.1; have hml := X.2.2.1; have hown := X.2.2.2.1
  unfold f_X11_readings_J21 at hf
  refine lv_iconst (v := (1 : Int32)) hx hb dX11_readings_21 (by decide) ?_
  exact w_X11_readings_J22 X hf  (lv_sub hl [0, 1, 2] rfl) G
end W_X11_readings
set_option maxHeartbeats 4000000 in
set_option maxRecDepth 100000 in
theorem c_X11_readings (l : Launch) {σ : Sg} {x0 : Nat} {x1 : Int32} {x2 : Int32} {d : Dt} {z : Int64 × Dt} (hf : f_X11_readings σ x0 x1 x2 d = some z) : aw_Ml l yX11_readings (Cond.code yX11_readings cX11_readings 9 (some .long)) rm_X11_readings (fun ad => [.ref (ad x0), .int x1, .int x2]) σ d z := by
  intro D cA base ad
  refine aw_ofW (own := RX11) (cc := cX11_readings) (nL := 9) (ret := some .long) (by decide) rfl rfl ?_
  intro p e s m below meth c X hnm G
  have hx := X.1; have hb := X.2.1; have hml := X.2.2.1; have hown := X.2.2.2.1
  refine aw_ls (lv := [(0, .ref (ad x0)), (1, .int x1), (2, .int x2)]) (Nat.le_of_ble_eq_true rfl) rfl (fun ls hl => ?_)
  unfold f_X11_readings at hf
  refine lv_aload_n hx hb dX11_readings_0 rfl (lv_at hl 0 rfl) ?_
  refine lv_aload_n hx hb dX11_readings_1 rfl (lv_at hl 0 rfl) ?_
  refine lv_iload_n hx hb dX11_readings_2 rfl (lv_at hl 1 rfl) ?_
  obtain ⟨hc_3, hf⟩ := aw_chk_some hf
  obtain ⟨z_1, hz_2, hf⟩ := aw_bind_some hf
  refine aw_VI (As := [.int x1]) (rest := [.ref (ad x0)]) X G hl.1 cr_X11_146 (c_X11_isDesign l hz_2) ⟨rfl, rfl⟩ rfl rfl rfl (by decide) hc_3 rfl ⟨Nat.le_of_ble_eq_true rfl, Nat.le_of_ble_eq_true rfl⟩ (Nat.le_of_ble_eq_true rfl) dX11_readings_3 ⟨Nat.zero_le _, Nat.zero_le _⟩ (fun H locs G => ?_)
  refine lv_if_eq (tgt := 21) hx hb dX11_readings_6 (by decide) (fun hc => ?_) (fun hc => ?_)
  · have hf := aw_ite_t hc hf
    exact w_X11_readings_J21 X hf  (lv_sub hl [0, 1, 2] rfl) G
  · have hf := aw_ite_f hc hf
    refine lv_aload_n hx hb dX11_readings_9 rfl (lv_at hl 0 rfl) ?_
    refine lv_iload_n hx hb dX11_readings_10 rfl (lv_at hl 2 rfl) ?_
    obtain ⟨z_51, hz_52, hf⟩ := aw_bind_some hf
    refine aw_VI (As := [.int x2]) (rest := [.ref (ad x0)]) X G hl.1 cr_X11_132 (c_X11_isWord l hz_52) ⟨rfl, rfl⟩ rfl rfl rfl (by decide) hc_3 rfl ⟨Nat.le_of_ble_eq_true rfl, Nat.le_of_ble_eq_true rfl⟩ (Nat.le_of_ble_eq_true rfl) dX11_readings_11 ⟨Nat.zero_le _, Nat.zero_le _⟩ (fun H locs G => ?_)
    refine lv_if_eq (tgt := 21) hx hb dX11_readings_14 (by decide) (fun hc => ?_) (fun hc => ?_)
    · have hf := aw_ite_t hc hf
      exact w_X11_readings_J21 X hf  (lv_sub hl [0, 1, 2] rfl) G
    · have hf := aw_ite_f hc hf
      refine lv_iconst (v := (0 : Int32)) hx hb dX11_readings_17 (by decide) ?_
      refine lv_goto (tgt := 22) hx hb dX11_readings_18 (by decide) ?_
      exact w_X11_readings_J22 X hf  (lv_sub hl [0, 1, 2] rfl) G
def rm_X11_readingsAnew : Room := { frames := 5, cells := 0, slots := 0, locals := 131 }
def f_X11_readingsAnew (σ : Sg) (x0 : Nat) (x1 : Int32) (x2 : Int32) (d : Dt) : Option (Int64 × Dt) :=
  aw_chk (aw_O σ 11 32 x0) ((f_X11_readings σ x0 x1 x2 d).bind (fun z_1 => some (z_1.1, z_1.2)))
section W_X11_readingsAnew
variable {p : Program} {l : Launch} {e : Env} {s : State} {m : MethodId} {args : Array Value} {below : List Frame} {meth : Method} {c : Code}
variable {D : va_G} {cA : Nat → ClassId} {base : Nat} {ad : Nat → Nat} {σ : Sg}
end W_X11_readingsAnew
set_option maxHeartbeats 4000000 in
set_option maxRecDepth 100000 in
theorem c_X11_readingsAnew (l : Launch) {σ : Sg} {x0 : Nat} {x1 : Int32} {x2 : Int32} {d : Dt} {z : Int64 × Dt} (hf : f_X11_readingsAnew σ x0 x1 x2 d = some z) : aw_Ml l yX11_readingsAnew (Cond.code yX11_readingsAnew cX11_readingsAnew 3 (some .long)) rm_X11_readingsAnew (fun ad => [.ref (ad x0), .int x1, .int x2]) σ d z := by
  intro D cA base ad
  refine aw_ofW (own := RX11) (cc := cX11_readingsAnew) (nL := 3) (ret := some .long) (by decide) rfl rfl ?_
  intro p e s m below meth c X hnm G
  have hx := X.1; have hb := X.2.1; have hml := X.2.2.1; have hown := X.2.2.2.1
  refine aw_ls (lv := [(0, .ref (ad x0)), (1, .int x1), (2, .int x2)]) (Nat.le_of_ble_eq_true rfl) rfl (fun ls hl => ?_)
  unfold f_X11_readingsAnew at hf
  refine lv_aload_n hx hb dX11_readingsAnew_0 rfl (lv_at hl 0 rfl) ?_
  refine lv_iload_n hx hb dX11_readingsAnew_1 rfl (lv_at hl 1 rfl) ?_
  refine lv_iload_n hx hb dX11_readingsAnew_2 rfl (lv_at hl 2 rfl) ?_
  obtain ⟨hc_3, hf⟩ := aw_chk_some hf
  obtain ⟨z_1, hz_2, hf⟩ := aw_bind_some hf
  refine aw_VL (As := [.int x1, .int x2]) (rest := []) X G hl.1 cr_X11_173 (c_X11_readings l hz_2) ⟨rfl, rfl⟩ rfl rfl rfl (by decide) hc_3 rfl ⟨Nat.le_of_ble_eq_true rfl, Nat.le_of_ble_eq_true rfl⟩ (Nat.le_of_ble_eq_true rfl) dX11_readingsAnew_3 ⟨Nat.zero_le _, Nat.zero_le _⟩ (fun H locs G => ?_)
  exact aw_retl X G hf dX11_readingsAnew_6
def rm_X11_fitOf : Room := { frames := 4, cells := 0, slots := 0, locals := 100 }
def f_X11_fitOf_J60 (σ : Sg) (kb25 : Int32 → Int32 → Dt → Option (Int32 × Dt)) (t1 : Int32) (t0 : Int32) (x0 : Nat) (x4 : Int32) (d : Dt) : Option (Int32 × Dt) :=
  kb25 (t0 + t1) (x4 + 1) d
def f_X11_fitOf_B25 (σ : Sg) (kb25 : Int32 → Int32 → Dt → Option (Int32 × Dt)) (k25 : Int32 → Dt → Option (Int32 × Dt)) (x0 : Nat) (x3 : Int32) (x4 : Int32) (d : Dt) : Option (Int32 × Dt) :=
  aw_chk (aw_O σ 11 32 x0) (if (d.1 x0 2) ≤ x4 then k25 x3 d else (f_X11_areAlike σ x0 x4 (((20 : Int32)) + x4) d).bind (fun z_10 => if z_10.1 = 0 then f_X11_fitOf_J60 σ kb25 ((0 : Int32)) x3 x0 x4 z_10.2 else (σ.2.2 x0 5).bind (fun q_12 => aw_chk (aw_I σ 20 q_12 x4) (f_X11_fitOf_J60 σ kb25 (z_10.2.1 q_12 x4.toNatClampNeg) x3 x0 x4 z_10.2))))
def f_X11_fitOf_L25 (σ : Sg) (n : Nat) (k25 : Int32 → Dt → Option (Int32 × Dt)) (x0 : Nat) : Int32 → Int32 → Dt → Option (Int32 × Dt) := match n with
  | 0 => fun _ _ _ => none
  | n + 1 => fun x3 x4 d => f_X11_fitOf_B25 σ (f_X11_fitOf_L25 σ n k25 x0) k25 x0 x3 x4 d
def f_X11_fitOf (σ : Sg) (x0 : Nat) (x1 : Int32) (x2 : Int32) (d : Dt) : Option (Int32 × Dt) :=
  aw_chk (aw_O σ 11 32 x0) ((σ.2.2 x0 13).bind (fun q_2 => aw_chk (aw_I σ 20 q_2 x1) ((f_X11_spellsAll σ x0 x1 (d.1 q_2 x1.toNatClampNeg) ((0 : Int32)) d).bind (fun z_5 => (f_X11_spellsAll σ x0 x1 x2 ((20 : Int32)) z_5.2).bind (fun z_7 => f_X11_fitOf_L25 σ aw_FU (fun x3_15 d_16 => some (x3_15, d_16)) x0 ((0 : Int32)) ((0 : Int32)) z_7.2)))))
section W_X11_fitOf
variable {p : Program} {l : Launch} {e : Env} {s : State} {m : MethodId} {args : Array Value} {below : List Frame} {meth : Method} {c : Code}
variable {D : va_G} {cA : Nat → ClassId} {base : Nat} {ad : Nat → Nat} {σ : Sg}
set_option maxHeartbeats 4000000 in
set_option maxRecDepth 100000 in
theorem w_X11_fitOf_J60 {z : Int32 × Dt} (X : aw_X p c cX11_fitOf 5 s RX11 m meth (some .int)) {kb25 : Int32 → Int32 → Dt → Option (Int32 × Dt)} {t1 : Int32} {t0 : Int32} {x0 : Nat} {x4 : Int32} {d : Dt} (hf : f_X11_fitOf_J60 σ kb25 t1 t0 x0 x4 d = some z) (hkb25 : ∀ (y3 : Int32) (y4 : Int32) (d : Dt), kb25 y3 y4 d = some z → ∀ (H : Heap) (locs : List Loc) (ls : Array Slot), lv_has ls 5 [(0, .ref (ad x0)), (3, .int y3), (4, .int y4)] → aw_G D cA base ad σ d s H locs → W p l e rm_X11_fitOf s m args below meth c H locs 0 0 (aw_Ei D cA base ad σ below args s z) (F0 m 25 ls [])) {H : Heap} {locs : List Loc} {ls : Array Slot} (hl : lv_has ls 5 [(0, .ref (ad x0)), (4, .int x4)]) (G : aw_G D cA base ad σ d s H locs) : W p l e rm_X11_fitOf s m args below meth c H locs 0 0 (aw_Ei D cA base ad σ below args s z) (F0 m 60 ls [.int t1, .int t0]) := by
  have hx := X.1; have hb := X.2.1; have hml := X.2.2.1; have hown := X.2.2.2.1
  unfold f_X11_fitOf_J60 at hf
  refine lv_iadd hx hb dX11_fitOf_60 ?_
  refine lv_istore_n (lv' := [(3, .int (t0 + t1)), (0, .ref (ad x0)), (4, .int x4)]) hx hb dX11_fitOf_61 rfl hl (by decide) rfl (fun ls hl => ?_)
  refine lv_iinc (v := x4 + 1) (lv' := [(4, .int (x4 + 1)), (3, .int (t0 + t1)), (0, .ref (ad x0))]) hx hb dX11_fitOf_62 hl (k := 2) rfl rfl (by decide) rfl (fun ls hl => ?_)
  refine lv_goto (tgt := 25) hx hb dX11_fitOf_65 (by decide) ?_
  exact hkb25 _ _ _ hf _ _ _ (lv_sub hl [2, 1, 0] rfl) G
set_option maxHeartbeats 4000000 in
set_option maxRecDepth 100000 in
theorem w_X11_fitOf_B25 {z : Int32 × Dt} (X : aw_X p c cX11_fitOf 5 s RX11 m meth (some .int)) {kb25 : Int32 → Int32 → Dt → Option (Int32 × Dt)} {k25 : Int32 → Dt → Option (Int32 × Dt)} {x0 : Nat} {x3 : Int32} {x4 : Int32} {d : Dt} (hf : f_X11_fitOf_B25 σ kb25 k25 x0 x3 x4 d = some z) (hkb25 : ∀ (y3 : Int32) (y4 : Int32) (d : Dt), kb25 y3 y4 d = some z → ∀ (H : Heap) (locs : List Loc) (ls : Array Slot), lv_has ls 5 [(0, .ref (ad x0)), (3, .int y3), (4, .int y4)] → aw_G D cA base ad σ d s H locs → W p l e rm_X11_fitOf s m args below meth c H locs 0 0 (aw_Ei D cA base ad σ below args s z) (F0 m 25 ls [])) (hk25 : ∀ (y3 : Int32) (d : Dt), k25 y3 d = some z → ∀ (H : Heap) (locs : List Loc) (ls : Array Slot), lv_has ls 5 [(3, .int y3)] → aw_G D cA base ad σ d s H locs → W p l e rm_X11_fitOf s m args below meth c H locs 0 0 (aw_Ei D cA base ad σ below args s z) (F0 m 68 ls [])) {H : Heap} {locs : List Loc} {ls : Array Slot} (hl : lv_has ls 5 [(0, .ref (ad x0)), (3, .int x3), (4, .int x4)]) (G : aw_G D cA base ad σ d s H locs) : W p l e rm_X11_fitOf s m args below meth c H locs 0 0 (aw_Ei D cA base ad σ below args s z) (F0 m 25 ls []) := by
  have hx := X.1; have hb := X.2.1; have hml := X.2.2.1; have hown := X.2.2.2.1
  unfold f_X11_fitOf_B25 at hf
  refine lv_iload hx hb dX11_fitOf_25 (lv_at hl 2 rfl) ?_
  refine lv_aload_n hx hb dX11_fitOf_27 rfl (lv_at hl 0 rfl) ?_
  obtain ⟨hc_9, hf⟩ := aw_chk_some hf
  refine gf_X11_100 hx hb G hown hc_9 dX11_fitOf_28 ?_
  refine lv_icmp_ge (tgt := 68) hx hb dX11_fitOf_31 (by decide) (fun hc => ?_) (fun hc => ?_)
  · have hf := aw_ite_t hc hf
    exact hk25 _ _ hf _ _ _ (lv_sub hl [1] rfl) G
  · have hf := aw_ite_f hc hf
    refine lv_iload_n hx hb dX11_fitOf_34 rfl (lv_at hl 1 rfl) ?_
    refine lv_aload_n hx hb dX11_fitOf_35 rfl (lv_at hl 0 rfl) ?_
    refine lv_iload hx hb dX11_fitOf_36 (lv_at hl 2 rfl) ?_
    refine lv_bipush (v := (20 : Int32)) hx hb dX11_fitOf_38 (by decide) ?_
    refine lv_iload hx hb dX11_fitOf_40 (lv_at hl 2 rfl) ?_
    refine lv_iadd hx hb dX11_fitOf_42 ?_
    obtain ⟨z_10, hz_11, hf⟩ := aw_bind_some hf
    refine aw_VI (As := [.int x4, .int (((20 : Int32)) + x4)]) (rest := [.int x3]) X G hl.1 cr_X11_160 (c_X11_areAlike l hz_11) ⟨rfl, rfl⟩ rfl rfl rfl (by decide) hc_9 rfl ⟨Nat.le_of_ble_eq_true rfl, Nat.le_of_ble_eq_true rfl⟩ (Nat.le_of_ble_eq_true rfl) dX11_fitOf_43 ⟨Nat.zero_le _, Nat.zero_le _⟩ (fun H locs G => ?_)
    refine lv_if_eq (tgt := 59) hx hb dX11_fitOf_46 (by decide) (fun hc => ?_) (fun hc => ?_)
    · have hf := aw_ite_t hc hf
      refine lv_iconst (v := (0 : Int32)) hx hb dX11_fitOf_59 (by decide) ?_
      exact w_X11_fitOf_J60 X hf hkb25 (lv_sub hl [0, 2] rfl) G
    · have hf := aw_ite_f hc hf
      refine lv_aload_n hx hb dX11_fitOf_49 rfl (lv_at hl 0 rfl) ?_
      obtain ⟨q_12, hq_13, hf⟩ := aw_bind_some hf
      refine gf_X11_19 hx hb G hown hc_9 hq_13 dX11_fitOf_50 ?_
      refine lv_iload hx hb dX11_fitOf_53 (lv_at hl 2 rfl) ?_
      obtain ⟨hc_14, hf⟩ := aw_chk_some hf
      refine aw_ial hx hb G hc_14 dX11_fitOf_55 ?_
      refine lv_goto (tgt := 60) hx hb dX11_fitOf_56 (by decide) ?_
      exact w_X11_fitOf_J60 X hf hkb25 (lv_sub hl [0, 2] rfl) G
theorem w_X11_fitOf_L25 {z : Int32 × Dt} (X : aw_X p c cX11_fitOf 5 s RX11 m meth (some .int)) {k25 : Int32 → Dt → Option (Int32 × Dt)} {x0 : Nat} (n : Nat) {x3 : Int32} {x4 : Int32} {d : Dt} (hf : f_X11_fitOf_L25 σ n k25 x0 x3 x4 d = some z) (hk25 : ∀ (y3 : Int32) (d : Dt), k25 y3 d = some z → ∀ (H : Heap) (locs : List Loc) (ls : Array Slot), lv_has ls 5 [(3, .int y3)] → aw_G D cA base ad σ d s H locs → W p l e rm_X11_fitOf s m args below meth c H locs 0 0 (aw_Ei D cA base ad σ below args s z) (F0 m 68 ls [])) {H : Heap} {locs : List Loc} {ls : Array Slot} (hl : lv_has ls 5 [(0, .ref (ad x0)), (3, .int x3), (4, .int x4)]) (G : aw_G D cA base ad σ d s H locs) : W p l e rm_X11_fitOf s m args below meth c H locs 0 0 (aw_Ei D cA base ad σ below args s z) (F0 m 25 ls []) := by
  induction n generalizing x3 x4 d H locs ls with
  | zero => exact absurd (show (none : Option (Int32 × Dt)) = some z from hf) (by simp)
  | succ n ih => exact w_X11_fitOf_B25 X (kb25 := f_X11_fitOf_L25 σ n k25 x0) hf  (fun x3 x4 d hf H locs ls hl G => ih hf hl G) hk25 hl G
end W_X11_fitOf
set_option maxHeartbeats 4000000 in
set_option maxRecDepth 100000 in
theorem c_X11_fitOf (l : Launch) {σ : Sg} {x0 : Nat} {x1 : Int32} {x2 : Int32} {d : Dt} {z : Int32 × Dt} (hf : f_X11_fitOf σ x0 x1 x2 d = some z) : aw_Mi l yX11_fitOf (Cond.code yX11_fitOf cX11_fitOf 5 (some .int)) rm_X11_fitOf (fun ad => [.ref (ad x0), .int x1, .int x2]) σ d z := by
  intro D cA base ad
  refine aw_ofW (own := RX11) (cc := cX11_fitOf) (nL := 5) (ret := some .int) (by decide) rfl rfl ?_
  intro p e s m below meth c X hnm G
  have hx := X.1; have hb := X.2.1; have hml := X.2.2.1; have hown := X.2.2.2.1
  refine aw_ls (lv := [(0, .ref (ad x0)), (1, .int x1), (2, .int x2)]) (Nat.le_of_ble_eq_true rfl) rfl (fun ls hl => ?_)
  unfold f_X11_fitOf at hf
  refine lv_aload_n hx hb dX11_fitOf_0 rfl (lv_at hl 0 rfl) ?_
  refine lv_iload_n hx hb dX11_fitOf_1 rfl (lv_at hl 1 rfl) ?_
  refine lv_aload_n hx hb dX11_fitOf_2 rfl (lv_at hl 0 rfl) ?_
  obtain ⟨hc_1, hf⟩ := aw_chk_some hf
  obtain ⟨q_2, hq_3, hf⟩ := aw_bind_some hf
  refine gf_X11_41 hx hb G hown hc_1 hq_3 dX11_fitOf_3 ?_
  refine lv_iload_n hx hb dX11_fitOf_6 rfl (lv_at hl 1 rfl) ?_
  obtain ⟨hc_4, hf⟩ := aw_chk_some hf
  refine aw_ial hx hb G hc_4 dX11_fitOf_7 ?_
  refine lv_iconst (v := (0 : Int32)) hx hb dX11_fitOf_8 (by decide) ?_
  obtain ⟨z_5, hz_6, hf⟩ := aw_bind_some hf
  refine aw_VV (As := [.int x1, .int (d.1 q_2 x1.toNatClampNeg), .int ((0 : Int32))]) (rest := []) X G hl.1 cr_X11_156 (c_X11_spellsAll l hz_6) ⟨rfl, rfl⟩ rfl rfl rfl (by decide) hc_1 rfl ⟨Nat.le_of_ble_eq_true rfl, Nat.le_of_ble_eq_true rfl⟩ (Nat.le_of_ble_eq_true rfl) dX11_fitOf_9 ⟨Nat.zero_le _, Nat.zero_le _⟩ (fun H locs G => ?_)
  refine lv_aload_n hx hb dX11_fitOf_12 rfl (lv_at hl 0 rfl) ?_
  refine lv_iload_n hx hb dX11_fitOf_13 rfl (lv_at hl 1 rfl) ?_
  refine lv_iload_n hx hb dX11_fitOf_14 rfl (lv_at hl 2 rfl) ?_
  refine lv_bipush (v := (20 : Int32)) hx hb dX11_fitOf_15 (by decide) ?_
  obtain ⟨z_7, hz_8, hf⟩ := aw_bind_some hf
  refine aw_VV (As := [.int x1, .int x2, .int ((20 : Int32))]) (rest := []) X G hl.1 cr_X11_156 (c_X11_spellsAll l hz_8) ⟨rfl, rfl⟩ rfl rfl rfl (by decide) hc_1 rfl ⟨Nat.le_of_ble_eq_true rfl, Nat.le_of_ble_eq_true rfl⟩ (Nat.le_of_ble_eq_true rfl) dX11_fitOf_17 ⟨Nat.zero_le _, Nat.zero_le _⟩ (fun H locs G => ?_)
  refine lv_iconst (v := (0 : Int32)) hx hb dX11_fitOf_20 (by decide) ?_
  refine lv_istore_n (lv' := [(3, .int ((0 : Int32))), (0, .ref (ad x0)), (1, .int x1), (2, .int x2)]) hx hb dX11_fitOf_21 rfl hl (by decide) rfl (fun ls hl => ?_)
  refine lv_iconst (v := (0 : Int32)) hx hb dX11_fitOf_22 (by decide) ?_
  refine lv_istore (lv' := [(4, .int ((0 : Int32))), (3, .int ((0 : Int32))), (0, .ref (ad x0)), (1, .int x1), (2, .int x2)]) hx hb dX11_fitOf_23 hl (by decide) rfl (fun ls hl => ?_)
  refine w_X11_fitOf_L25 X aw_FU hf  (fun x3_15 d_16 hf H locs ls hl G => ?_) (lv_sub hl [2, 1, 0] rfl) G
  refine lv_iload_n hx hb dX11_fitOf_68 rfl (lv_at hl 0 rfl) ?_
  exact aw_reti X G hf dX11_fitOf_69
def rm_X11_fit : Room := { frames := 5, cells := 0, slots := 0, locals := 124 }
def f_X11_fit_J37 (σ : Sg) (t0 : Int32) (d : Dt) : Option (Int32 × Dt) :=
  some (t0, d)
def f_X11_fit_J21 (σ : Sg) (t1 : Int32) (t0 : Nat) (x0 : Nat) (x1 : Int32) (x2 : Int32) (d : Dt) : Option (Int32 × Dt) :=
  aw_chk (aw_O σ 11 32 t0) ((f_X11_fails σ t0 t1 d).bind (fun z_4 => if z_4.1 = 0 then aw_chk (aw_O σ 11 32 x0) ((f_X11_fitOf σ x0 x1 x2 z_4.2).bind (fun z_7 => f_X11_fit_J37 σ z_7.1 z_7.2)) else f_X11_fit_J37 σ ((0 : Int32)) z_4.2))
def f_X11_fit_J20 (σ : Sg) (t0 : Nat) (x0 : Nat) (x1 : Int32) (x2 : Int32) (d : Dt) : Option (Int32 × Dt) :=
  f_X11_fit_J21 σ ((1 : Int32)) t0 x0 x1 x2 d
def f_X11_fit (σ : Sg) (x0 : Nat) (x1 : Int32) (x2 : Int32) (d : Dt) : Option (Int32 × Dt) :=
  aw_chk (aw_O σ 11 32 x0) ((f_X11_isDesign σ x0 x1 d).bind (fun z_1 => if z_1.1 = 0 then f_X11_fit_J20 σ x0 x0 x1 x2 z_1.2 else (f_X11_isDialect σ x2 z_1.2).bind (fun z_10 => if z_10.1 = 0 then f_X11_fit_J20 σ x0 x0 x1 x2 z_10.2 else f_X11_fit_J21 σ ((0 : Int32)) x0 x0 x1 x2 z_10.2)))
section W_X11_fit
variable {p : Program} {l : Launch} {e : Env} {s : State} {m : MethodId} {args : Array Value} {below : List Frame} {meth : Method} {c : Code}
variable {D : va_G} {cA : Nat → ClassId} {base : Nat} {ad : Nat → Nat} {σ : Sg}
set_option maxHeartbeats 4000000 in
set_option maxRecDepth 100000 in
theorem w_X11_fit_J37 {z : Int32 × Dt} (X : aw_X p c cX11_fit 3 s RX11 m meth (some .int)) {t0 : Int32} {d : Dt} (hf : f_X11_fit_J37 σ t0 d = some z)  {H : Heap} {locs : List Loc} {ls : Array Slot} (hl : lv_has ls 3 []) (G : aw_G D cA base ad σ d s H locs) : W p l e rm_X11_fit s m args below meth c H locs 0 0 (aw_Ei D cA base ad σ below args s z) (F0 m 37 ls [.int t0]) := by
  have hx := X.1; have hb := X.2.1; have hml := X.2.2.1; have hown := X.2.2.2.1
  unfold f_X11_fit_J37 at hf
  exact aw_reti X G hf dX11_fit_37
set_option maxHeartbeats 4000000 in
set_option maxRecDepth 100000 in
theorem w_X11_fit_J21 {z : Int32 × Dt} (X : aw_X p c cX11_fit 3 s RX11 m meth (some .int)) {t1 : Int32} {t0 : Nat} {x0 : Nat} {x1 : Int32} {x2 : Int32} {d : Dt} (hf : f_X11_fit_J21 σ t1 t0 x0 x1 x2 d = some z)  {H : Heap} {locs : List Loc} {ls : Array Slot} (hl : lv_has ls 3 [(0, .ref (ad x0)), (1, .int x1), (2, .int x2)]) (G : aw_G D cA base ad σ d s H locs) : W p l e rm_X11_fit s m args below meth c H locs 0 0 (aw_Ei D cA base ad σ below args s z) (F0 m 21 ls [.int t1, .ref (ad t0)]) := by
  have hx := X.1; have hb := X.2.1; have hml := X.2.2.1; have hown := X.2.2.2.1
  unfold f_X11_fit_J21 at hf
  obtain ⟨hc_6, hf⟩ := aw_chk_some hf
  obtain ⟨z_4, hz_5, hf⟩ := aw_bind_some hf
  refine aw_VI (As := [.int t1]) (rest := []) X G hl.1 cr_X11_113 (c_X11_fails l hz_5) ⟨rfl, rfl⟩ rfl rfl rfl (by decide) hc_6 rfl ⟨Nat.le_of_ble_eq_true rfl, Nat.le_of_ble_eq_true rfl⟩ (Nat.le_of_ble_eq_true rfl) dX11_fit_21 ⟨Nat.zero_le _, Nat.zero_le _⟩ (fun H locs G => ?_)
  refine lv_if_eq (tgt := 31) hx hb dX11_fit_24 (by decide) (fun hc => ?_) (fun hc => ?_)
  · have hf := aw_ite_t hc hf
    refine lv_aload_n hx hb dX11_fit_31 rfl (lv_at hl 0 rfl) ?_
    refine lv_iload_n hx hb dX11_fit_32 rfl (lv_at hl 1 rfl) ?_
    refine lv_iload_n hx hb dX11_fit_33 rfl (lv_at hl 2 rfl) ?_
    obtain ⟨hc_9, hf⟩ := aw_chk_some hf
    obtain ⟨z_7, hz_8, hf⟩ := aw_bind_some hf
    refine aw_VI (As := [.int x1, .int x2]) (rest := []) X G hl.1 cr_X11_177 (c_X11_fitOf l hz_8) ⟨rfl, rfl⟩ rfl rfl rfl (by decide) hc_9 rfl ⟨Nat.le_of_ble_eq_true rfl, Nat.le_of_ble_eq_true rfl⟩ (Nat.le_of_ble_eq_true rfl) dX11_fit_34 ⟨Nat.zero_le _, Nat.zero_le _⟩ (fun H locs G => ?_)
    exact w_X11_fit_J37 X hf  (lv_sub hl [] rfl) G
  · have hf := aw_ite_f hc hf
    refine lv_iconst (v := (0 : Int32)) hx hb dX11_fit_27 (by decide) ?_
    refine lv_goto (tgt := 37) hx hb dX11_fit_28 (by decide) ?_
    exact w_X11_fit_J37 X hf  (lv_sub hl [] rfl) G
set_option maxHeartbeats 4000000 in
set_option maxRecDepth 100000 in
theorem w_X11_fit_J20 {z : Int32 × Dt} (X : aw_X p c cX11_fit 3 s RX11 m meth (some .int)) {t0 : Nat} {x0 : Nat} {x1 : Int32} {x2 : Int32} {d : Dt} (hf : f_X11_fit_J20 σ t0 x0 x1 x2 d = some z)  {H : Heap} {locs : List Loc} {ls : Array Slot} (hl : lv_has ls 3 [(0, .ref (ad x0)), (1, .int x1), (2, .int x2)]) (G : aw_G D cA base ad σ d s H locs) : W p l e rm_X11_fit s m args below meth c H locs 0 0 (aw_Ei D cA base ad σ below args s z) (F0 m 20 ls [.ref (ad t0)]) := by
  have hx := X.1; have hb := X.2.1; have hml := X.2.2.1; have hown := X.2.2.2.1
  unfold f_X11_fit_J20 at hf
  refine lv_iconst (v := (1 : Int32)) hx hb dX11_fit_20 (by decide) ?_
  exact w_X11_fit_J21 X hf  (lv_sub hl [0, 1, 2] rfl) G
end W_X11_fit
set_option maxHeartbeats 4000000 in
set_option maxRecDepth 100000 in
theorem c_X11_fit (l : Launch) {σ : Sg} {x0 : Nat} {x1 : Int32} {x2 : Int32} {d : Dt} {z : Int32 × Dt} (hf : f_X11_fit σ x0 x1 x2 d = some z) : aw_Mi l yX11_fit (Cond.code yX11_fit cX11_fit 3 (some .int)) rm_X11_fit (fun ad => [.ref (ad x0), .int x1, .int x2]) σ d z := by
  intro D cA base ad
  refine aw_ofW (own := RX11) (cc := cX11_fit) (nL := 3) (ret := some .int) (by decide) rfl rfl ?_
  intro p e s m below meth c X hnm G
  have hx := X.1; have hb := X.2.1; have hml := X.2.2.1; have hown := X.2.2.2.1
  refine aw_ls (lv := [(0, .ref (ad x0)), (1, .int x1), (2, .int x2)]) (Nat.le_of_ble_eq_true rfl) rfl (fun ls hl => ?_)
  unfold f_X11_fit at hf
  refine lv_aload_n hx hb dX11_fit_0 rfl (lv_at hl 0 rfl) ?_
  refine lv_aload_n hx hb dX11_fit_1 rfl (lv_at hl 0 rfl) ?_
  refine lv_iload_n hx hb dX11_fit_2 rfl (lv_at hl 1 rfl) ?_
  obtain ⟨hc_3, hf⟩ := aw_chk_some hf
  obtain ⟨z_1, hz_2, hf⟩ := aw_bind_some hf
  refine aw_VI (As := [.int x1]) (rest := [.ref (ad x0)]) X G hl.1 cr_X11_146 (c_X11_isDesign l hz_2) ⟨rfl, rfl⟩ rfl rfl rfl (by decide) hc_3 rfl ⟨Nat.le_of_ble_eq_true rfl, Nat.le_of_ble_eq_true rfl⟩ (Nat.le_of_ble_eq_true rfl) dX11_fit_3 ⟨Nat.zero_le _, Nat.zero_le _⟩ (fun H locs G => ?_)
  refine lv_if_eq (tgt := 20) hx hb dX11_fit_6 (by decide) (fun hc => ?_) (fun hc => ?_)
  · have hf := aw_ite_t hc hf
    exact w_X11_fit_J20 X hf  (lv_sub hl [0, 1, 2] rfl) G
  · have hf := aw_ite_f hc hf
    refine lv_iload_n hx hb dX11_fit_9 rfl (lv_at hl 2 rfl) ?_
    obtain ⟨z_10, hz_11, hf⟩ := aw_bind_some hf
    refine aw_SI (As := [.int x2]) (rest := [.ref (ad x0)]) X G hl.1 cr_X11_117 (c_X11_isDialect l hz_11) ⟨rfl, rfl⟩ rfl rfl rfl ⟨Nat.le_of_ble_eq_true rfl, Nat.le_of_ble_eq_true rfl⟩ (Nat.le_of_ble_eq_true rfl) dX11_fit_10 ⟨Nat.zero_le _, Nat.zero_le _⟩ (fun H locs G => ?_)
    refine lv_if_eq (tgt := 20) hx hb dX11_fit_13 (by decide) (fun hc => ?_) (fun hc => ?_)
    · have hf := aw_ite_t hc hf
      exact w_X11_fit_J20 X hf  (lv_sub hl [0, 1, 2] rfl) G
    · have hf := aw_ite_f hc hf
      refine lv_iconst (v := (0 : Int32)) hx hb dX11_fit_16 (by decide) ?_
      refine lv_goto (tgt := 21) hx hb dX11_fit_17 (by decide) ?_
      exact w_X11_fit_J21 X hf  (lv_sub hl [0, 1, 2] rfl) G
def rm_X11_strokes : Room := { frames := 0, cells := 0, slots := 0, locals := 0 }
def f_X11_strokes_J32 (σ : Sg) (t0 : Int32) (d : Dt) : Option (Int32 × Dt) :=
  some (t0, d)
def f_X11_strokes (σ : Sg) (x0 : Int32) (d : Dt) : Option (Int32 × Dt) :=
  if x0 ≤ ((999 : Int32)) then if x0 ≤ ((99 : Int32)) then if x0 ≤ ((9 : Int32)) then f_X11_strokes_J32 σ ((1 : Int32)) d else f_X11_strokes_J32 σ ((2 : Int32)) d else f_X11_strokes_J32 σ ((3 : Int32)) d else f_X11_strokes_J32 σ ((4 : Int32)) d
section W_X11_strokes
variable {p : Program} {l : Launch} {e : Env} {s : State} {m : MethodId} {args : Array Value} {below : List Frame} {meth : Method} {c : Code}
variable {D : va_G} {cA : Nat → ClassId} {base : Nat} {ad : Nat → Nat} {σ : Sg}
set_option maxHeartbeats 4000000 in
set_option maxRecDepth 100000 in
theorem w_X11_strokes_J32 {z : Int32 × Dt} (X : aw_X p c cX11_strokes 1 s RX11 m meth (some .int)) {t0 : Int32} {d : Dt} (hf : f_X11_strokes_J32 σ t0 d = some z)  {H : Heap} {locs : List Loc} {ls : Array Slot} (hl : lv_has ls 1 []) (G : aw_G D cA base ad σ d s H locs) : W p l e rm_X11_strokes s m args below meth c H locs 0 0 (aw_Ei D cA base ad σ below args s z) (F0 m 32 ls [.int t0]) := by
  have hx := X.1; have hb := X.2.1; have hml := X.2.2.1; have hown := X.2.2.2.1
  unfold f_X11_strokes_J32 at hf
  exact aw_reti X G hf dX11_strokes_32
end W_X11_strokes
set_option maxHeartbeats 4000000 in
set_option maxRecDepth 100000 in
theorem c_X11_strokes (l : Launch) {σ : Sg} {x0 : Int32} {d : Dt} {z : Int32 × Dt} (hf : f_X11_strokes σ x0 d = some z) : aw_Mi l yX11_strokes (Cond.code yX11_strokes cX11_strokes 1 (some .int)) rm_X11_strokes (fun ad => [.int x0]) σ d z := by
  intro D cA base ad
  refine aw_ofW (own := RX11) (cc := cX11_strokes) (nL := 1) (ret := some .int) (by decide) rfl rfl ?_
  intro p e s m below meth c X hnm G
  have hx := X.1; have hb := X.2.1; have hml := X.2.2.1; have hown := X.2.2.2.1
  refine aw_ls (lv := [(0, .int x0)]) (Nat.le_of_ble_eq_true rfl) rfl (fun ls hl => ?_)
  unfold f_X11_strokes at hf
  refine lv_iload_n hx hb dX11_strokes_0 rfl (lv_at hl 0 rfl) ?_
  refine lv_sipush (v := (999 : Int32)) hx hb dX11_strokes_1 (by decide) ?_
  refine lv_icmp_le (tgt := 11) hx hb dX11_strokes_4 (by decide) (fun hc => ?_) (fun hc => ?_)
  · have hf := aw_ite_t hc hf
    refine lv_iload_n hx hb dX11_strokes_11 rfl (lv_at hl 0 rfl) ?_
    refine lv_bipush (v := (99 : Int32)) hx hb dX11_strokes_12 (by decide) ?_
    refine lv_icmp_le (tgt := 21) hx hb dX11_strokes_14 (by decide) (fun hc => ?_) (fun hc => ?_)
    · have hf := aw_ite_t hc hf
      refine lv_iload_n hx hb dX11_strokes_21 rfl (lv_at hl 0 rfl) ?_
      refine lv_bipush (v := (9 : Int32)) hx hb dX11_strokes_22 (by decide) ?_
      refine lv_icmp_le (tgt := 31) hx hb dX11_strokes_24 (by decide) (fun hc => ?_) (fun hc => ?_)
      · have hf := aw_ite_t hc hf
        refine lv_iconst (v := (1 : Int32)) hx hb dX11_strokes_31 (by decide) ?_
        exact w_X11_strokes_J32 X hf  (lv_sub hl [] rfl) G
      · have hf := aw_ite_f hc hf
        refine lv_iconst (v := (2 : Int32)) hx hb dX11_strokes_27 (by decide) ?_
        refine lv_goto (tgt := 32) hx hb dX11_strokes_28 (by decide) ?_
        exact w_X11_strokes_J32 X hf  (lv_sub hl [] rfl) G
    · have hf := aw_ite_f hc hf
      refine lv_iconst (v := (3 : Int32)) hx hb dX11_strokes_17 (by decide) ?_
      refine lv_goto (tgt := 32) hx hb dX11_strokes_18 (by decide) ?_
      exact w_X11_strokes_J32 X hf  (lv_sub hl [] rfl) G
  · have hf := aw_ite_f hc hf
    refine lv_iconst (v := (4 : Int32)) hx hb dX11_strokes_7 (by decide) ?_
    refine lv_goto (tgt := 32) hx hb dX11_strokes_8 (by decide) ?_
    exact w_X11_strokes_J32 X hf  (lv_sub hl [] rfl) G
def rm_X11_shape : Room := { frames := 2, cells := 0, slots := 0, locals := 42 }
def f_X11_shape_B12 (σ : Sg) (kb12 : Int32 → Int32 → Dt → Option (Int32 × Dt)) (k12 : Int32 → Dt → Option (Int32 × Dt)) (x0 : Nat) (x1 : Int32) (x2 : Int32) (x3 : Int32) (x4 : Int32) (d : Dt) : Option (Int32 × Dt) :=
  if x3 = 0 then k12 x3 d else if x4 ≤ 0 then k12 x3 d else (f_X11_isIn σ (x4 - x4 / (10 : Int32) * (10 : Int32)) ((1 : Int32)) ((4 : Int32)) d).bind (fun z_3 => kb12 z_3.1 (x4 / (10 : Int32)) z_3.2)
def f_X11_shape_L12 (σ : Sg) (n : Nat) (k12 : Int32 → Dt → Option (Int32 × Dt)) (x0 : Nat) (x1 : Int32) (x2 : Int32) : Int32 → Int32 → Dt → Option (Int32 × Dt) := match n with
  | 0 => fun _ _ _ => none
  | n + 1 => fun x3 x4 d => f_X11_shape_B12 σ (f_X11_shape_L12 σ n k12 x0 x1 x2) k12 x0 x1 x2 x3 x4 d
def f_X11_shape_J63 (σ : Sg) (t1 : Int32) (t0 : Nat) (x0 : Nat) (x1 : Int32) (x2 : Int32) (d : Dt) : Option (Int32 × Dt) :=
  aw_chk (aw_O σ 11 32 t0) ((f_X11_fails σ t0 t1 d).bind (fun z_9 => if z_9.1 = 0 then aw_chk (aw_O σ 11 32 x0) ((σ.2.2 x0 17).bind (fun q_13 => aw_chk (aw_I σ 20 q_13 x1) (some (z_9.2.1 q_13 x1.toNatClampNeg, aw_sI z_9.2 q_13 x1.toNatClampNeg x2)))) else some ((0 : Int32), z_9.2)))
def f_X11_shape_J42 (σ : Sg) (x0 : Nat) (x1 : Int32) (x2 : Int32) (x3 : Int32) (d : Dt) : Option (Int32 × Dt) :=
  (f_X11_isSign σ x1 d).bind (fun z_7 => if z_7.1 = 0 then f_X11_shape_J63 σ ((1 : Int32)) x0 x0 x1 x2 z_7.2 else if x3 = 0 then f_X11_shape_J63 σ ((2 : Int32)) x0 x0 x1 x2 z_7.2 else f_X11_shape_J63 σ ((0 : Int32)) x0 x0 x1 x2 z_7.2)
def f_X11_shape (σ : Sg) (x0 : Nat) (x1 : Int32) (x2 : Int32) (d : Dt) : Option (Int32 × Dt) :=
  (f_X11_isIn σ x2 ((1 : Int32)) ((4444 : Int32)) d).bind (fun z_1 => f_X11_shape_L12 σ aw_FU (fun x3_5 d_6 => f_X11_shape_J42 σ x0 x1 x2 x3_5 d_6) x0 x1 x2 z_1.1 x2 z_1.2)
section W_X11_shape
variable {p : Program} {l : Launch} {e : Env} {s : State} {m : MethodId} {args : Array Value} {below : List Frame} {meth : Method} {c : Code}
variable {D : va_G} {cA : Nat → ClassId} {base : Nat} {ad : Nat → Nat} {σ : Sg}
set_option maxHeartbeats 4000000 in
set_option maxRecDepth 100000 in
theorem w_X11_shape_B12 {z : Int32 × Dt} (X : aw_X p c cX11_shape 5 s RX11 m meth (some .int)) {kb12 : Int32 → Int32 → Dt → Option (Int32 × Dt)} {k12 : Int32 → Dt → Option (Int32 × Dt)} {x0 : Nat} {x1 : Int32} {x2 : Int32} {x3 : Int32} {x4 : Int32} {d : Dt} (hf : f_X11_shape_B12 σ kb12 k12 x0 x1 x2 x3 x4 d = some z) (hkb12 : ∀ (y3 : Int32) (y4 : Int32) (d : Dt), kb12 y3 y4 d = some z → ∀ (H : Heap) (locs : List Loc) (ls : Array Slot), lv_has ls 5 [(0, .ref (ad x0)), (1, .int x1), (2, .int x2), (3, .int y3), (4, .int y4)] → aw_G D cA base ad σ d s H locs → W p l e rm_X11_shape s m args below meth c H locs 0 0 (aw_Ei D cA base ad σ below args s z) (F0 m 12 ls [])) (hk12 : ∀ (y3 : Int32) (d : Dt), k12 y3 d = some z → ∀ (H : Heap) (locs : List Loc) (ls : Array Slot), lv_has ls 5 [(0, .ref (ad x0)), (1, .int x1), (2, .int x2), (3, .int y3)] → aw_G D cA base ad σ d s H locs → W p l e rm_X11_shape s m args below meth c H locs 0 0 (aw_Ei D cA base ad σ below args s z) (F0 m 42 ls [])) {H : Heap} {locs : List Loc} {ls : Array Slot} (hl : lv_has ls 5 [(0, .ref (ad x0)), (1, .int x1), (2, .int x2), (3, .int x3), (4, .int x4)]) (G : aw_G D cA base ad σ d s H locs) : W p l e rm_X11_shape s m args below meth c H locs 0 0 (aw_Ei D cA base ad σ below args s z) (F0 m 12 ls []) := by
  have hx := X.1; have hb := X.2.1; have hml := X.2.2.1; have hown := X.2.2.2.1
  unfold f_X11_shape_B12 at hf
  refine lv_iload_n hx hb dX11_shape_12 rfl (lv_at hl 3 rfl) ?_
  refine lv_if_eq (tgt := 42) hx hb dX11_shape_13 (by decide) (fun hc => ?_) (fun hc => ?_)
  · have hf := aw_ite_t hc hf
    exact hk12 _ _ hf _ _ _ (lv_sub hl [0, 1, 2, 3] rfl) G
  · have hf := aw_ite_f hc hf
    refine lv_iload hx hb dX11_shape_16 (lv_at hl 4 rfl) ?_
    refine lv_if_le (tgt := 42) hx hb dX11_shape_18 (by decide) (fun hc => ?_) (fun hc => ?_)
    · have hf := aw_ite_t hc hf
      exact hk12 _ _ hf _ _ _ (lv_sub hl [0, 1, 2, 3] rfl) G
    · have hf := aw_ite_f hc hf
      refine lv_iload hx hb dX11_shape_21 (lv_at hl 4 rfl) ?_
      refine lv_bipush (v := (10 : Int32)) hx hb dX11_shape_23 (by decide) ?_
      refine lv_irem hx hb dX11_shape_25 (by decide) ?_
      refine lv_iconst (v := (1 : Int32)) hx hb dX11_shape_26 (by decide) ?_
      refine lv_iconst (v := (4 : Int32)) hx hb dX11_shape_27 (by decide) ?_
      obtain ⟨z_3, hz_4, hf⟩ := aw_bind_some hf
      refine aw_SI (As := [.int (x4 - x4 / (10 : Int32) * (10 : Int32)), .int ((1 : Int32)), .int ((4 : Int32))]) (rest := []) X G hl.1 cr_X11_103 (c_X11_isIn l hz_4) ⟨rfl, rfl⟩ rfl rfl rfl ⟨Nat.le_of_ble_eq_true rfl, Nat.le_of_ble_eq_true rfl⟩ (Nat.le_of_ble_eq_true rfl) dX11_shape_28 ⟨Nat.zero_le _, Nat.zero_le _⟩ (fun H locs G => ?_)
      refine lv_istore_n (lv' := [(3, .int z_3.1), (0, .ref (ad x0)), (1, .int x1), (2, .int x2), (4, .int x4)]) hx hb dX11_shape_31 rfl hl (by decide) rfl (fun ls hl => ?_)
      refine lv_iload hx hb dX11_shape_32 (lv_at hl 4 rfl) ?_
      refine lv_bipush (v := (10 : Int32)) hx hb dX11_shape_34 (by decide) ?_
      refine lv_idiv hx hb dX11_shape_36 (by decide) ?_
      refine lv_istore (lv' := [(4, .int (x4 / (10 : Int32))), (3, .int z_3.1), (0, .ref (ad x0)), (1, .int x1), (2, .int x2)]) hx hb dX11_shape_37 hl (by decide) rfl (fun ls hl => ?_)
      refine lv_goto (tgt := 12) hx hb dX11_shape_39 (by decide) ?_
      exact hkb12 _ _ _ hf _ _ _ (lv_sub hl [2, 3, 4, 1, 0] rfl) G
theorem w_X11_shape_L12 {z : Int32 × Dt} (X : aw_X p c cX11_shape 5 s RX11 m meth (some .int)) {k12 : Int32 → Dt → Option (Int32 × Dt)} {x0 : Nat} {x1 : Int32} {x2 : Int32} (n : Nat) {x3 : Int32} {x4 : Int32} {d : Dt} (hf : f_X11_shape_L12 σ n k12 x0 x1 x2 x3 x4 d = some z) (hk12 : ∀ (y3 : Int32) (d : Dt), k12 y3 d = some z → ∀ (H : Heap) (locs : List Loc) (ls : Array Slot), lv_has ls 5 [(0, .ref (ad x0)), (1, .int x1), (2, .int x2), (3, .int y3)] → aw_G D cA base ad σ d s H locs → W p l e rm_X11_shape s m args below meth c H locs 0 0 (aw_Ei D cA base ad σ below args s z) (F0 m 42 ls [])) {H : Heap} {locs : List Loc} {ls : Array Slot} (hl : lv_has ls 5 [(0, .ref (ad x0)), (1, .int x1), (2, .int x2), (3, .int x3), (4, .int x4)]) (G : aw_G D cA base ad σ d s H locs) : W p l e rm_X11_shape s m args below meth c H locs 0 0 (aw_Ei D cA base ad σ below args s z) (F0 m 12 ls []) := by
  induction n generalizing x3 x4 d H locs ls with
  | zero => exact absurd (show (none : Option (Int32 × Dt)) = some z from hf) (by simp)
  | succ n ih => exact w_X11_shape_B12 X (kb12 := f_X11_shape_L12 σ n k12 x0 x1 x2) hf  (fun x3 x4 d hf H locs ls hl G => ih hf hl G) hk12 hl G
set_option maxHeartbeats 4000000 in
set_option maxRecDepth 100000 in
theorem w_X11_shape_J63 {z : Int32 × Dt} (X : aw_X p c cX11_shape 5 s RX11 m meth (some .int)) {t1 : Int32} {t0 : Nat} {x0 : Nat} {x1 : Int32} {x2 : Int32} {d : Dt} (hf : f_X11_shape_J63 σ t1 t0 x0 x1 x2 d = some z)  {H : Heap} {locs : List Loc} {ls : Array Slot} (hl : lv_has ls 5 [(0, .ref (ad x0)), (1, .int x1), (2, .int x2)]) (G : aw_G D cA base ad σ d s H locs) : W p l e rm_X11_shape s m args below meth c H locs 0 0 (aw_Ei D cA base ad σ below args s z) (F0 m 63 ls [.int t1, .ref (ad t0)]) := by
  have hx := X.1; have hb := X.2.1; have hml := X.2.2.1; have hown := X.2.2.2.1
  unfold f_X11_shape_J63 at hf
  obtain ⟨hc_11, hf⟩ := aw_chk_some hf
  obtain ⟨z_9, hz_10, hf⟩ := aw_bind_some hf
  refine aw_VI (As := [.int t1]) (rest := []) X G hl.1 cr_X11_113 (c_X11_fails l hz_10) ⟨rfl, rfl⟩ rfl rfl rfl (by decide) hc_11 rfl ⟨Nat.le_of_ble_eq_true rfl, Nat.le_of_ble_eq_true rfl⟩ (Nat.le_of_ble_eq_true rfl) dX11_shape_63 ⟨Nat.zero_le _, Nat.zero_le _⟩ (fun H locs G => ?_)
  refine lv_if_eq (tgt := 71) hx hb dX11_shape_66 (by decide) (fun hc => ?_) (fun hc => ?_)
  · have hf := aw_ite_t hc hf
    refine lv_aload_n hx hb dX11_shape_71 rfl (lv_at hl 0 rfl) ?_
    obtain ⟨hc_12, hf⟩ := aw_chk_some hf
    obtain ⟨q_13, hq_14, hf⟩ := aw_bind_some hf
    refine gf_X11_53 hx hb G hown hc_12 hq_14 dX11_shape_72 ?_
    refine lv_iload_n hx hb dX11_shape_75 rfl (lv_at hl 1 rfl) ?_
    obtain ⟨hc_15, hf⟩ := aw_chk_some hf
    refine aw_ial hx hb G hc_15 dX11_shape_76 ?_
    refine lv_istore (lv' := [(4, .int (z_9.2.1 q_13 x1.toNatClampNeg)), (0, .ref (ad x0)), (1, .int x1), (2, .int x2)]) hx hb dX11_shape_77 hl (by decide) rfl (fun ls hl => ?_)
    refine lv_aload_n hx hb dX11_shape_79 rfl (lv_at hl 1 rfl) ?_
    refine gf_X11_53 hx hb G hown hc_12 hq_14 dX11_shape_80 ?_
    refine lv_iload_n hx hb dX11_shape_83 rfl (lv_at hl 2 rfl) ?_
    refine lv_iload_n hx hb dX11_shape_84 rfl (lv_at hl 3 rfl) ?_
    refine aw_ias hx hb G hc_15 dX11_shape_85 (fun H locs G => ?_)
    refine lv_iload hx hb dX11_shape_86 (lv_at hl 0 rfl) ?_
    exact aw_reti X G hf dX11_shape_88
  · have hf := aw_ite_f hc hf
    refine lv_iconst (v := (0 : Int32)) hx hb dX11_shape_69 (by decide) ?_
    exact aw_reti X G hf dX11_shape_70
set_option maxHeartbeats 4000000 in
set_option maxRecDepth 100000 in
theorem w_X11_shape_J42 {z : Int32 × Dt} (X : aw_X p c cX11_shape 5 s RX11 m meth (some .int)) {x0 : Nat} {x1 : Int32} {x2 : Int32} {x3 : Int32} {d : Dt} (hf : f_X11_shape_J42 σ x0 x1 x2 x3 d = some z)  {H : Heap} {locs : List Loc} {ls : Array Slot} (hl : lv_has ls 5 [(0, .ref (ad x0)), (1, .int x1), (2, .int x2), (3, .int x3)]) (G : aw_G D cA base ad σ d s H locs) : W p l e rm_X11_shape s m args below meth c H locs 0 0 (aw_Ei D cA base ad σ below args s z) (F0 m 42 ls []) := by
  have hx := X.1; have hb := X.2.1; have hml := X.2.2.1; have hown := X.2.2.2.1
  unfold f_X11_shape_J42 at hf
  refine lv_aload_n hx hb dX11_shape_42 rfl (lv_at hl 0 rfl) ?_
  refine lv_iload_n hx hb dX11_shape_43 rfl (lv_at hl 1 rfl) ?_
  obtain ⟨z_7, hz_8, hf⟩ := aw_bind_some hf
  refine aw_SI (As := [.int x1]) (rest := [.ref (ad x0)]) X G hl.1 cr_X11_149 (c_X11_isSign l hz_8) ⟨rfl, rfl⟩ rfl rfl rfl ⟨Nat.le_of_ble_eq_true rfl, Nat.le_of_ble_eq_true rfl⟩ (Nat.le_of_ble_eq_true rfl) dX11_shape_44 ⟨Nat.zero_le _, Nat.zero_le _⟩ (fun H locs G => ?_)
  refine lv_if_ne (tgt := 54) hx hb dX11_shape_47 (by decide) (fun hc => ?_) (fun hc => ?_)
  · have hf := aw_ite_f hc hf
    refine lv_iload_n hx hb dX11_shape_54 rfl (lv_at hl 3 rfl) ?_
    refine lv_if_eq (tgt := 62) hx hb dX11_shape_55 (by decide) (fun hc => ?_) (fun hc => ?_)
    · have hf := aw_ite_t hc hf
      refine lv_iconst (v := (2 : Int32)) hx hb dX11_shape_62 (by decide) ?_
      exact w_X11_shape_J63 X hf  (lv_sub hl [0, 1, 2] rfl) G
    · have hf := aw_ite_f hc hf
      refine lv_iconst (v := (0 : Int32)) hx hb dX11_shape_58 (by decide) ?_
      refine lv_goto (tgt := 63) hx hb dX11_shape_59 (by decide) ?_
      exact w_X11_shape_J63 X hf  (lv_sub hl [0, 1, 2] rfl) G
  · have hf := aw_ite_t hc hf
    refine lv_iconst (v := (1 : Int32)) hx hb dX11_shape_50 (by decide) ?_
    refine lv_goto (tgt := 63) hx hb dX11_shape_51 (by decide) ?_
    exact w_X11_shape_J63 X hf  (lv_sub hl [0, 1, 2] rfl) G
end W_X11_shape
set_option maxHeartbeats 4000000 in
set_option maxRecDepth 100000 in
theorem c_X11_shape (l : Launch) {σ : Sg} {x0 : Nat} {x1 : Int32} {x2 : Int32} {d : Dt} {z : Int32 × Dt} (hf : f_X11_shape σ x0 x1 x2 d = some z) : aw_Mi l yX11_shape (Cond.code yX11_shape cX11_shape 5 (some .int)) rm_X11_shape (fun ad => [.ref (ad x0), .int x1, .int x2]) σ d z := by
  intro D cA base ad
  refine aw_ofW (own := RX11) (cc := cX11_shape) (nL := 5) (ret := some .int) (by decide) rfl rfl ?_
  intro p e s m below meth c X hnm G
  have hx := X.1; have hb := X.2.1; have hml := X.2.2.1; have hown := X.2.2.2.1
  refine aw_ls (lv := [(0, .ref (ad x0)), (1, .int x1), (2, .int x2)]) (Nat.le_of_ble_eq_true rfl) rfl (fun ls hl => ?_)
  unfold f_X11_shape at hf
  refine lv_iload_n hx hb dX11_shape_0 rfl (lv_at hl 2 rfl) ?_
  refine lv_iconst (v := (1 : Int32)) hx hb dX11_shape_1 (by decide) ?_
  refine lv_sipush (v := (4444 : Int32)) hx hb dX11_shape_2 (by decide) ?_
  obtain ⟨z_1, hz_2, hf⟩ := aw_bind_some hf
  refine aw_SI (As := [.int x2, .int ((1 : Int32)), .int ((4444 : Int32))]) (rest := []) X G hl.1 cr_X11_103 (c_X11_isIn l hz_2) ⟨rfl, rfl⟩ rfl rfl rfl ⟨Nat.le_of_ble_eq_true rfl, Nat.le_of_ble_eq_true rfl⟩ (Nat.le_of_ble_eq_true rfl) dX11_shape_5 ⟨Nat.zero_le _, Nat.zero_le _⟩ (fun H locs G => ?_)
  refine lv_istore_n (lv' := [(3, .int z_1.1), (0, .ref (ad x0)), (1, .int x1), (2, .int x2)]) hx hb dX11_shape_8 rfl hl (by decide) rfl (fun ls hl => ?_)
  refine lv_iload_n hx hb dX11_shape_9 rfl (lv_at hl 3 rfl) ?_
  refine lv_istore (lv' := [(4, .int x2), (3, .int z_1.1), (0, .ref (ad x0)), (1, .int x1), (2, .int x2)]) hx hb dX11_shape_10 hl (by decide) rfl (fun ls hl => ?_)
  refine w_X11_shape_L12 X aw_FU hf  (fun x3_5 d_6 hf H locs ls hl G => ?_) (lv_sub hl [2, 3, 4, 1, 0] rfl) G
  exact w_X11_shape_J42 X hf  (lv_sub hl [0, 1, 2, 3] rfl) G
def rm_X11_lesser : Room := { frames := 0, cells := 0, slots := 0, locals := 0 }
def f_X11_lesser_J10 (σ : Sg) (t0 : Int32) (d : Dt) : Option (Int32 × Dt) :=
  some (t0, d)
def f_X11_lesser (σ : Sg) (x0 : Int32) (x1 : Int32) (d : Dt) : Option (Int32 × Dt) :=
  if x1 ≤ x0 then f_X11_lesser_J10 σ x1 d else f_X11_lesser_J10 σ x0 d
section W_X11_lesser
variable {p : Program} {l : Launch} {e : Env} {s : State} {m : MethodId} {args : Array Value} {below : List Frame} {meth : Method} {c : Code}
variable {D : va_G} {cA : Nat → ClassId} {base : Nat} {ad : Nat → Nat} {σ : Sg}
set_option maxHeartbeats 4000000 in
set_option maxRecDepth 100000 in
theorem w_X11_lesser_J10 {z : Int32 × Dt} (X : aw_X p c cX11_lesser 2 s RX11 m meth (some .int)) {t0 : Int32} {d : Dt} (hf : f_X11_lesser_J10 σ t0 d = some z)  {H : Heap} {locs : List Loc} {ls : Array Slot} (hl : lv_has ls 2 []) (G : aw_G D cA base ad σ d s H locs) : W p l e rm_X11_lesser s m args below meth c H locs 0 0 (aw_Ei D cA base ad σ below args s z) (F0 m 10 ls [.int t0]) := by
  have hx := X.1; have hb := X.2.1; have hml := X.2.2.1; have hown := X.2.2.2.1
  unfold f_X11_lesser_J10 at hf
  exact aw_reti X G hf dX11_lesser_10
end W_X11_lesser
set_option maxHeartbeats 4000000 in
set_option maxRecDepth 100000 in
theorem c_X11_lesser (l : Launch) {σ : Sg} {x0 : Int32} {x1 : Int32} {d : Dt} {z : Int32 × Dt} (hf : f_X11_lesser σ x0 x1 d = some z) : aw_Mi l yX11_lesser (Cond.code yX11_lesser cX11_lesser 2 (some .int)) rm_X11_lesser (fun ad => [.int x0, .int x1]) σ d z := by
  intro D cA base ad
  refine aw_ofW (own := RX11) (cc := cX11_lesser) (nL := 2) (ret := some .int) (by decide) rfl rfl ?_
  intro p e s m below meth c X hnm G
  have hx := X.1; have hb := X.2.1; have hml := X.2.2.1; have hown := X.2.2.2.1
  refine aw_ls (lv := [(0, .int x0), (1, .int x1)]) (Nat.le_of_ble_eq_true rfl) rfl (fun ls hl => ?_)
  unfold f_X11_lesser at hf
  refine lv_iload_n hx hb dX11_lesser_0 rfl (lv_at hl 0 rfl) ?_
  refine lv_iload_n hx hb dX11_lesser_1 rfl (lv_at hl 1 rfl) ?_
  refine lv_icmp_ge (tgt := 9) hx hb dX11_lesser_2 (by decide) (fun hc => ?_) (fun hc => ?_)
  · have hf := aw_ite_t hc hf
    refine lv_iload_n hx hb dX11_lesser_9 rfl (lv_at hl 1 rfl) ?_
    exact w_X11_lesser_J10 X hf  (lv_sub hl [] rfl) G
  · have hf := aw_ite_f hc hf
    refine lv_iload_n hx hb dX11_lesser_5 rfl (lv_at hl 0 rfl) ?_
    refine lv_goto (tgt := 10) hx hb dX11_lesser_6 (by decide) ?_
    exact w_X11_lesser_J10 X hf  (lv_sub hl [] rfl) G
def rm_X11_far : Room := { frames := 1, cells := 0, slots := 0, locals := 21 }
def f_X11_far_B8 (σ : Sg) (kb8 : Int32 → Dt → Option (Int32 × Dt)) (k8 : Dt → Option (Int32 × Dt)) (x0 : Nat) (x1 : Int32) (x2 : Int32) (x3 : Int32) (x4 : Int32) (d : Dt) : Option (Int32 × Dt) :=
  if x3 < x4 then k8 d else aw_chk (aw_O σ 11 32 x0) ((σ.2.2 x0 30).bind (fun q_4 => aw_chk (aw_I σ 20 q_4 x4) (kb8 (x4 + 1) (aw_sI d q_4 x4.toNatClampNeg x4))))
def f_X11_far_L8 (σ : Sg) (n : Nat) (k8 : Dt → Option (Int32 × Dt)) (x0 : Nat) (x1 : Int32) (x2 : Int32) (x3 : Int32) : Int32 → Dt → Option (Int32 × Dt) := match n with
  | 0 => fun _ _ => none
  | n + 1 => fun x4 d => f_X11_far_B8 σ (f_X11_far_L8 σ n k8 x0 x1 x2 x3) k8 x0 x1 x2 x3 x4 d
def f_X11_far_J96 (σ : Sg) (kb61 : Int32 → Int32 → Int32 → Dt → Option (Int32 × Dt)) (t1 : Int32) (t0 : Int32) (x0 : Nat) (x2 : Int32) (x3 : Int32) (x4 : Int32) (x5 : Int32) (x7 : Int32) (x8 : Int32) (x9 : Int32) (d : Dt) : Option (Int32 × Dt) :=
  aw_chk (aw_O σ 11 32 x0) ((σ.2.2 x0 30).bind (fun q_17 => aw_chk (aw_I σ 20 q_17 (x8 - ((1 : Int32)))) ((f_X11_lesser σ x9 (d.1 q_17 (x8 - ((1 : Int32))).toNatClampNeg) d).bind (fun z_20 => (f_X11_lesser σ (t0 + t1) (z_20.1 + ((1 : Int32))) z_20.2).bind (fun z_22 => aw_chk (aw_I σ 20 q_17 x8) (kb61 x9 (x7 / (10 : Int32)) (x8 + 1) (aw_sI z_22.2 q_17 x8.toNatClampNeg z_22.1)))))))
def f_X11_far_B61 (σ : Sg) (kb61 : Int32 → Int32 → Int32 → Dt → Option (Int32 × Dt)) (k61 : Dt → Option (Int32 × Dt)) (x0 : Nat) (x2 : Int32) (x3 : Int32) (x4 : Int32) (x5 : Int32) (x6 : Int32) (x7 : Int32) (x8 : Int32) (d : Dt) : Option (Int32 × Dt) :=
  if x3 < x8 then k61 d else aw_chk (aw_O σ 11 32 x0) ((σ.2.2 x0 30).bind (fun q_13 => aw_chk (aw_I σ 20 q_13 x8) (if (x5 - x5 / (10 : Int32) * (10 : Int32)) = (x7 - x7 / (10 : Int32) * (10 : Int32)) then f_X11_far_J96 σ kb61 ((0 : Int32)) x6 x0 x2 x3 x4 x5 x7 x8 (d.1 q_13 x8.toNatClampNeg) d else f_X11_far_J96 σ kb61 ((1 : Int32)) x6 x0 x2 x3 x4 x5 x7 x8 (d.1 q_13 x8.toNatClampNeg) d)))
def f_X11_far_L61 (σ : Sg) (n : Nat) (k61 : Dt → Option (Int32 × Dt)) (x0 : Nat) (x2 : Int32) (x3 : Int32) (x4 : Int32) (x5 : Int32) : Int32 → Int32 → Int32 → Dt → Option (Int32 × Dt) := match n with
  | 0 => fun _ _ _ _ => none
  | n + 1 => fun x6 x7 x8 d => f_X11_far_B61 σ (f_X11_far_L61 σ n k61 x0 x2 x3 x4 x5) k61 x0 x2 x3 x4 x5 x6 x7 x8 d
def f_X11_far_B35 (σ : Sg) (kb35 : Int32 → Int32 → Dt → Option (Int32 × Dt)) (k35 : Dt → Option (Int32 × Dt)) (x0 : Nat) (x2 : Int32) (x3 : Int32) (x4 : Int32) (x5 : Int32) (d : Dt) : Option (Int32 × Dt) :=
  if x5 ≤ 0 then k35 d else aw_chk (aw_O σ 11 32 x0) ((σ.2.2 x0 30).bind (fun q_9 => aw_chk (aw_I σ 20 q_9 ((0 : Int32))) (f_X11_far_L61 σ aw_FU (fun d_25 => kb35 (x4 + 1) (x5 / (10 : Int32)) d_25) x0 x2 x3 (x4 + 1) x5 x4 x2 ((1 : Int32)) (aw_sI d q_9 ((0 : Int32)).toNatClampNeg (x4 + 1)))))
def f_X11_far_L35 (σ : Sg) (n : Nat) (k35 : Dt → Option (Int32 × Dt)) (x0 : Nat) (x2 : Int32) (x3 : Int32) : Int32 → Int32 → Dt → Option (Int32 × Dt) := match n with
  | 0 => fun _ _ _ => none
  | n + 1 => fun x4 x5 d => f_X11_far_B35 σ (f_X11_far_L35 σ n k35 x0 x2 x3) k35 x0 x2 x3 x4 x5 d
def f_X11_far (σ : Sg) (x0 : Nat) (x1 : Int32) (x2 : Int32) (d : Dt) : Option (Int32 × Dt) :=
  (f_X11_strokes σ x2 d).bind (fun z_1 => f_X11_far_L8 σ aw_FU (fun d_7 => f_X11_far_L35 σ aw_FU (fun d_26 => aw_chk (aw_O σ 11 32 x0) ((σ.2.2 x0 30).bind (fun q_28 => aw_chk (aw_I σ 20 q_28 z_1.1) (some (d_26.1 q_28 z_1.1.toNatClampNeg, d_26))))) x0 x2 z_1.1 ((0 : Int32)) x1 d_7) x0 x1 x2 z_1.1 ((0 : Int32)) z_1.2)
section W_X11_far
variable {p : Program} {l : Launch} {e : Env} {s : State} {m : MethodId} {args : Array Value} {below : List Frame} {meth : Method} {c : Code}
variable {D : va_G} {cA : Nat → ClassId} {base : Nat} {ad : Nat → Nat} {σ : Sg}
set_option maxHeartbeats 4000000 in
set_option maxRecDepth 100000 in
theorem w_X11_far_B8 {z : Int32 × Dt} (X : aw_X p c cX11_far 11 s RX11 m meth (some .int)) {kb8 : Int32 → Dt → Option (Int32 × Dt)} {k8 : Dt → Option (Int32 × Dt)} {x0 : Nat} {x1 : Int32} {x2 : Int32} {x3 : Int32} {x4 : Int32} {d : Dt} (hf : f_X11_far_B8 σ kb8 k8 x0 x1 x2 x3 x4 d = some z) (hkb8 : ∀ (y4 : Int32) (d : Dt), kb8 y4 d = some z → ∀ (H : Heap) (locs : List Loc) (ls : Array Slot), lv_has ls 11 [(0, .ref (ad x0)), (1, .int x1), (2, .int x2), (3, .int x3), (4, .int y4)] → aw_G D cA base ad σ d s H locs → W p l e rm_X11_far s m args below meth c H locs 0 0 (aw_Ei D cA base ad σ below args s z) (F0 m 8 ls [])) (hk8 : ∀ (d : Dt), k8 d = some z → ∀ (H : Heap) (locs : List Loc) (ls : Array Slot), lv_has ls 11 [(0, .ref (ad x0)), (1, .int x1), (2, .int x2), (3, .int x3)] → aw_G D cA base ad σ d s H locs → W p l e rm_X11_far s m args below meth c H locs 0 0 (aw_Ei D cA base ad σ below args s z) (F0 m 29 ls [])) {H : Heap} {locs : List Loc} {ls : Array Slot} (hl : lv_has ls 11 [(0, .ref (ad x0)), (1, .int x1), (2, .int x2), (3, .int x3), (4, .int x4)]) (G : aw_G D cA base ad σ d s H locs) : W p l e rm_X11_far s m args below meth c H locs 0 0 (aw_Ei D cA base ad σ below args s z) (F0 m 8 ls []) := by
  have hx := X.1; have hb := X.2.1; have hml := X.2.2.1; have hown := X.2.2.2.1
  unfold f_X11_far_B8 at hf
  refine lv_iload hx hb dX11_far_8 (lv_at hl 4 rfl) ?_
  refine lv_iload_n hx hb dX11_far_10 rfl (lv_at hl 3 rfl) ?_
  refine lv_icmp_gt (tgt := 29) hx hb dX11_far_11 (by decide) (fun hc => ?_) (fun hc => ?_)
  · have hf := aw_ite_t hc hf
    exact hk8 _ hf _ _ _ (lv_sub hl [0, 1, 2, 3] rfl) G
  · have hf := aw_ite_f hc hf
    refine lv_aload_n hx hb dX11_far_14 rfl (lv_at hl 0 rfl) ?_
    obtain ⟨hc_3, hf⟩ := aw_chk_some hf
    obtain ⟨q_4, hq_5, hf⟩ := aw_bind_some hf
    refine gf_X11_93 hx hb G hown hc_3 hq_5 dX11_far_15 ?_
    refine lv_iload hx hb dX11_far_18 (lv_at hl 4 rfl) ?_
    refine lv_iload hx hb dX11_far_20 (lv_at hl 4 rfl) ?_
    obtain ⟨hc_6, hf⟩ := aw_chk_some hf
    refine aw_ias hx hb G hc_6 dX11_far_22 (fun H locs G => ?_)
    refine lv_iinc (v := x4 + 1) (lv' := [(4, .int (x4 + 1)), (0, .ref (ad x0)), (1, .int x1), (2, .int x2), (3, .int x3)]) hx hb dX11_far_23 hl (k := 4) rfl rfl (by decide) rfl (fun ls hl => ?_)
    refine lv_goto (tgt := 8) hx hb dX11_far_26 (by decide) ?_
    exact hkb8 _ _ hf _ _ _ (lv_sub hl [1, 2, 3, 4, 0] rfl) G
theorem w_X11_far_L8 {z : Int32 × Dt} (X : aw_X p c cX11_far 11 s RX11 m meth (some .int)) {k8 : Dt → Option (Int32 × Dt)} {x0 : Nat} {x1 : Int32} {x2 : Int32} {x3 : Int32} (n : Nat) {x4 : Int32} {d : Dt} (hf : f_X11_far_L8 σ n k8 x0 x1 x2 x3 x4 d = some z) (hk8 : ∀ (d : Dt), k8 d = some z → ∀ (H : Heap) (locs : List Loc) (ls : Array Slot), lv_has ls 11 [(0, .ref (ad x0)), (1, .int x1), (2, .int x2), (3, .int x3)] → aw_G D cA base ad σ d s H locs → W p l e rm_X11_far s m args below meth c H locs 0 0 (aw_Ei D cA base ad σ below args s z) (F0 m 29 ls [])) {H : Heap} {locs : List Loc} {ls : Array Slot} (hl : lv_has ls 11 [(0, .ref (ad x0)), (1, .int x1), (2, .int x2), (3, .int x3), (4, .int x4)]) (G : aw_G D cA base ad σ d s H locs) : W p l e rm_X11_far s m args below meth c H locs 0 0 (aw_Ei D cA base ad σ below args s z) (F0 m 8 ls []) := by
  induction n generalizing x4 d H locs ls with
  | zero => exact absurd (show (none : Option (Int32 × Dt)) = some z from hf) (by simp)
  | succ n ih => exact w_X11_far_B8 X (kb8 := f_X11_far_L8 σ n k8 x0 x1 x2 x3) hf  (fun x4 d hf H locs ls hl G => ih hf hl G) hk8 hl G
set_option maxHeartbeats 4000000 in
set_option maxRecDepth 100000 in
theorem w_X11_far_J96 {z : Int32 × Dt} (X : aw_X p c cX11_far 11 s RX11 m meth (some .int)) {kb61 : Int32 → Int32 → Int32 → Dt → Option (Int32 × Dt)} {t1 : Int32} {t0 : Int32} {x0 : Nat} {x2 : Int32} {x3 : Int32} {x4 : Int32} {x5 : Int32} {x7 : Int32} {x8 : Int32} {x9 : Int32} {d : Dt} (hf : f_X11_far_J96 σ kb61 t1 t0 x0 x2 x3 x4 x5 x7 x8 x9 d = some z) (hkb61 : ∀ (y6 : Int32) (y7 : Int32) (y8 : Int32) (d : Dt), kb61 y6 y7 y8 d = some z → ∀ (H : Heap) (locs : List Loc) (ls : Array Slot), lv_has ls 11 [(0, .ref (ad x0)), (2, .int x2), (3, .int x3), (4, .int x4), (5, .int x5), (6, .int y6), (7, .int y7), (8, .int y8)] → aw_G D cA base ad σ d s H locs → W p l e rm_X11_far s m args below meth c H locs 0 0 (aw_Ei D cA base ad σ below args s z) (F0 m 61 ls [])) {H : Heap} {locs : List Loc} {ls : Array Slot} (hl : lv_has ls 11 [(0, .ref (ad x0)), (2, .int x2), (3, .int x3), (4, .int x4), (5, .int x5), (7, .int x7), (8, .int x8), (9, .int x9)]) (G : aw_G D cA base ad σ d s H locs) : W p l e rm_X11_far s m args below meth c H locs 0 0 (aw_Ei D cA base ad σ below args s z) (F0 m 96 ls [.int t1, .int t0]) := by
  have hx := X.1; have hb := X.2.1; have hml := X.2.2.1; have hown := X.2.2.2.1
  unfold f_X11_far_J96 at hf
  refine lv_iadd hx hb dX11_far_96 ?_
  refine lv_istore (lv' := [(10, .int (t0 + t1)), (0, .ref (ad x0)), (2, .int x2), (3, .int x3), (4, .int x4), (5, .int x5), (7, .int x7), (8, .int x8), (9, .int x9)]) hx hb dX11_far_97 hl (by decide) rfl (fun ls hl => ?_)
  refine lv_aload_n hx hb dX11_far_99 rfl (lv_at hl 1 rfl) ?_
  obtain ⟨hc_16, hf⟩ := aw_chk_some hf
  obtain ⟨q_17, hq_18, hf⟩ := aw_bind_some hf
  refine gf_X11_93 hx hb G hown hc_16 hq_18 dX11_far_100 ?_
  refine lv_iload hx hb dX11_far_103 (lv_at hl 7 rfl) ?_
  refine lv_iload hx hb dX11_far_105 (lv_at hl 0 rfl) ?_
  refine lv_iload hx hb dX11_far_107 (lv_at hl 8 rfl) ?_
  refine lv_aload_n hx hb dX11_far_109 rfl (lv_at hl 1 rfl) ?_
  refine gf_X11_93 hx hb G hown hc_16 hq_18 dX11_far_110 ?_
  refine lv_iload hx hb dX11_far_113 (lv_at hl 7 rfl) ?_
  refine lv_iconst (v := (1 : Int32)) hx hb dX11_far_115 (by decide) ?_
  refine lv_isub hx hb dX11_far_116 ?_
  obtain ⟨hc_19, hf⟩ := aw_chk_some hf
  refine aw_ial hx hb G hc_19 dX11_far_117 ?_
  obtain ⟨z_20, hz_21, hf⟩ := aw_bind_some hf
  refine aw_SI (As := [.int x9, .int (d.1 q_17 (x8 - ((1 : Int32))).toNatClampNeg)]) (rest := [.int (t0 + t1), .int x8, .ref (ad q_17)]) X G hl.1 cr_X11_183 (c_X11_lesser l hz_21) ⟨rfl, rfl⟩ rfl rfl rfl ⟨Nat.le_of_ble_eq_true rfl, Nat.le_of_ble_eq_true rfl⟩ (Nat.le_of_ble_eq_true rfl) dX11_far_118 ⟨Nat.zero_le _, Nat.zero_le _⟩ (fun H locs G => ?_)
  refine lv_iconst (v := (1 : Int32)) hx hb dX11_far_121 (by decide) ?_
  refine lv_iadd hx hb dX11_far_122 ?_
  obtain ⟨z_22, hz_23, hf⟩ := aw_bind_some hf
  refine aw_SI (As := [.int (t0 + t1), .int (z_20.1 + ((1 : Int32)))]) (rest := [.int x8, .ref (ad q_17)]) X G hl.1 cr_X11_183 (c_X11_lesser l hz_23) ⟨rfl, rfl⟩ rfl rfl rfl ⟨Nat.le_of_ble_eq_true rfl, Nat.le_of_ble_eq_true rfl⟩ (Nat.le_of_ble_eq_true rfl) dX11_far_123 ⟨Nat.zero_le _, Nat.zero_le _⟩ (fun H locs G => ?_)
  obtain ⟨hc_24, hf⟩ := aw_chk_some hf
  refine aw_ias hx hb G hc_24 dX11_far_126 (fun H locs G => ?_)
  refine lv_iload hx hb dX11_far_127 (lv_at hl 8 rfl) ?_
  refine lv_istore (lv' := [(6, .int x9), (10, .int (t0 + t1)), (0, .ref (ad x0)), (2, .int x2), (3, .int x3), (4, .int x4), (5, .int x5), (7, .int x7), (8, .int x8), (9, .int x9)]) hx hb dX11_far_129 hl (by decide) rfl (fun ls hl => ?_)
  refine lv_iload hx hb dX11_far_131 (lv_at hl 7 rfl) ?_
  refine lv_bipush (v := (10 : Int32)) hx hb dX11_far_133 (by decide) ?_
  refine lv_idiv hx hb dX11_far_135 (by decide) ?_
  refine lv_istore (lv' := [(7, .int (x7 / (10 : Int32))), (6, .int x9), (10, .int (t0 + t1)), (0, .ref (ad x0)), (2, .int x2), (3, .int x3), (4, .int x4), (5, .int x5), (8, .int x8), (9, .int x9)]) hx hb dX11_far_136 hl (by decide) rfl (fun ls hl => ?_)
  refine lv_iinc (v := x8 + 1) (lv' := [(8, .int (x8 + 1)), (7, .int (x7 / (10 : Int32))), (6, .int x9), (10, .int (t0 + t1)), (0, .ref (ad x0)), (2, .int x2), (3, .int x3), (4, .int x4), (5, .int x5), (9, .int x9)]) hx hb dX11_far_138 hl (k := 8) rfl rfl (by decide) rfl (fun ls hl => ?_)
  refine lv_goto (tgt := 61) hx hb dX11_far_141 (by decide) ?_
  exact hkb61 _ _ _ _ hf _ _ _ (lv_sub hl [4, 5, 6, 7, 8, 2, 1, 0] rfl) G
set_option maxHeartbeats 4000000 in
set_option maxRecDepth 100000 in
theorem w_X11_far_B61 {z : Int32 × Dt} (X : aw_X p c cX11_far 11 s RX11 m meth (some .int)) {kb61 : Int32 → Int32 → Int32 → Dt → Option (Int32 × Dt)} {k61 : Dt → Option (Int32 × Dt)} {x0 : Nat} {x2 : Int32} {x3 : Int32} {x4 : Int32} {x5 : Int32} {x6 : Int32} {x7 : Int32} {x8 : Int32} {d : Dt} (hf : f_X11_far_B61 σ kb61 k61 x0 x2 x3 x4 x5 x6 x7 x8 d = some z) (hkb61 : ∀ (y6 : Int32) (y7 : Int32) (y8 : Int32) (d : Dt), kb61 y6 y7 y8 d = some z → ∀ (H : Heap) (locs : List Loc) (ls : Array Slot), lv_has ls 11 [(0, .ref (ad x0)), (2, .int x2), (3, .int x3), (4, .int x4), (5, .int x5), (6, .int y6), (7, .int y7), (8, .int y8)] → aw_G D cA base ad σ d s H locs → W p l e rm_X11_far s m args below meth c H locs 0 0 (aw_Ei D cA base ad σ below args s z) (F0 m 61 ls [])) (hk61 : ∀ (d : Dt), k61 d = some z → ∀ (H : Heap) (locs : List Loc) (ls : Array Slot), lv_has ls 11 [(0, .ref (ad x0)), (2, .int x2), (3, .int x3), (4, .int x4), (5, .int x5)] → aw_G D cA base ad σ d s H locs → W p l e rm_X11_far s m args below meth c H locs 0 0 (aw_Ei D cA base ad σ below args s z) (F0 m 144 ls [])) {H : Heap} {locs : List Loc} {ls : Array Slot} (hl : lv_has ls 11 [(0, .ref (ad x0)), (2, .int x2), (3, .int x3), (4, .int x4), (5, .int x5), (6, .int x6), (7, .int x7), (8, .int x8)]) (G : aw_G D cA base ad σ d s H locs) : W p l e rm_X11_far s m args below meth c H locs 0 0 (aw_Ei D cA base ad σ below args s z) (F0 m 61 ls []) := by
  have hx := X.1; have hb := X.2.1; have hml := X.2.2.1; have hown := X.2.2.2.1
  unfold f_X11_far_B61 at hf
  refine lv_iload hx hb dX11_far_61 (lv_at hl 7 rfl) ?_
  refine lv_iload_n hx hb dX11_far_63 rfl (lv_at hl 2 rfl) ?_
  refine lv_icmp_gt (tgt := 144) hx hb dX11_far_64 (by decide) (fun hc => ?_) (fun hc => ?_)
  · have hf := aw_ite_t hc hf
    exact hk61 _ hf _ _ _ (lv_sub hl [0, 1, 2, 3, 4] rfl) G
  · have hf := aw_ite_f hc hf
    refine lv_aload_n hx hb dX11_far_67 rfl (lv_at hl 0 rfl) ?_
    obtain ⟨hc_12, hf⟩ := aw_chk_some hf
    obtain ⟨q_13, hq_14, hf⟩ := aw_bind_some hf
    refine gf_X11_93 hx hb G hown hc_12 hq_14 dX11_far_68 ?_
    refine lv_iload hx hb dX11_far_71 (lv_at hl 7 rfl) ?_
    obtain ⟨hc_15, hf⟩ := aw_chk_some hf
    refine aw_ial hx hb G hc_15 dX11_far_73 ?_
    refine lv_istore (lv' := [(9, .int (d.1 q_13 x8.toNatClampNeg)), (0, .ref (ad x0)), (2, .int x2), (3, .int x3), (4, .int x4), (5, .int x5), (6, .int x6), (7, .int x7), (8, .int x8)]) hx hb dX11_far_74 hl (by decide) rfl (fun ls hl => ?_)
    refine lv_iload hx hb dX11_far_76 (lv_at hl 6 rfl) ?_
    refine lv_iload hx hb dX11_far_78 (lv_at hl 5 rfl) ?_
    refine lv_bipush (v := (10 : Int32)) hx hb dX11_far_80 (by decide) ?_
    refine lv_irem hx hb dX11_far_82 (by decide) ?_
    refine lv_iload hx hb dX11_far_83 (lv_at hl 7 rfl) ?_
    refine lv_bipush (v := (10 : Int32)) hx hb dX11_far_85 (by decide) ?_
    refine lv_irem hx hb dX11_far_87 (by decide) ?_
    refine lv_icmp_ne (tgt := 95) hx hb dX11_far_88 (by decide) (fun hc => ?_) (fun hc => ?_)
    · have hf := aw_ite_f hc hf
      refine lv_iconst (v := (1 : Int32)) hx hb dX11_far_95 (by decide) ?_
      exact w_X11_far_J96 X hf hkb61 (lv_sub hl [1, 2, 3, 4, 5, 7, 8, 0] rfl) G
    · have hf := aw_ite_t hc hf
      refine lv_iconst (v := (0 : Int32)) hx hb dX11_far_91 (by decide) ?_
      refine lv_goto (tgt := 96) hx hb dX11_far_92 (by decide) ?_
      exact w_X11_far_J96 X hf hkb61 (lv_sub hl [1, 2, 3, 4, 5, 7, 8, 0] rfl) G
theorem w_X11_far_L61 {z : Int32 × Dt} (X : aw_X p c cX11_far 11 s RX11 m meth (some .int)) {k61 : Dt → Option (Int32 × Dt)} {x0 : Nat} {x2 : Int32} {x3 : Int32} {x4 : Int32} {x5 : Int32} (n : Nat) {x6 : Int32} {x7 : Int32} {x8 : Int32} {d : Dt} (hf : f_X11_far_L61 σ n k61 x0 x2 x3 x4 x5 x6 x7 x8 d = some z) (hk61 : ∀ (d : Dt), k61 d = some z → ∀ (H : Heap) (locs : List Loc) (ls : Array Slot), lv_has ls 11 [(0, .ref (ad x0)), (2, .int x2), (3, .int x3), (4, .int x4), (5, .int x5)] → aw_G D cA base ad σ d s H locs → W p l e rm_X11_far s m args below meth c H locs 0 0 (aw_Ei D cA base ad σ below args s z) (F0 m 144 ls [])) {H : Heap} {locs : List Loc} {ls : Array Slot} (hl : lv_has ls 11 [(0, .ref (ad x0)), (2, .int x2), (3, .int x3), (4, .int x4), (5, .int x5), (6, .int x6), (7, .int x7), (8, .int x8)]) (G : aw_G D cA base ad σ d s H locs) : W p l e rm_X11_far s m args below meth c H locs 0 0 (aw_Ei D cA base ad σ below args s z) (F0 m 61 ls []) := by
  induction n generalizing x6 x7 x8 d H locs ls with
  | zero => exact absurd (show (none : Option (Int32 × Dt)) = some z from hf) (by simp)
  | succ n ih => exact w_X11_far_B61 X (kb61 := f_X11_far_L61 σ n k61 x0 x2 x3 x4 x5) hf  (fun x6 x7 x8 d hf H locs ls hl G => ih hf hl G) hk61 hl G
set_option maxHeartbeats 4000000 in
set_option maxRecDepth 100000 in
theorem w_X11_far_B35 {z : Int32 × Dt} (X : aw_X p c cX11_far 11 s RX11 m meth (some .int)) {kb35 : Int32 → Int32 → Dt → Option (Int32 × Dt)} {k35 : Dt → Option (Int32 × Dt)} {x0 : Nat} {x2 : Int32} {x3 : Int32} {x4 : Int32} {x5 : Int32} {d : Dt} (hf : f_X11_far_B35 σ kb35 k35 x0 x2 x3 x4 x5 d = some z) (hkb35 : ∀ (y4 : Int32) (y5 : Int32) (d : Dt), kb35 y4 y5 d = some z → ∀ (H : Heap) (locs : List Loc) (ls : Array Slot), lv_has ls 11 [(0, .ref (ad x0)), (2, .int x2), (3, .int x3), (4, .int y4), (5, .int y5)] → aw_G D cA base ad σ d s H locs → W p l e rm_X11_far s m args below meth c H locs 0 0 (aw_Ei D cA base ad σ below args s z) (F0 m 35 ls [])) (hk35 : ∀ (d : Dt), k35 d = some z → ∀ (H : Heap) (locs : List Loc) (ls : Array Slot), lv_has ls 11 [(0, .ref (ad x0)), (3, .int x3)] → aw_G D cA base ad σ d s H locs → W p l e rm_X11_far s m args below meth c H locs 0 0 (aw_Ei D cA base ad σ below args s z) (F0 m 154 ls [])) {H : Heap} {locs : List Loc} {ls : Array Slot} (hl : lv_has ls 11 [(0, .ref (ad x0)), (2, .int x2), (3, .int x3), (4, .int x4), (5, .int x5)]) (G : aw_G D cA base ad σ d s H locs) : W p l e rm_X11_far s m args below meth c H locs 0 0 (aw_Ei D cA base ad σ below args s z) (F0 m 35 ls []) := by
  have hx := X.1; have hb := X.2.1; have hml := X.2.2.1; have hown := X.2.2.2.1
  unfold f_X11_far_B35 at hf
  refine lv_iload hx hb dX11_far_35 (lv_at hl 4 rfl) ?_
  refine lv_if_le (tgt := 154) hx hb dX11_far_37 (by decide) (fun hc => ?_) (fun hc => ?_)
  · have hf := aw_ite_t hc hf
    exact hk35 _ hf _ _ _ (lv_sub hl [0, 2] rfl) G
  · have hf := aw_ite_f hc hf
    refine lv_iload hx hb dX11_far_40 (lv_at hl 3 rfl) ?_
    refine lv_istore (lv' := [(6, .int x4), (0, .ref (ad x0)), (2, .int x2), (3, .int x3), (4, .int x4), (5, .int x5)]) hx hb dX11_far_42 hl (by decide) rfl (fun ls hl => ?_)
    refine lv_iinc (v := x4 + 1) (lv' := [(4, .int (x4 + 1)), (6, .int x4), (0, .ref (ad x0)), (2, .int x2), (3, .int x3), (5, .int x5)]) hx hb dX11_far_44 hl (k := 4) rfl rfl (by decide) rfl (fun ls hl => ?_)
    refine lv_aload_n hx hb dX11_far_47 rfl (lv_at hl 2 rfl) ?_
    obtain ⟨hc_8, hf⟩ := aw_chk_some hf
    obtain ⟨q_9, hq_10, hf⟩ := aw_bind_some hf
    refine gf_X11_93 hx hb G hown hc_8 hq_10 dX11_far_48 ?_
    refine lv_iconst (v := (0 : Int32)) hx hb dX11_far_51 (by decide) ?_
    refine lv_iload hx hb dX11_far_52 (lv_at hl 0 rfl) ?_
    obtain ⟨hc_11, hf⟩ := aw_chk_some hf
    refine aw_ias hx hb G hc_11 dX11_far_54 (fun H locs G => ?_)
    refine lv_iload_n hx hb dX11_far_55 rfl (lv_at hl 3 rfl) ?_
    refine lv_istore (lv' := [(7, .int x2), (4, .int (x4 + 1)), (6, .int x4), (0, .ref (ad x0)), (2, .int x2), (3, .int x3), (5, .int x5)]) hx hb dX11_far_56 hl (by decide) rfl (fun ls hl => ?_)
    refine lv_iconst (v := (1 : Int32)) hx hb dX11_far_58 (by decide) ?_
    refine lv_istore (lv' := [(8, .int ((1 : Int32))), (7, .int x2), (4, .int (x4 + 1)), (6, .int x4), (0, .ref (ad x0)), (2, .int x2), (3, .int x3), (5, .int x5)]) hx hb dX11_far_59 hl (by decide) rfl (fun ls hl => ?_)
    refine w_X11_far_L61 X aw_FU hf  (fun d_25 hf H locs ls hl G => ?_) (lv_sub hl [4, 5, 6, 2, 7, 3, 1, 0] rfl) G
    refine lv_iload hx hb dX11_far_144 (lv_at hl 4 rfl) ?_
    refine lv_bipush (v := (10 : Int32)) hx hb dX11_far_146 (by decide) ?_
    refine lv_idiv hx hb dX11_far_148 (by decide) ?_
    refine lv_istore (lv' := [(5, .int (x5 / (10 : Int32))), (0, .ref (ad x0)), (2, .int x2), (3, .int x3), (4, .int (x4 + 1))]) hx hb dX11_far_149 hl (by decide) rfl (fun ls hl => ?_)
    refine lv_goto (tgt := 35) hx hb dX11_far_151 (by decide) ?_
    exact hkb35 _ _ _ hf _ _ _ (lv_sub hl [1, 2, 3, 4, 0] rfl) G
theorem w_X11_far_L35 {z : Int32 × Dt} (X : aw_X p c cX11_far 11 s RX11 m meth (some .int)) {k35 : Dt → Option (Int32 × Dt)} {x0 : Nat} {x2 : Int32} {x3 : Int32} (n : Nat) {x4 : Int32} {x5 : Int32} {d : Dt} (hf : f_X11_far_L35 σ n k35 x0 x2 x3 x4 x5 d = some z) (hk35 : ∀ (d : Dt), k35 d = some z → ∀ (H : Heap) (locs : List Loc) (ls : Array Slot), lv_has ls 11 [(0, .ref (ad x0)), (3, .int x3)] → aw_G D cA base ad σ d s H locs → W p l e rm_X11_far s m args below meth c H locs 0 0 (aw_Ei D cA base ad σ below args s z) (F0 m 154 ls [])) {H : Heap} {locs : List Loc} {ls : Array Slot} (hl : lv_has ls 11 [(0, .ref (ad x0)), (2, .int x2), (3, .int x3), (4, .int x4), (5, .int x5)]) (G : aw_G D cA base ad σ d s H locs) : W p l e rm_X11_far s m args below meth c H locs 0 0 (aw_Ei D cA base ad σ below args s z) (F0 m 35 ls []) := by
  induction n generalizing x4 x5 d H locs ls with
  | zero => exact absurd (show (none : Option (Int32 × Dt)) = some z from hf) (by simp)
  | succ n ih => exact w_X11_far_B35 X (kb35 := f_X11_far_L35 σ n k35 x0 x2 x3) hf  (fun x4 x5 d hf H locs ls hl G => ih hf hl G) hk35 hl G
end W_X11_far
set_option maxHeartbeats 4000000 in
set_option maxRecDepth 100000 in
theorem c_X11_far (l : Launch) {σ : Sg} {x0 : Nat} {x1 : Int32} {x2 : Int32} {d : Dt} {z : Int32 × Dt} (hf : f_X11_far σ x0 x1 x2 d = some z) : aw_Mi l yX11_far (Cond.code yX11_far cX11_far 11 (some .int)) rm_X11_far (fun ad => [.ref (ad x0), .int x1, .int x2]) σ d z := by
  intro D cA base ad
  refine aw_ofW (own := RX11) (cc := cX11_far) (nL := 11) (ret := some .int) (by decide) rfl rfl ?_
  intro p e s m below meth c X hnm G
  have hx := X.1; have hb := X.2.1; have hml := X.2.2.1; have hown := X.2.2.2.1
  refine aw_ls (lv := [(0, .ref (ad x0)), (1, .int x1), (2, .int x2)]) (Nat.le_of_ble_eq_true rfl) rfl (fun ls hl => ?_)
  unfold f_X11_far at hf
  refine lv_iload_n hx hb dX11_far_0 rfl (lv_at hl 2 rfl) ?_
  obtain ⟨z_1, hz_2, hf⟩ := aw_bind_some hf
  refine aw_SI (As := [.int x2]) (rest := []) X G hl.1 cr_X11_180 (c_X11_strokes l hz_2) ⟨rfl, rfl⟩ rfl rfl rfl ⟨Nat.le_of_ble_eq_true rfl, Nat.le_of_ble_eq_true rfl⟩ (Nat.le_of_ble_eq_true rfl) dX11_far_1 ⟨Nat.zero_le _, Nat.zero_le _⟩ (fun H locs G => ?_)
  refine lv_istore_n (lv' := [(3, .int z_1.1), (0, .ref (ad x0)), (1, .int x1), (2, .int x2)]) hx hb dX11_far_4 rfl hl (by decide) rfl (fun ls hl => ?_)
  refine lv_iconst (v := (0 : Int32)) hx hb dX11_far_5 (by decide) ?_
  refine lv_istore (lv' := [(4, .int ((0 : Int32))), (3, .int z_1.1), (0, .ref (ad x0)), (1, .int x1), (2, .int x2)]) hx hb dX11_far_6 hl (by decide) rfl (fun ls hl => ?_)
  refine w_X11_far_L8 X aw_FU hf  (fun d_7 hf H locs ls hl G => ?_) (lv_sub hl [2, 3, 4, 1, 0] rfl) G
  refine lv_iconst (v := (0 : Int32)) hx hb dX11_far_29 (by decide) ?_
  refine lv_istore (lv' := [(4, .int ((0 : Int32))), (0, .ref (ad x0)), (1, .int x1), (2, .int x2), (3, .int z_1.1)]) hx hb dX11_far_30 hl (by decide) rfl (fun ls hl => ?_)
  refine lv_iload_n hx hb dX11_far_32 rfl (lv_at hl 2 rfl) ?_
  refine lv_istore (lv' := [(5, .int x1), (4, .int ((0 : Int32))), (0, .ref (ad x0)), (1, .int x1), (2, .int x2), (3, .int z_1.1)]) hx hb dX11_far_33 hl (by decide) rfl (fun ls hl => ?_)
  refine w_X11_far_L35 X aw_FU hf  (fun d_26 hf H locs ls hl G => ?_) (lv_sub hl [2, 4, 5, 1, 0] rfl) G
  refine lv_aload_n hx hb dX11_far_154 rfl (lv_at hl 0 rfl) ?_
  obtain ⟨hc_27, hf⟩ := aw_chk_some hf
  obtain ⟨q_28, hq_29, hf⟩ := aw_bind_some hf
  refine gf_X11_93 hx hb G hown hc_27 hq_29 dX11_far_155 ?_
  refine lv_iload_n hx hb dX11_far_158 rfl (lv_at hl 1 rfl) ?_
  obtain ⟨hc_30, hf⟩ := aw_chk_some hf
  refine aw_ial hx hb G hc_30 dX11_far_159 ?_
  exact aw_reti X G hf dX11_far_160
def rm_X11_apart : Room := { frames := 2, cells := 0, slots := 0, locals := 51 }
def f_X11_apart_J46 (σ : Sg) (t0 : Int32) (d : Dt) : Option (Int32 × Dt) :=
  some (t0, d)
def f_X11_apart_J20 (σ : Sg) (t1 : Int32) (t0 : Nat) (x0 : Nat) (x1 : Int32) (x2 : Int32) (d : Dt) : Option (Int32 × Dt) :=
  aw_chk (aw_O σ 11 32 t0) ((f_X11_fails σ t0 t1 d).bind (fun z_3 => if z_3.1 = 0 then aw_chk (aw_O σ 11 32 x0) ((σ.2.2 x0 17).bind (fun q_7 => aw_chk (aw_I σ 20 q_7 x1) (aw_chk (aw_I σ 20 q_7 x2) ((f_X11_far σ x0 (z_3.2.1 q_7 x1.toNatClampNeg) (z_3.2.1 q_7 x2.toNatClampNeg) z_3.2).bind (fun z_11 => f_X11_apart_J46 σ z_11.1 z_11.2))))) else f_X11_apart_J46 σ ((0 : Int32)) z_3.2))
def f_X11_apart_J19 (σ : Sg) (t0 : Nat) (x0 : Nat) (x1 : Int32) (x2 : Int32) (d : Dt) : Option (Int32 × Dt) :=
  f_X11_apart_J20 σ ((1 : Int32)) t0 x0 x1 x2 d
def f_X11_apart (σ : Sg) (x0 : Nat) (x1 : Int32) (x2 : Int32) (d : Dt) : Option (Int32 × Dt) :=
  (f_X11_isSign σ x1 d).bind (fun z_1 => if z_1.1 = 0 then f_X11_apart_J19 σ x0 x0 x1 x2 z_1.2 else (f_X11_isSign σ x2 z_1.2).bind (fun z_13 => if z_13.1 = 0 then f_X11_apart_J19 σ x0 x0 x1 x2 z_13.2 else f_X11_apart_J20 σ ((0 : Int32)) x0 x0 x1 x2 z_13.2))
section W_X11_apart
variable {p : Program} {l : Launch} {e : Env} {s : State} {m : MethodId} {args : Array Value} {below : List Frame} {meth : Method} {c : Code}
variable {D : va_G} {cA : Nat → ClassId} {base : Nat} {ad : Nat → Nat} {σ : Sg}
set_option maxHeartbeats 4000000 in
set_option maxRecDepth 100000 in
theorem w_X11_apart_J46 {z : Int32 × Dt} (X : aw_X p c cX11_apart 3 s RX11 m meth (some .int)) {t0 : Int32} {d : Dt} (hf : f_X11_apart_J46 σ t0 d = some z)  {H : Heap} {locs : List Loc} {ls : Array Slot} (hl : lv_has ls 3 []) (G : aw_G D cA base ad σ d s H locs) : W p l e rm_X11_apart s m args below meth c H locs 0 0 (aw_Ei D cA base ad σ below args s z) (F0 m 46 ls [.int t0]) := by
  have hx := X.1; have hb := X.2.1; have hml := X.2.2.1; have hown := X.2.2.2.1
  unfold f_X11_apart_J46 at hf
  exact aw_reti X G hf dX11_apart_46
set_option maxHeartbeats 4000000 in
set_option maxRecDepth 100000 in
theorem w_X11_apart_J20 {z : Int32 × Dt} (X : aw_X p c cX11_apart 3 s RX11 m meth (some .int)) {t1 : Int32} {t0 : Nat} {x0 : Nat} {x1 : Int32} {x2 : Int32} {d : Dt} (hf : f_X11_apart_J20 σ t1 t0 x0 x1 x2 d = some z)  {H : Heap} {locs : List Loc} {ls : Array Slot} (hl : lv_has ls 3 [(0, .ref (ad x0)), (1, .int x1), (2, .int x2)]) (G : aw_G D cA base ad σ d s H locs) : W p l e rm_X11_apart s m args below meth c H locs 0 0 (aw_Ei D cA base ad σ below args s z) (F0 m 20 ls [.int t1, .ref (ad t0)]) := by
  have hx := X.1; have hb := X.2.1; have hml := X.2.2.1; have hown := X.2.2.2.1
  unfold f_X11_apart_J20 at hf
  obtain ⟨hc_5, hf⟩ := aw_chk_some hf
  obtain ⟨z_3, hz_4, hf⟩ := aw_bind_some hf
  refine aw_VI (As := [.int t1]) (rest := []) X G hl.1 cr_X11_113 (c_X11_fails l hz_4) ⟨rfl, rfl⟩ rfl rfl rfl (by decide) hc_5 rfl ⟨Nat.le_of_ble_eq_true rfl, Nat.le_of_ble_eq_true rfl⟩ (Nat.le_of_ble_eq_true rfl) dX11_apart_20 ⟨Nat.zero_le _, Nat.zero_le _⟩ (fun H locs G => ?_)
  refine lv_if_eq (tgt := 30) hx hb dX11_apart_23 (by decide) (fun hc => ?_) (fun hc => ?_)
  · have hf := aw_ite_t hc hf
    refine lv_aload_n hx hb dX11_apart_30 rfl (lv_at hl 0 rfl) ?_
    refine lv_aload_n hx hb dX11_apart_31 rfl (lv_at hl 0 rfl) ?_
    obtain ⟨hc_6, hf⟩ := aw_chk_some hf
    obtain ⟨q_7, hq_8, hf⟩ := aw_bind_some hf
    refine gf_X11_53 hx hb G hown hc_6 hq_8 dX11_apart_32 ?_
    refine lv_iload_n hx hb dX11_apart_35 rfl (lv_at hl 1 rfl) ?_
    obtain ⟨hc_9, hf⟩ := aw_chk_some hf
    refine aw_ial hx hb G hc_9 dX11_apart_36 ?_
    refine lv_aload_n hx hb dX11_apart_37 rfl (lv_at hl 0 rfl) ?_
    refine gf_X11_53 hx hb G hown hc_6 hq_8 dX11_apart_38 ?_
    refine lv_iload_n hx hb dX11_apart_41 rfl (lv_at hl 2 rfl) ?_
    obtain ⟨hc_10, hf⟩ := aw_chk_some hf
    refine aw_ial hx hb G hc_10 dX11_apart_42 ?_
    obtain ⟨z_11, hz_12, hf⟩ := aw_bind_some hf
    refine aw_VI (As := [.int (z_3.2.1 q_7 x1.toNatClampNeg), .int (z_3.2.1 q_7 x2.toNatClampNeg)]) (rest := []) X G hl.1 cr_X11_186 (c_X11_far l hz_12) ⟨rfl, rfl⟩ rfl rfl rfl (by decide) hc_6 rfl ⟨Nat.le_of_ble_eq_true rfl, Nat.le_of_ble_eq_true rfl⟩ (Nat.le_of_ble_eq_true rfl) dX11_apart_43 ⟨Nat.zero_le _, Nat.zero_le _⟩ (fun H locs G => ?_)
    exact w_X11_apart_J46 X hf  (lv_sub hl [] rfl) G
  · have hf := aw_ite_f hc hf
    refine lv_iconst (v := (0 : Int32)) hx hb dX11_apart_26 (by decide) ?_
    refine lv_goto (tgt := 46) hx hb dX11_apart_27 (by decide) ?_
    exact w_X11_apart_J46 X hf  (lv_sub hl [] rfl) G
set_option maxHeartbeats 4000000 in
set_option maxRecDepth 100000 in
theorem w_X11_apart_J19 {z : Int32 × Dt} (X : aw_X p c cX11_apart 3 s RX11 m meth (some .int)) {t0 : Nat} {x0 : Nat} {x1 : Int32} {x2 : Int32} {d : Dt} (hf : f_X11_apart_J19 σ t0 x0 x1 x2 d = some z)  {H : Heap} {locs : List Loc} {ls : Array Slot} (hl : lv_has ls 3 [(0, .ref (ad x0)), (1, .int x1), (2, .int x2)]) (G : aw_G D cA base ad σ d s H locs) : W p l e rm_X11_apart s m args below meth c H locs 0 0 (aw_Ei D cA base ad σ below args s z) (F0 m 19 ls [.ref (ad t0)]) := by
  have hx := X.1; have hb := X.2.1; have hml := X.2.2.1; have hown := X.2.2.2.1
  unfold f_X11_apart_J19 at hf
  refine lv_iconst (v := (1 : Int32)) hx hb dX11_apart_19 (by decide) ?_
  exact w_X11_apart_J20 X hf  (lv_sub hl [0, 1, 2] rfl) G
end W_X11_apart
set_option maxHeartbeats 4000000 in
set_option maxRecDepth 100000 in
theorem c_X11_apart (l : Launch) {σ : Sg} {x0 : Nat} {x1 : Int32} {x2 : Int32} {d : Dt} {z : Int32 × Dt} (hf : f_X11_apart σ x0 x1 x2 d = some z) : aw_Mi l yX11_apart (Cond.code yX11_apart cX11_apart 3 (some .int)) rm_X11_apart (fun ad => [.ref (ad x0), .int x1, .int x2]) σ d z := by
  intro D cA base ad
  refine aw_ofW (own := RX11) (cc := cX11_apart) (nL := 3) (ret := some .int) (by decide) rfl rfl ?_
  intro p e s m below meth c X hnm G
  have hx := X.1; have hb := X.2.1; have hml := X.2.2.1; have hown := X.2.2.2.1
  refine aw_ls (lv := [(0, .ref (ad x0)), (1, .int x1), (2, .int x2)]) (Nat.le_of_ble_eq_true rfl) rfl (fun ls hl => ?_)
  unfold f_X11_apart at hf
  refine lv_aload_n hx hb dX11_apart_0 rfl (lv_at hl 0 rfl) ?_
  refine lv_iload_n hx hb dX11_apart_1 rfl (lv_at hl 1 rfl) ?_
  obtain ⟨z_1, hz_2, hf⟩ := aw_bind_some hf
  refine aw_SI (As := [.int x1]) (rest := [.ref (ad x0)]) X G hl.1 cr_X11_149 (c_X11_isSign l hz_2) ⟨rfl, rfl⟩ rfl rfl rfl ⟨Nat.le_of_ble_eq_true rfl, Nat.le_of_ble_eq_true rfl⟩ (Nat.le_of_ble_eq_true rfl) dX11_apart_2 ⟨Nat.zero_le _, Nat.zero_le _⟩ (fun H locs G => ?_)
  refine lv_if_eq (tgt := 19) hx hb dX11_apart_5 (by decide) (fun hc => ?_) (fun hc => ?_)
  · have hf := aw_ite_t hc hf
    exact w_X11_apart_J19 X hf  (lv_sub hl [0, 1, 2] rfl) G
  · have hf := aw_ite_f hc hf
    refine lv_iload_n hx hb dX11_apart_8 rfl (lv_at hl 2 rfl) ?_
    obtain ⟨z_13, hz_14, hf⟩ := aw_bind_some hf
    refine aw_SI (As := [.int x2]) (rest := [.ref (ad x0)]) X G hl.1 cr_X11_149 (c_X11_isSign l hz_14) ⟨rfl, rfl⟩ rfl rfl rfl ⟨Nat.le_of_ble_eq_true rfl, Nat.le_of_ble_eq_true rfl⟩ (Nat.le_of_ble_eq_true rfl) dX11_apart_9 ⟨Nat.zero_le _, Nat.zero_le _⟩ (fun H locs G => ?_)
    refine lv_if_eq (tgt := 19) hx hb dX11_apart_12 (by decide) (fun hc => ?_) (fun hc => ?_)
    · have hf := aw_ite_t hc hf
      exact w_X11_apart_J19 X hf  (lv_sub hl [0, 1, 2] rfl) G
    · have hf := aw_ite_f hc hf
      refine lv_iconst (v := (0 : Int32)) hx hb dX11_apart_15 (by decide) ?_
      refine lv_goto (tgt := 20) hx hb dX11_apart_16 (by decide) ?_
      exact w_X11_apart_J20 X hf  (lv_sub hl [0, 1, 2] rfl) G
def rm_X11_clear : Room := { frames := 4, cells := 0, slots := 0, locals := 92 }
def f_X11_clear_J97 (σ : Sg) (kb35 : Int32 → Int32 → Dt → Option (Int32 × Dt)) (x0 : Nat) (x1 : Int32) (x2 : Int32) (x3 : Int32) (x4 : Int32) (d : Dt) : Option (Int32 × Dt) :=
  kb35 x2 (x4 + 1) d
def f_X11_clear_J96 (σ : Sg) (kb35 : Int32 → Int32 → Dt → Option (Int32 × Dt)) (t0 : Int32) (x0 : Nat) (x1 : Int32) (x3 : Int32) (x4 : Int32) (d : Dt) : Option (Int32 × Dt) :=
  f_X11_clear_J97 σ kb35 x0 x1 t0 x3 x4 d
def f_X11_clear_J90 (σ : Sg) (kb35 : Int32 → Int32 → Dt → Option (Int32 × Dt)) (x0 : Nat) (x1 : Int32) (x3 : Int32) (x4 : Int32) (x5 : Int32) (d : Dt) : Option (Int32 × Dt) :=
  f_X11_clear_J96 σ kb35 x5 x0 x1 x3 x4 d
def f_X11_clear_B35 (σ : Sg) (kb35 : Int32 → Int32 → Dt → Option (Int32 × Dt)) (k35 : Int32 → Dt → Option (Int32 × Dt)) (x0 : Nat) (x1 : Int32) (x3 : Int32) (x2 : Int32) (x4 : Int32) (d : Dt) : Option (Int32 × Dt) :=
  if x3 ≤ x4 then k35 x2 d else aw_chk (aw_O σ 11 32 x0) ((f_X11_isOf σ x0 x1 x3 d).bind (fun z_7 => if z_7.1 = 0 then f_X11_clear_J97 σ kb35 x0 x1 x2 x3 x4 z_7.2 else (f_X11_isOf σ x0 x1 x4 z_7.2).bind (fun z_10 => if z_10.1 = 0 then f_X11_clear_J97 σ kb35 x0 x1 x2 x3 x4 z_10.2 else (σ.2.2 x0 17).bind (fun q_12 => aw_chk (aw_I σ 20 q_12 x3) (aw_chk (aw_I σ 20 q_12 x4) ((f_X11_far σ x0 (z_10.2.1 q_12 x3.toNatClampNeg) (z_10.2.1 q_12 x4.toNatClampNeg) z_10.2).bind (fun z_16 => if x2 = ((-1 : Int32)) then f_X11_clear_J90 σ kb35 x0 x1 x3 x4 z_16.1 z_16.2 else if x2 ≤ z_16.1 then f_X11_clear_J96 σ kb35 x2 x0 x1 x3 x4 z_16.2 else f_X11_clear_J90 σ kb35 x0 x1 x3 x4 z_16.1 z_16.2)))))))
def f_X11_clear_L35 (σ : Sg) (n : Nat) (k35 : Int32 → Dt → Option (Int32 × Dt)) (x0 : Nat) (x1 : Int32) (x3 : Int32) : Int32 → Int32 → Dt → Option (Int32 × Dt) := match n with
  | 0 => fun _ _ _ => none
  | n + 1 => fun x2 x4 d => f_X11_clear_B35 σ (f_X11_clear_L35 σ n k35 x0 x1 x3) k35 x0 x1 x3 x2 x4 d
def f_X11_clear_B26 (σ : Sg) (kb26 : Int32 → Int32 → Dt → Option (Int32 × Dt)) (k26 : Int32 → Dt → Option (Int32 × Dt)) (x0 : Nat) (x1 : Int32) (x2 : Int32) (x3 : Int32) (d : Dt) : Option (Int32 × Dt) :=
  if ((50 : Int32)) ≤ x3 then k26 x2 d else f_X11_clear_L35 σ aw_FU (fun x2_18 d_19 => kb26 x2_18 (x3 + 1) d_19) x0 x1 x3 x2 ((0 : Int32)) d
def f_X11_clear_L26 (σ : Sg) (n : Nat) (k26 : Int32 → Dt → Option (Int32 × Dt)) (x0 : Nat) (x1 : Int32) : Int32 → Int32 → Dt → Option (Int32 × Dt) := match n with
  | 0 => fun _ _ _ => none
  | n + 1 => fun x2 x3 d => f_X11_clear_B26 σ (f_X11_clear_L26 σ n k26 x0 x1) k26 x0 x1 x2 x3 d
def f_X11_clear_J14 (σ : Sg) (t1 : Int32) (t0 : Nat) (x0 : Nat) (x1 : Int32) (d : Dt) : Option (Int32 × Dt) :=
  aw_chk (aw_O σ 11 32 t0) ((f_X11_fails σ t0 t1 d).bind (fun z_4 => if z_4.1 = 0 then f_X11_clear_L26 σ aw_FU (fun x2_20 d_21 => some (x2_20, d_21)) x0 x1 ((-1 : Int32)) ((0 : Int32)) z_4.2 else some ((0 : Int32), z_4.2)))
def f_X11_clear (σ : Sg) (x0 : Nat) (x1 : Int32) (d : Dt) : Option (Int32 × Dt) :=
  aw_chk (aw_O σ 11 32 x0) ((f_X11_isDesign σ x0 x1 d).bind (fun z_1 => if z_1.1 = 0 then f_X11_clear_J14 σ ((1 : Int32)) x0 x0 x1 z_1.2 else f_X11_clear_J14 σ ((0 : Int32)) x0 x0 x1 z_1.2))
section W_X11_clear
variable {p : Program} {l : Launch} {e : Env} {s : State} {m : MethodId} {args : Array Value} {below : List Frame} {meth : Method} {c : Code}
variable {D : va_G} {cA : Nat → ClassId} {base : Nat} {ad : Nat → Nat} {σ : Sg}
set_option maxHeartbeats 4000000 in
set_option maxRecDepth 100000 in
theorem w_X11_clear_J97 {z : Int32 × Dt} (X : aw_X p c cX11_clear 6 s RX11 m meth (some .int)) {kb35 : Int32 → Int32 → Dt → Option (Int32 × Dt)} {x0 : Nat} {x1 : Int32} {x2 : Int32} {x3 : Int32} {x4 : Int32} {d : Dt} (hf : f_X11_clear_J97 σ kb35 x0 x1 x2 x3 x4 d = some z) (hkb35 : ∀ (y2 : Int32) (y4 : Int32) (d : Dt), kb35 y2 y4 d = some z → ∀ (H : Heap) (locs : List Loc) (ls : Array Slot), lv_has ls 6 [(0, .ref (ad x0)), (1, .int x1), (2, .int y2), (3, .int x3), (4, .int y4)] → aw_G D cA base ad σ d s H locs → W p l e rm_X11_clear s m args below meth c H locs 0 0 (aw_Ei D cA base ad σ below args s z) (F0 m 35 ls [])) {H : Heap} {locs : List Loc} {ls : Array Slot} (hl : lv_has ls 6 [(0, .ref (ad x0)), (1, .int x1), (2, .int x2), (3, .int x3), (4, .int x4)]) (G : aw_G D cA base ad σ d s H locs) : W p l e rm_X11_clear s m args below meth c H locs 0 0 (aw_Ei D cA base ad σ below args s z) (F0 m 97 ls []) := by
  have hx := X.1; have hb := X.2.1; have hml := X.2.2.1; have hown := X.2.2.2.1
  unfold f_X11_clear_J97 at hf
  refine lv_iinc (v := x4 + 1) (lv' := [(4, .int (x4 + 1)), (0, .ref (ad x0)), (1, .int x1), (2, .int x2), (3, .int x3)]) hx hb dX11_clear_97 hl (k := 4) rfl rfl (by decide) rfl (fun ls hl => ?_)
  refine lv_goto (tgt := 35) hx hb dX11_clear_100 (by decide) ?_
  exact hkb35 _ _ _ hf _ _ _ (lv_sub hl [1, 2, 3, 4, 0] rfl) G
set_option maxHeartbeats 4000000 in
set_option maxRecDepth 100000 in
theorem w_X11_clear_J96 {z : Int32 × Dt} (X : aw_X p c cX11_clear 6 s RX11 m meth (some .int)) {kb35 : Int32 → Int32 → Dt → Option (Int32 × Dt)} {t0 : Int32} {x0 : Nat} {x1 : Int32} {x3 : Int32} {x4 : Int32} {d : Dt} (hf : f_X11_clear_J96 σ kb35 t0 x0 x1 x3 x4 d = some z) (hkb35 : ∀ (y2 : Int32) (y4 : Int32) (d : Dt), kb35 y2 y4 d = some z → ∀ (H : Heap) (locs : List Loc) (ls : Array Slot), lv_has ls 6 [(0, .ref (ad x0)), (1, .int x1), (2, .int y2), (3, .int x3), (4, .int y4)] → aw_G D cA base ad σ d s H locs → W p l e rm_X11_clear s m args below meth c H locs 0 0 (aw_Ei D cA base ad σ below args s z) (F0 m 35 ls [])) {H : Heap} {locs : List Loc} {ls : Array Slot} (hl : lv_has ls 6 [(0, .ref (ad x0)), (1, .int x1), (3, .int x3), (4, .int x4)]) (G : aw_G D cA base ad σ d s H locs) : W p l e rm_X11_clear s m args below meth c H locs 0 0 (aw_Ei D cA base ad σ below args s z) (F0 m 96 ls [.int t0]) := by
  have hx := X.1; have hb := X.2.1; have hml := X.2.2.1; have hown := X.2.2.2.1
  unfold f_X11_clear_J96 at hf
  refine lv_istore_n (lv' := [(2, .int t0), (0, .ref (ad x0)), (1, .int x1), (3, .int x3), (4, .int x4)]) hx hb dX11_clear_96 rfl hl (by decide) rfl (fun ls hl => ?_)
  exact w_X11_clear_J97 X hf hkb35 (lv_sub hl [1, 2, 0, 3, 4] rfl) G
set_option maxHeartbeats 4000000 in
set_option maxRecDepth 100000 in
theorem w_X11_clear_J90 {z : Int32 × Dt} (X : aw_X p c cX11_clear 6 s RX11 m meth (some .int)) {kb35 : Int32 → Int32 → Dt → Option (Int32 × Dt)} {x0 : Nat} {x1 : Int32} {x3 : Int32} {x4 : Int32} {x5 : Int32} {d : Dt} (hf : f_X11_clear_J90 σ kb35 x0 x1 x3 x4 x5 d = some z) (hkb35 : ∀ (y2 : Int32) (y4 : Int32) (d : Dt), kb35 y2 y4 d = some z → ∀ (H : Heap) (locs : List Loc) (ls : Array Slot), lv_has ls 6 [(0, .ref (ad x0)), (1, .int x1), (2, .int y2), (3, .int x3), (4, .int y4)] → aw_G D cA base ad σ d s H locs → W p l e rm_X11_clear s m args below meth c H locs 0 0 (aw_Ei D cA base ad σ below args s z) (F0 m 35 ls [])) {H : Heap} {locs : List Loc} {ls : Array Slot} (hl : lv_has ls 6 [(0, .ref (ad x0)), (1, .int x1), (3, .int x3), (4, .int x4), (5, .int x5)]) (G : aw_G D cA base ad σ d s H locs) : W p l e rm_X11_clear s m args below meth c H locs 0 0 (aw_Ei D cA base ad σ below args s z) (F0 m 90 ls []) := by
  have hx := X.1; have hb := X.2.1; have hml := X.2.2.1; have hown := X.2.2.2.1
  unfold f_X11_clear_J90 at hf
  refine lv_iload hx hb dX11_clear_90 (lv_at hl 4 rfl) ?_
  refine lv_goto (tgt := 96) hx hb dX11_clear_92 (by decide) ?_
  exact w_X11_clear_J96 X hf hkb35 (lv_sub hl [0, 1, 2, 3] rfl) G
set_option maxHeartbeats 4000000 in
set_option maxRecDepth 100000 in
theorem w_X11_clear_B35 {z : Int32 × Dt} (X : aw_X p c cX11_clear 6 s RX11 m meth (some .int)) {kb35 : Int32 → Int32 → Dt → Option (Int32 × Dt)} {k35 : Int32 → Dt → Option (Int32 × Dt)} {x0 : Nat} {x1 : Int32} {x3 : Int32} {x2 : Int32} {x4 : Int32} {d : Dt} (hf : f_X11_clear_B35 σ kb35 k35 x0 x1 x3 x2 x4 d = some z) (hkb35 : ∀ (y2 : Int32) (y4 : Int32) (d : Dt), kb35 y2 y4 d = some z → ∀ (H : Heap) (locs : List Loc) (ls : Array Slot), lv_has ls 6 [(0, .ref (ad x0)), (1, .int x1), (2, .int y2), (3, .int x3), (4, .int y4)] → aw_G D cA base ad σ d s H locs → W p l e rm_X11_clear s m args below meth c H locs 0 0 (aw_Ei D cA base ad σ below args s z) (F0 m 35 ls [])) (hk35 : ∀ (y2 : Int32) (d : Dt), k35 y2 d = some z → ∀ (H : Heap) (locs : List Loc) (ls : Array Slot), lv_has ls 6 [(0, .ref (ad x0)), (1, .int x1), (2, .int y2), (3, .int x3)] → aw_G D cA base ad σ d s H locs → W p l e rm_X11_clear s m args below meth c H locs 0 0 (aw_Ei D cA base ad σ below args s z) (F0 m 103 ls [])) {H : Heap} {locs : List Loc} {ls : Array Slot} (hl : lv_has ls 6 [(0, .ref (ad x0)), (1, .int x1), (2, .int x2), (3, .int x3), (4, .int x4)]) (G : aw_G D cA base ad σ d s H locs) : W p l e rm_X11_clear s m args below meth c H locs 0 0 (aw_Ei D cA base ad σ below args s z) (F0 m 35 ls []) := by
  have hx := X.1; have hb := X.2.1; have hml := X.2.2.1; have hown := X.2.2.2.1
  unfold f_X11_clear_B35 at hf
  refine lv_iload hx hb dX11_clear_35 (lv_at hl 4 rfl) ?_
  refine lv_iload_n hx hb dX11_clear_37 rfl (lv_at hl 3 rfl) ?_
  refine lv_icmp_ge (tgt := 103) hx hb dX11_clear_38 (by decide) (fun hc => ?_) (fun hc => ?_)
  · have hf := aw_ite_t hc hf
    exact hk35 _ _ hf _ _ _ (lv_sub hl [0, 1, 2, 3] rfl) G
  · have hf := aw_ite_f hc hf
    refine lv_aload_n hx hb dX11_clear_41 rfl (lv_at hl 0 rfl) ?_
    refine lv_iload_n hx hb dX11_clear_42 rfl (lv_at hl 1 rfl) ?_
    refine lv_iload_n hx hb dX11_clear_43 rfl (lv_at hl 3 rfl) ?_
    obtain ⟨hc_9, hf⟩ := aw_chk_some hf
    obtain ⟨z_7, hz_8, hf⟩ := aw_bind_some hf
    refine aw_VI (As := [.int x1, .int x3]) (rest := []) X G hl.1 cr_X11_189 (c_X11_isOf l hz_8) ⟨rfl, rfl⟩ rfl rfl rfl (by decide) hc_9 rfl ⟨Nat.le_of_ble_eq_true rfl, Nat.le_of_ble_eq_true rfl⟩ (Nat.le_of_ble_eq_true rfl) dX11_clear_44 ⟨Nat.zero_le _, Nat.zero_le _⟩ (fun H locs G => ?_)
    refine lv_if_eq (tgt := 97) hx hb dX11_clear_47 (by decide) (fun hc => ?_) (fun hc => ?_)
    · have hf := aw_ite_t hc hf
      exact w_X11_clear_J97 X hf hkb35 (lv_sub hl [0, 1, 2, 3, 4] rfl) G
    · have hf := aw_ite_f hc hf
      refine lv_aload_n hx hb dX11_clear_50 rfl (lv_at hl 0 rfl) ?_
      refine lv_iload_n hx hb dX11_clear_51 rfl (lv_at hl 1 rfl) ?_
      refine lv_iload hx hb dX11_clear_52 (lv_at hl 4 rfl) ?_
      obtain ⟨z_10, hz_11, hf⟩ := aw_bind_some hf
      refine aw_VI (As := [.int x1, .int x4]) (rest := []) X G hl.1 cr_X11_189 (c_X11_isOf l hz_11) ⟨rfl, rfl⟩ rfl rfl rfl (by decide) hc_9 rfl ⟨Nat.le_of_ble_eq_true rfl, Nat.le_of_ble_eq_true rfl⟩ (Nat.le_of_ble_eq_true rfl) dX11_clear_54 ⟨Nat.zero_le _, Nat.zero_le _⟩ (fun H locs G => ?_)
      refine lv_if_eq (tgt := 97) hx hb dX11_clear_57 (by decide) (fun hc => ?_) (fun hc => ?_)
      · have hf := aw_ite_t hc hf
        exact w_X11_clear_J97 X hf hkb35 (lv_sub hl [0, 1, 2, 3, 4] rfl) G
      · have hf := aw_ite_f hc hf
        refine lv_aload_n hx hb dX11_clear_60 rfl (lv_at hl 0 rfl) ?_
        refine lv_aload_n hx hb dX11_clear_61 rfl (lv_at hl 0 rfl) ?_
        obtain ⟨q_12, hq_13, hf⟩ := aw_bind_some hf
        refine gf_X11_53 hx hb G hown hc_9 hq_13 dX11_clear_62 ?_
        refine lv_iload_n hx hb dX11_clear_65 rfl (lv_at hl 3 rfl) ?_
        obtain ⟨hc_14, hf⟩ := aw_chk_some hf
        refine aw_ial hx hb G hc_14 dX11_clear_66 ?_
        refine lv_aload_n hx hb dX11_clear_67 rfl (lv_at hl 0 rfl) ?_
        refine gf_X11_53 hx hb G hown hc_9 hq_13 dX11_clear_68 ?_
        refine lv_iload hx hb dX11_clear_71 (lv_at hl 4 rfl) ?_
        obtain ⟨hc_15, hf⟩ := aw_chk_some hf
        refine aw_ial hx hb G hc_15 dX11_clear_73 ?_
        obtain ⟨z_16, hz_17, hf⟩ := aw_bind_some hf
        refine aw_VI (As := [.int (z_10.2.1 q_12 x3.toNatClampNeg), .int (z_10.2.1 q_12 x4.toNatClampNeg)]) (rest := []) X G hl.1 cr_X11_186 (c_X11_far l hz_17) ⟨rfl, rfl⟩ rfl rfl rfl (by decide) hc_9 rfl ⟨Nat.le_of_ble_eq_true rfl, Nat.le_of_ble_eq_true rfl⟩ (Nat.le_of_ble_eq_true rfl) dX11_clear_74 ⟨Nat.zero_le _, Nat.zero_le _⟩ (fun H locs G => ?_)
        refine lv_istore (lv' := [(5, .int z_16.1), (0, .ref (ad x0)), (1, .int x1), (2, .int x2), (3, .int x3), (4, .int x4)]) hx hb dX11_clear_77 hl (by decide) rfl (fun ls hl => ?_)
        refine lv_iload_n hx hb dX11_clear_79 rfl (lv_at hl 3 rfl) ?_
        refine lv_iconst (v := (-1 : Int32)) hx hb dX11_clear_80 (by decide) ?_
        refine lv_icmp_eq (tgt := 90) hx hb dX11_clear_81 (by decide) (fun hc => ?_) (fun hc => ?_)
        · have hf := aw_ite_t hc hf
          exact w_X11_clear_J90 X hf hkb35 (lv_sub hl [1, 2, 4, 5, 0] rfl) G
        · have hf := aw_ite_f hc hf
          refine lv_iload hx hb dX11_clear_84 (lv_at hl 0 rfl) ?_
          refine lv_iload_n hx hb dX11_clear_86 rfl (lv_at hl 3 rfl) ?_
          refine lv_icmp_ge (tgt := 95) hx hb dX11_clear_87 (by decide) (fun hc => ?_) (fun hc => ?_)
          · have hf := aw_ite_t hc hf
            refine lv_iload_n hx hb dX11_clear_95 rfl (lv_at hl 3 rfl) ?_
            exact w_X11_clear_J96 X hf hkb35 (lv_sub hl [1, 2, 4, 5] rfl) G
          · have hf := aw_ite_f hc hf
            exact w_X11_clear_J90 X hf hkb35 (lv_sub hl [1, 2, 4, 5, 0] rfl) G
theorem w_X11_clear_L35 {z : Int32 × Dt} (X : aw_X p c cX11_clear 6 s RX11 m meth (some .int)) {k35 : Int32 → Dt → Option (Int32 × Dt)} {x0 : Nat} {x1 : Int32} {x3 : Int32} (n : Nat) {x2 : Int32} {x4 : Int32} {d : Dt} (hf : f_X11_clear_L35 σ n k35 x0 x1 x3 x2 x4 d = some z) (hk35 : ∀ (y2 : Int32) (d : Dt), k35 y2 d = some z → ∀ (H : Heap) (locs : List Loc) (ls : Array Slot), lv_has ls 6 [(0, .ref (ad x0)), (1, .int x1), (2, .int y2), (3, .int x3)] → aw_G D cA base ad σ d s H locs → W p l e rm_X11_clear s m args below meth c H locs 0 0 (aw_Ei D cA base ad σ below args s z) (F0 m 103 ls [])) {H : Heap} {locs : List Loc} {ls : Array Slot} (hl : lv_has ls 6 [(0, .ref (ad x0)), (1, .int x1), (2, .int x2), (3, .int x3), (4, .int x4)]) (G : aw_G D cA base ad σ d s H locs) : W p l e rm_X11_clear s m args below meth c H locs 0 0 (aw_Ei D cA base ad σ below args s z) (F0 m 35 ls []) := by
  induction n generalizing x2 x4 d H locs ls with
  | zero => exact absurd (show (none : Option (Int32 × Dt)) = some z from hf) (by simp)
  | succ n ih => exact w_X11_clear_B35 X (kb35 := f_X11_clear_L35 σ n k35 x0 x1 x3) hf  (fun x2 x4 d hf H locs ls hl G => ih hf hl G) hk35 hl G
set_option maxHeartbeats 4000000 in
set_option maxRecDepth 100000 in
theorem w_X11_clear_B26 {z : Int32 × Dt} (X : aw_X p c cX11_clear 6 s RX11 m meth (some .int)) {kb26 : Int32 → Int32 → Dt → Option (Int32 × Dt)} {k26 : Int32 → Dt → Option (Int32 × Dt)} {x0 : Nat} {x1 : Int32} {x2 : Int32} {x3 : Int32} {d : Dt} (hf : f_X11_clear_B26 σ kb26 k26 x0 x1 x2 x3 d = some z) (hkb26 : ∀ (y2 : Int32) (y3 : Int32) (d : Dt), kb26 y2 y3 d = some z → ∀ (H : Heap) (locs : List Loc) (ls : Array Slot), lv_has ls 6 [(0, .ref (ad x0)), (1, .int x1), (2, .int y2), (3, .int y3)] → aw_G D cA base ad σ d s H locs → W p l e rm_X11_clear s m args below meth c H locs 0 0 (aw_Ei D cA base ad σ below args s z) (F0 m 26 ls [])) (hk26 : ∀ (y2 : Int32) (d : Dt), k26 y2 d = some z → ∀ (H : Heap) (locs : List Loc) (ls : Array Slot), lv_has ls 6 [(2, .int y2)] → aw_G D cA base ad σ d s H locs → W p l e rm_X11_clear s m args below meth c H locs 0 0 (aw_Ei D cA base ad σ below args s z) (F0 m 109 ls [])) {H : Heap} {locs : List Loc} {ls : Array Slot} (hl : lv_has ls 6 [(0, .ref (ad x0)), (1, .int x1), (2, .int x2), (3, .int x3)]) (G : aw_G D cA base ad σ d s H locs) : W p l e rm_X11_clear s m args below meth c H locs 0 0 (aw_Ei D cA base ad σ below args s z) (F0 m 26 ls []) := by
  have hx := X.1; have hb := X.2.1; have hml := X.2.2.1; have hown := X.2.2.2.1
  unfold f_X11_clear_B26 at hf
  refine lv_iload_n hx hb dX11_clear_26 rfl (lv_at hl 3 rfl) ?_
  refine lv_bipush (v := (50 : Int32)) hx hb dX11_clear_27 (by decide) ?_
  refine lv_icmp_ge (tgt := 109) hx hb dX11_clear_29 (by decide) (fun hc => ?_) (fun hc => ?_)
  · have hf := aw_ite_t hc hf
    exact hk26 _ _ hf _ _ _ (lv_sub hl [2] rfl) G
  · have hf := aw_ite_f hc hf
    refine lv_iconst (v := (0 : Int32)) hx hb dX11_clear_32 (by decide) ?_
    refine lv_istore (lv' := [(4, .int ((0 : Int32))), (0, .ref (ad x0)), (1, .int x1), (2, .int x2), (3, .int x3)]) hx hb dX11_clear_33 hl (by decide) rfl (fun ls hl => ?_)
    refine w_X11_clear_L35 X aw_FU hf  (fun x2_18 d_19 hf H locs ls hl G => ?_) (lv_sub hl [1, 2, 3, 4, 0] rfl) G
    refine lv_iinc (v := x3 + 1) (lv' := [(3, .int (x3 + 1)), (0, .ref (ad x0)), (1, .int x1), (2, .int x2_18)]) hx hb dX11_clear_103 hl (k := 3) rfl rfl (by decide) rfl (fun ls hl => ?_)
    refine lv_goto (tgt := 26) hx hb dX11_clear_106 (by decide) ?_
    exact hkb26 _ _ _ hf _ _ _ (lv_sub hl [1, 2, 3, 0] rfl) G
theorem w_X11_clear_L26 {z : Int32 × Dt} (X : aw_X p c cX11_clear 6 s RX11 m meth (some .int)) {k26 : Int32 → Dt → Option (Int32 × Dt)} {x0 : Nat} {x1 : Int32} (n : Nat) {x2 : Int32} {x3 : Int32} {d : Dt} (hf : f_X11_clear_L26 σ n k26 x0 x1 x2 x3 d = some z) (hk26 : ∀ (y2 : Int32) (d : Dt), k26 y2 d = some z → ∀ (H : Heap) (locs : List Loc) (ls : Array Slot), lv_has ls 6 [(2, .int y2)] → aw_G D cA base ad σ d s H locs → W p l e rm_X11_clear s m args below meth c H locs 0 0 (aw_Ei D cA base ad σ below args s z) (F0 m 109 ls [])) {H : Heap} {locs : List Loc} {ls : Array Slot} (hl : lv_has ls 6 [(0, .ref (ad x0)), (1, .int x1), (2, .int x2), (3, .int x3)]) (G : aw_G D cA base ad σ d s H locs) : W p l e rm_X11_clear s m args below meth c H locs 0 0 (aw_Ei D cA base ad σ below args s z) (F0 m 26 ls []) := by
  induction n generalizing x2 x3 d H locs ls with
  | zero => exact absurd (show (none : Option (Int32 × Dt)) = some z from hf) (by simp)
  | succ n ih => exact w_X11_clear_B26 X (kb26 := f_X11_clear_L26 σ n k26 x0 x1) hf  (fun x2 x3 d hf H locs ls hl G => ih hf hl G) hk26 hl G
set_option maxHeartbeats 4000000 in
set_option maxRecDepth 100000 in
theorem w_X11_clear_J14 {z : Int32 × Dt} (X : aw_X p c cX11_clear 6 s RX11 m meth (some .int)) {t1 : Int32} {t0 : Nat} {x0 : Nat} {x1 : Int32} {d : Dt} (hf : f_X11_clear_J14 σ t1 t0 x0 x1 d = some z)  {H : Heap} {locs : List Loc} {ls : Array Slot} (hl : lv_has ls 6 [(0, .ref (ad x0)), (1, .int x1)]) (G : aw_G D cA base ad σ d s H locs) : W p l e rm_X11_clear s m args below meth c H locs 0 0 (aw_Ei D cA base ad σ below args s z) (F0 m 14 ls [.int t1, .ref (ad t0)]) := by
  have hx := X.1; have hb := X.2.1; have hml := X.2.2.1; have hown := X.2.2.2.1
  unfold f_X11_clear_J14 at hf
  obtain ⟨hc_6, hf⟩ := aw_chk_some hf
  obtain ⟨z_4, hz_5, hf⟩ := aw_bind_some hf
  refine aw_VI (As := [.int t1]) (rest := []) X G hl.1 cr_X11_113 (c_X11_fails l hz_5) ⟨rfl, rfl⟩ rfl rfl rfl (by decide) hc_6 rfl ⟨Nat.le_of_ble_eq_true rfl, Nat.le_of_ble_eq_true rfl⟩ (Nat.le_of_ble_eq_true rfl) dX11_clear_14 ⟨Nat.zero_le _, Nat.zero_le _⟩ (fun H locs G => ?_)
  refine lv_if_eq (tgt := 22) hx hb dX11_clear_17 (by decide) (fun hc => ?_) (fun hc => ?_)
  · have hf := aw_ite_t hc hf
    refine lv_iconst (v := (-1 : Int32)) hx hb dX11_clear_22 (by decide) ?_
    refine lv_istore_n (lv' := [(2, .int ((-1 : Int32))), (0, .ref (ad x0)), (1, .int x1)]) hx hb dX11_clear_23 rfl hl (by decide) rfl (fun ls hl => ?_)
    refine lv_iconst (v := (0 : Int32)) hx hb dX11_clear_24 (by decide) ?_
    refine lv_istore_n (lv' := [(3, .int ((0 : Int32))), (2, .int ((-1 : Int32))), (0, .ref (ad x0)), (1, .int x1)]) hx hb dX11_clear_25 rfl hl (by decide) rfl (fun ls hl => ?_)
    refine w_X11_clear_L26 X aw_FU hf  (fun x2_20 d_21 hf H locs ls hl G => ?_) (lv_sub hl [2, 3, 1, 0] rfl) G
    refine lv_iload_n hx hb dX11_clear_109 rfl (lv_at hl 0 rfl) ?_
    exact aw_reti X G hf dX11_clear_110
  · have hf := aw_ite_f hc hf
    refine lv_iconst (v := (0 : Int32)) hx hb dX11_clear_20 (by decide) ?_
    exact aw_reti X G hf dX11_clear_21
end W_X11_clear
set_option maxHeartbeats 4000000 in
set_option maxRecDepth 100000 in
theorem c_X11_clear (l : Launch) {σ : Sg} {x0 : Nat} {x1 : Int32} {d : Dt} {z : Int32 × Dt} (hf : f_X11_clear σ x0 x1 d = some z) : aw_Mi l yX11_clear (Cond.code yX11_clear cX11_clear 6 (some .int)) rm_X11_clear (fun ad => [.ref (ad x0), .int x1]) σ d z := by
  intro D cA base ad
  refine aw_ofW (own := RX11) (cc := cX11_clear) (nL := 6) (ret := some .int) (by decide) rfl rfl ?_
  intro p e s m below meth c X hnm G
  have hx := X.1; have hb := X.2.1; have hml := X.2.2.1; have hown := X.2.2.2.1
  refine aw_ls (lv := [(0, .ref (ad x0)), (1, .int x1)]) (Nat.le_of_ble_eq_true rfl) rfl (fun ls hl => ?_)
  unfold f_X11_clear at hf
  refine lv_aload_n hx hb dX11_clear_0 rfl (lv_at hl 0 rfl) ?_
  refine lv_aload_n hx hb dX11_clear_1 rfl (lv_at hl 0 rfl) ?_
  refine lv_iload_n hx hb dX11_clear_2 rfl (lv_at hl 1 rfl) ?_
  obtain ⟨hc_3, hf⟩ := aw_chk_some hf
  obtain ⟨z_1, hz_2, hf⟩ := aw_bind_some hf
  refine aw_VI (As := [.int x1]) (rest := [.ref (ad x0)]) X G hl.1 cr_X11_146 (c_X11_isDesign l hz_2) ⟨rfl, rfl⟩ rfl rfl rfl (by decide) hc_3 rfl ⟨Nat.le_of_ble_eq_true rfl, Nat.le_of_ble_eq_true rfl⟩ (Nat.le_of_ble_eq_true rfl) dX11_clear_3 ⟨Nat.zero_le _, Nat.zero_le _⟩ (fun H locs G => ?_)
  refine lv_if_eq (tgt := 13) hx hb dX11_clear_6 (by decide) (fun hc => ?_) (fun hc => ?_)
  · have hf := aw_ite_t hc hf
    refine lv_iconst (v := (1 : Int32)) hx hb dX11_clear_13 (by decide) ?_
    exact w_X11_clear_J14 X hf  (lv_sub hl [0, 1] rfl) G
  · have hf := aw_ite_f hc hf
    refine lv_iconst (v := (0 : Int32)) hx hb dX11_clear_9 (by decide) ?_
    refine lv_goto (tgt := 14) hx hb dX11_clear_10 (by decide) ?_
    exact w_X11_clear_J14 X hf  (lv_sub hl [0, 1] rfl) G
