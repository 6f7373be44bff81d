def rm_L_isPrimer : Room := { frames := 9, cells := 109, slots := 6976, locals := 159 }
def f_L_isPrimer_J117 (σ : Sg) (kb51 : Int32 → Int32 → Int32 → Dt → Option (Int32 × Dt)) (t1 : Int32) (t0 : Int32) (x0 : Nat) (x1 : Nat) (x2 : Nat) (x3 : Nat) (x4 : Int32) (x5 : Int64) (x7 : Int32) (x8 : Int32) (x10 : Int32) (x11 : Int32) (x12 : Int32) (x13 : Int32) (x14 : Int32) (x16 : Int32) (d : Dt) : Option (Int32 × Dt) :=
  kb51 x14 (t0 + t1) (x16 + 1) d
def f_L_isPrimer_J116 (σ : Sg) (kb51 : Int32 → Int32 → Int32 → Dt → Option (Int32 × Dt)) (t0 : Int32) (x0 : Nat) (x1 : Nat) (x2 : Nat) (x3 : Nat) (x4 : Int32) (x5 : Int64) (x7 : Int32) (x8 : Int32) (x10 : Int32) (x11 : Int32) (x12 : Int32) (x13 : Int32) (x14 : Int32) (x16 : Int32) (d : Dt) : Option (Int32 × Dt) :=
  f_L_isPrimer_J117 σ kb51 ((0 : Int32)) t0 x0 x1 x2 x3 x4 x5 x7 x8 x10 x11 x12 x13 x14 x16 d
def f_L_isPrimer_J85 (σ : Sg) (kb51 : Int32 → Int32 → Int32 → Dt → Option (Int32 × Dt)) (t0 : Int32) (x0 : Nat) (x1 : Nat) (x2 : Nat) (x3 : Nat) (x4 : Int32) (x5 : Int64) (x7 : Int32) (x8 : Int32) (x10 : Int32) (x11 : Int32) (x12 : Int32) (x13 : Int32) (x15 : Int32) (x16 : Int32) (x17 : Int32) (d : Dt) : Option (Int32 × Dt) :=
  if x17 = 0 then f_L_isPrimer_J116 σ kb51 x15 x0 x1 x2 x3 x4 x5 x7 x8 x10 x11 x12 x13 t0 x16 d else (f_L_hasSign σ x1 x16 ((-1 : Int32)) x5 d).bind (fun z_4 => if z_4.1 = 0 then aw_chk (aw_I σ 20 x2 (((8 : Int32)) + x16)) (f_L_isPrimer_J117 σ kb51 (z_4.2.1 x2 (((8 : Int32)) + x16).toNatClampNeg) x15 x0 x1 x2 x3 x4 x5 x7 x8 x10 x11 x12 x13 t0 x16 z_4.2) else f_L_isPrimer_J116 σ kb51 x15 x0 x1 x2 x3 x4 x5 x7 x8 x10 x11 x12 x13 t0 x16 z_4.2)
def f_L_isPrimer_J80 (σ : Sg) (kb51 : Int32 → Int32 → Int32 → Dt → Option (Int32 × Dt)) (x0 : Nat) (x1 : Nat) (x2 : Nat) (x3 : Nat) (x4 : Int32) (x5 : Int64) (x7 : Int32) (x8 : Int32) (x10 : Int32) (x11 : Int32) (x12 : Int32) (x13 : Int32) (x15 : Int32) (x16 : Int32) (x17 : Int32) (d : Dt) : Option (Int32 × Dt) :=
  f_L_isPrimer_J85 σ kb51 ((1 : Int32)) x0 x1 x2 x3 x4 x5 x7 x8 x10 x11 x12 x13 x15 x16 x17 d
def f_L_isPrimer_B51 (σ : Sg) (kb51 : Int32 → Int32 → Int32 → Dt → Option (Int32 × Dt)) (k51 : Int32 → Int32 → Dt → Option (Int32 × Dt)) (x0 : Nat) (x1 : Nat) (x2 : Nat) (x3 : Nat) (x4 : Int32) (x5 : Int64) (x7 : Int32) (x8 : Int32) (x10 : Int32) (x11 : Int32) (x12 : Int32) (x13 : Int32) (x14 : Int32) (x15 : Int32) (x16 : Int32) (d : Dt) : Option (Int32 × Dt) :=
  aw_chk (aw_I σ 20 x3 ((0 : Int32))) (if (d.1 x3 ((0 : Int32)).toNatClampNeg) ≤ x16 then k51 x14 x15 d else (f_L_hasSign σ x1 x16 x13 ((0 : Int64)) d).bind (fun z_2 => if x14 = 0 then if z_2.1 = 0 then f_L_isPrimer_J85 σ kb51 ((0 : Int32)) x0 x1 x2 x3 x4 x5 x7 x8 x10 x11 x12 x13 x15 x16 z_2.1 z_2.2 else f_L_isPrimer_J80 σ kb51 x0 x1 x2 x3 x4 x5 x7 x8 x10 x11 x12 x13 x15 x16 z_2.1 z_2.2 else f_L_isPrimer_J80 σ kb51 x0 x1 x2 x3 x4 x5 x7 x8 x10 x11 x12 x13 x15 x16 z_2.1 z_2.2))
def f_L_isPrimer_L51 (σ : Sg) (n : Nat) (k51 : Int32 → Int32 → Dt → Option (Int32 × Dt)) (x0 : Nat) (x1 : Nat) (x2 : Nat) (x3 : Nat) (x4 : Int32) (x5 : Int64) (x7 : Int32) (x8 : Int32) (x10 : Int32) (x11 : Int32) (x12 : Int32) (x13 : Int32) : Int32 → Int32 → Int32 → Dt → Option (Int32 × Dt) := match n with
  | 0 => fun _ _ _ _ => none
  | n + 1 => fun x14 x15 x16 d => f_L_isPrimer_B51 σ (f_L_isPrimer_L51 σ n k51 x0 x1 x2 x3 x4 x5 x7 x8 x10 x11 x12 x13) k51 x0 x1 x2 x3 x4 x5 x7 x8 x10 x11 x12 x13 x14 x15 x16 d
def f_L_isPrimer_J233 (σ : Sg) (kb37 : Int32 → Int32 → Int32 → Int32 → Dt → Option (Int32 × Dt)) (x0 : Nat) (x1 : Nat) (x2 : Nat) (x3 : Nat) (x4 : Int32) (x5 : Int64) (x7 : Int32) (x8 : Int32) (x10 : Int32) (x11 : Int32) (x12 : Int32) (x13 : Int32) (d : Dt) : Option (Int32 × Dt) :=
  kb37 x10 x11 x12 (x13 + (-1)) d
def f_L_isPrimer_J231 (σ : Sg) (kb37 : Int32 → Int32 → Int32 → Int32 → Dt → Option (Int32 × Dt)) (t0 : Int32) (x0 : Nat) (x1 : Nat) (x2 : Nat) (x3 : Nat) (x4 : Int32) (x5 : Int64) (x7 : Int32) (x8 : Int32) (x10 : Int32) (x11 : Int32) (x13 : Int32) (d : Dt) : Option (Int32 × Dt) :=
  f_L_isPrimer_J233 σ kb37 x0 x1 x2 x3 x4 x5 x7 x8 x10 x11 t0 x13 d
def f_L_isPrimer_J217 (σ : Sg) (kb37 : Int32 → Int32 → Int32 → Int32 → Dt → Option (Int32 × Dt)) (t0 : Int32) (x0 : Nat) (x1 : Nat) (x2 : Nat) (x3 : Nat) (x4 : Int32) (x5 : Int64) (x7 : Int32) (x8 : Int32) (x10 : Int32) (x12 : Int32) (x13 : Int32) (x15 : Int32) (x17 : Int32) (d : Dt) : Option (Int32 × Dt) :=
  if x17 = 0 then f_L_isPrimer_J231 σ kb37 x12 x0 x1 x2 x3 x4 x5 x7 x8 x10 t0 x13 d else f_L_isPrimer_J231 σ kb37 x15 x0 x1 x2 x3 x4 x5 x7 x8 x10 t0 x13 d
def f_L_isPrimer_J203 (σ : Sg) (kb37 : Int32 → Int32 → Int32 → Int32 → Dt → Option (Int32 × Dt)) (t0 : Int32) (x0 : Nat) (x1 : Nat) (x2 : Nat) (x3 : Nat) (x4 : Int32) (x5 : Int64) (x7 : Int32) (x8 : Int32) (x11 : Int32) (x12 : Int32) (x13 : Int32) (x15 : Int32) (x16 : Int32) (x17 : Int32) (d : Dt) : Option (Int32 × Dt) :=
  if x17 = 0 then f_L_isPrimer_J217 σ kb37 x11 x0 x1 x2 x3 x4 x5 x7 x8 t0 x12 x13 x15 x17 d else f_L_isPrimer_J217 σ kb37 x16 x0 x1 x2 x3 x4 x5 x7 x8 t0 x12 x13 x15 x17 d
def f_L_isPrimer_J189 (σ : Sg) (kb37 : Int32 → Int32 → Int32 → Int32 → Dt → Option (Int32 × Dt)) (t0 : Int32) (x0 : Nat) (x1 : Nat) (x2 : Nat) (x3 : Nat) (x4 : Int32) (x5 : Int64) (x7 : Int32) (x8 : Int32) (x10 : Int32) (x11 : Int32) (x12 : Int32) (x13 : Int32) (x15 : Int32) (x16 : Int32) (d : Dt) : Option (Int32 × Dt) :=
  if t0 = 0 then f_L_isPrimer_J203 σ kb37 x10 x0 x1 x2 x3 x4 x5 x7 x8 x11 x12 x13 x15 x16 t0 d else f_L_isPrimer_J203 σ kb37 x13 x0 x1 x2 x3 x4 x5 x7 x8 x11 x12 x13 x15 x16 t0 d
def f_L_isPrimer_J184 (σ : Sg) (kb37 : Int32 → Int32 → Int32 → Int32 → Dt → Option (Int32 × Dt)) (x0 : Nat) (x1 : Nat) (x2 : Nat) (x3 : Nat) (x4 : Int32) (x5 : Int64) (x7 : Int32) (x8 : Int32) (x10 : Int32) (x11 : Int32) (x12 : Int32) (x13 : Int32) (x15 : Int32) (x16 : Int32) (d : Dt) : Option (Int32 × Dt) :=
  f_L_isPrimer_J189 σ kb37 ((1 : Int32)) x0 x1 x2 x3 x4 x5 x7 x8 x10 x11 x12 x13 x15 x16 d
def f_L_isPrimer_J188 (σ : Sg) (kb37 : Int32 → Int32 → Int32 → Int32 → Dt → Option (Int32 × Dt)) (x0 : Nat) (x1 : Nat) (x2 : Nat) (x3 : Nat) (x4 : Int32) (x5 : Int64) (x7 : Int32) (x8 : Int32) (x10 : Int32) (x11 : Int32) (x12 : Int32) (x13 : Int32) (x15 : Int32) (x16 : Int32) (d : Dt) : Option (Int32 × Dt) :=
  f_L_isPrimer_J189 σ kb37 ((0 : Int32)) x0 x1 x2 x3 x4 x5 x7 x8 x10 x11 x12 x13 x15 x16 d
def f_L_isPrimer_B37 (σ : Sg) (kb37 : Int32 → Int32 → Int32 → Int32 → Dt → Option (Int32 × Dt)) (k37 : Int32 → Int32 → Dt → Option (Int32 × Dt)) (x0 : Nat) (x1 : Nat) (x2 : Nat) (x3 : Nat) (x4 : Int32) (x5 : Int64) (x7 : Int32) (x8 : Int32) (x10 : Int32) (x11 : Int32) (x12 : Int32) (x13 : Int32) (d : Dt) : Option (Int32 × Dt) :=
  if x13 < 0 then k37 x10 x11 d else f_L_isPrimer_L51 σ aw_FU (fun x14_7 x15_8 d_9 => if x14_7 = 0 then f_L_isPrimer_J233 σ kb37 x0 x1 x2 x3 x4 x5 x7 x8 x10 x11 x12 x13 d_9 else if (lg_cmp ((x5 >>> (x13.toInt64 &&& 63)) &&& ((1 : Int64))) ((0 : Int64))) = 0 then (f_L_read σ x1 x2 x3 (x5 ||| (((1 : Int64)) <<< (x13.toInt64 &&& 63))) d_9).bind (fun z_10 => if x10 < 0 then f_L_isPrimer_J184 σ kb37 x0 x1 x2 x3 x4 x5 x7 x8 x10 x11 x12 x13 x15_8 z_10.1 z_10.2 else if x11 < z_10.1 then f_L_isPrimer_J184 σ kb37 x0 x1 x2 x3 x4 x5 x7 x8 x10 x11 x12 x13 x15_8 z_10.1 z_10.2 else if z_10.1 = x11 then if x15_8 < x12 then f_L_isPrimer_J188 σ kb37 x0 x1 x2 x3 x4 x5 x7 x8 x10 x11 x12 x13 x15_8 z_10.1 z_10.2 else f_L_isPrimer_J184 σ kb37 x0 x1 x2 x3 x4 x5 x7 x8 x10 x11 x12 x13 x15_8 z_10.1 z_10.2 else f_L_isPrimer_J188 σ kb37 x0 x1 x2 x3 x4 x5 x7 x8 x10 x11 x12 x13 x15_8 z_10.1 z_10.2) else f_L_isPrimer_J233 σ kb37 x0 x1 x2 x3 x4 x5 x7 x8 x10 x11 x12 x13 d_9) x0 x1 x2 x3 x4 x5 x7 x8 x10 x11 x12 x13 ((0 : Int32)) ((0 : Int32)) ((0 : Int32)) d
def f_L_isPrimer_L37 (σ : Sg) (n : Nat) (k37 : Int32 → Int32 → Dt → Option (Int32 × Dt)) (x0 : Nat) (x1 : Nat) (x2 : Nat) (x3 : Nat) (x4 : Int32) (x5 : Int64) (x7 : Int32) (x8 : Int32) : Int32 → Int32 → Int32 → Int32 → Dt → Option (Int32 × Dt) := match n with
  | 0 => fun _ _ _ _ _ => none
  | n + 1 => fun x10 x11 x12 x13 d => f_L_isPrimer_B37 σ (f_L_isPrimer_L37 σ n k37 x0 x1 x2 x3 x4 x5 x7 x8) k37 x0 x1 x2 x3 x4 x5 x7 x8 x10 x11 x12 x13 d
def f_L_isPrimer_J378 (σ : Sg) (t0 : Int32) (d : Dt) : Option (Int32 × Dt) :=
  aw_chk (t0 &&& 1 = t0) (some (t0, d))
def f_L_isPrimer_J377 (σ : Sg)  (d : Dt) : Option (Int32 × Dt) :=
  f_L_isPrimer_J378 σ ((0 : Int32)) d
def f_L_isPrimer_J373 (σ : Sg)  (d : Dt) : Option (Int32 × Dt) :=
  f_L_isPrimer_J378 σ ((1 : Int32)) d
def f_L_isPrimer_J301 (σ : Sg) (x0 : Nat) (x4 : Int32) (x7 : Int32) (x8 : Int32) (x9 : Int32) (d : Dt) : Option (Int32 × Dt) :=
  (f_L_does_10 σ x0 x4 ((0 : Int32)) ((0 : Int32)) ((0 : Int32)) ((0 : Int32)) d).bind (fun z_22 => if x9 = 0 then f_L_isPrimer_J377 σ z_22.2 else aw_chk (aw_O σ 10 13 x0) ((f_X10_cost σ x0 x4 z_22.2).bind (fun z_26 => aw_nt z_26 (fun v_28 => if v_28 = x8 then if x7 ≤ ((10 : Int32)) then if z_22.1 < 0 then f_L_isPrimer_J377 σ z_26.2 else if x8 < z_22.1 then f_L_isPrimer_J377 σ z_26.2 else if ((1 : Int32)) < x7 then f_L_isPrimer_J373 σ z_26.2 else if z_22.1 = x8 then f_L_isPrimer_J373 σ z_26.2 else f_L_isPrimer_J377 σ z_26.2 else if z_22.1 = ((-1000000 : Int32)) then f_L_isPrimer_J373 σ z_26.2 else f_L_isPrimer_J377 σ z_26.2 else f_L_isPrimer_J377 σ z_26.2))))
def f_L_isPrimer_J257 (σ : Sg) (kb12 : Int64 → Int32 → Int32 → Int32 → Dt → Option (Int32 × Dt)) (t0 : Int32) (x0 : Nat) (x1 : Nat) (x2 : Nat) (x3 : Nat) (x4 : Int32) (x5 : Int64) (x7 : Int32) (x8 : Int32) (x10 : Int32) (x11 : Int32) (d : Dt) : Option (Int32 × Dt) :=
  if 0 ≤ x10 then (f_L_read σ x1 x2 x3 x5 d).bind (fun z_20 => kb12 (x5 ||| (((1 : Int64)) <<< (x10.toInt64 &&& 63))) (x7 + 1) (x8 + ((x7 + 1) * (x11 - z_20.1))) t0 z_20.2) else f_L_isPrimer_J301 σ x0 x4 x7 x8 t0 d
def f_L_isPrimer_B12 (σ : Sg) (kb12 : Int64 → Int32 → Int32 → Int32 → Dt → Option (Int32 × Dt)) (k12 : Int32 → Int32 → Int32 → Dt → Option (Int32 × Dt)) (x0 : Nat) (x1 : Nat) (x2 : Nat) (x3 : Nat) (x4 : Int32) (x5 : Int64) (x7 : Int32) (x8 : Int32) (x9 : Int32) (d : Dt) : Option (Int32 × Dt) :=
  if x9 = 0 then k12 x7 x8 x9 d else if ((51 : Int32)) ≤ x7 then k12 x7 x8 x9 d else f_L_isPrimer_L37 σ aw_FU (fun x10_12 x11_13 d_14 => aw_chk (aw_O σ 10 13 x0) ((f_X10_primer σ x0 x4 x7 d_14).bind (fun z_16 => aw_nt z_16 (fun v_18 => if v_18 = x10_12 then f_L_isPrimer_J257 σ kb12 ((1 : Int32)) x0 x1 x2 x3 x4 x5 x7 x8 x10_12 x11_13 z_16.2 else f_L_isPrimer_J257 σ kb12 ((0 : Int32)) x0 x1 x2 x3 x4 x5 x7 x8 x10_12 x11_13 z_16.2)))) x0 x1 x2 x3 x4 x5 x7 x8 ((-1 : Int32)) ((0 : Int32)) ((0 : Int32)) ((49 : Int32)) d
def f_L_isPrimer_L12 (σ : Sg) (n : Nat) (k12 : Int32 → Int32 → Int32 → Dt → Option (Int32 × Dt)) (x0 : Nat) (x1 : Nat) (x2 : Nat) (x3 : Nat) (x4 : Int32) : Int64 → Int32 → Int32 → Int32 → Dt → Option (Int32 × Dt) := match n with
  | 0 => fun _ _ _ _ _ => none
  | n + 1 => fun x5 x7 x8 x9 d => f_L_isPrimer_B12 σ (f_L_isPrimer_L12 σ n k12 x0 x1 x2 x3 x4) k12 x0 x1 x2 x3 x4 x5 x7 x8 x9 d
def f_L_isPrimer (σ : Sg) (x0 : Nat) (x1 : Nat) (x2 : Nat) (x3 : Nat) (x4 : Int32) (d : Dt) : Option (Int32 × Dt) :=
  f_L_isPrimer_L12 σ 53 (fun x7_30 x8_31 x9_32 d_33 => f_L_isPrimer_J301 σ x0 x4 x7_30 x8_31 x9_32 d_33) x0 x1 x2 x3 x4 ((0 : Int64)) ((0 : Int32)) ((0 : Int32)) ((1 : Int32)) d
section W_L_isPrimer
variable {p : Program} {l : Launch} {e : Env} {s : State} {m : MethodId} {args : Array Value} {below : List Frame} {meth : Method} {c : Code}
variable {D : va_G} {cA : Nat → ClassId} {base : Nat} {ad : Nat → Nat} {σ : Sg}
set_option maxHeartbeats 4000000 in
set_option maxRecDepth 100000 in
theorem w_L_isPrimer_J117 {z : Int32 × Dt} (X : aw_X p c cL_isPrimer 18 s RL m meth (some .boolean)) (hst : l.stackTraces = false) {kb51 : Int32 → Int32 → Int32 → Dt → Option (Int32 × Dt)} {t1 : Int32} {t0 : Int32} {x0 : Nat} {x1 : Nat} {x2 : Nat} {x3 : Nat} {x4 : Int32} {x5 : Int64} {x7 : Int32} {x8 : Int32} {x10 : Int32} {x11 : Int32} {x12 : Int32} {x13 : Int32} {x14 : Int32} {x16 : Int32} {d : Dt} (hf : f_L_isPrimer_J117 σ kb51 t1 t0 x0 x1 x2 x3 x4 x5 x7 x8 x10 x11 x12 x13 x14 x16 d = some z) {nb12 cells slots : Nat} (hB : cells + (5 + nb12 * 2) ≤ 109 ∧ slots + 64 * (5 + nb12 * 2) ≤ 6976) (hkb51 : ∀ (y14 : Int32) (y15 : Int32) (y16 : Int32) (d : Dt), kb51 y14 y15 y16 d = some z → ∀ (cells slots : Nat), cells + (5 + nb12 * 2) ≤ 109 ∧ slots + 64 * (5 + nb12 * 2) ≤ 6976 → ∀ (H : Heap) (locs : List Loc) (ls : Array Slot), lv_has ls 18 [(0, .ref (ad x0)), (1, .ref (ad x1)), (2, .ref (ad x2)), (3, .ref (ad x3)), (4, .int x4), (5, .long x5), (7, .int x7), (8, .int x8), (10, .int x10), (11, .int x11), (12, .int x12), (13, .int x13), (14, .int y14), (15, .int y15), (16, .int y16)] → aw_G D cA base ad σ d s H locs → W p l e rm_L_isPrimer s m args below meth c H locs cells slots (aw_Ej D cA base ad σ below args s 109 6976 z) (F0 m 51 ls [])) {H : Heap} {locs : List Loc} {ls : Array Slot} (hl : lv_has ls 18 [(0, .ref (ad x0)), (1, .ref (ad x1)), (2, .ref (ad x2)), (3, .ref (ad x3)), (4, .int x4), (5, .long x5), (7, .int x7), (8, .int x8), (10, .int x10), (11, .int x11), (12, .int x12), (13, .int x13), (14, .int x14), (16, .int x16)]) (G : aw_G D cA base ad σ d s H locs) : W p l e rm_L_isPrimer s m args below meth c H locs cells slots (aw_Ej D cA base ad σ below args s 109 6976 z) (F0 m 117 ls [.int t1, .int t0]) := by
  have hx := X.1; have hb := X.2.1; have hml := X.2.2.1; have hown := X.2.2.2.1
  unfold f_L_isPrimer_J117 at hf
  refine lv_iadd hx hb dL_isPrimer_117 ?_
  refine lv_istore (lv' := [(15, .int (t0 + t1)), (0, .ref (ad x0)), (1, .ref (ad x1)), (2, .ref (ad x2)), (3, .ref (ad x3)), (4, .int x4), (5, .long x5), (7, .int x7), (8, .int x8), (10, .int x10), (11, .int x11), (12, .int x12), (13, .int x13), (14, .int x14), (16, .int x16)]) hx hb dL_isPrimer_118 hl (by decide) rfl (fun ls hl => ?_)
  refine lv_iinc (v := x16 + 1) (lv' := [(16, .int (x16 + 1)), (15, .int (t0 + t1)), (0, .ref (ad x0)), (1, .ref (ad x1)), (2, .ref (ad x2)), (3, .ref (ad x3)), (4, .int x4), (5, .long x5), (7, .int x7), (8, .int x8), (10, .int x10), (11, .int x11), (12, .int x12), (13, .int x13), (14, .int x14)]) hx hb dL_isPrimer_120 hl (k := 14) rfl rfl (by decide) rfl (fun ls hl => ?_)
  refine lv_goto (tgt := 51) hx hb dL_isPrimer_123 (by decide) ?_
  exact hkb51 _ _ _ _ hf _ _ ⟨by omega, by omega⟩ _ _ _ (lv_sub hl [2, 3, 4, 5, 6, 7, 8, 9, 10, 11, 12, 13, 14, 1, 0] rfl) G
set_option maxHeartbeats 4000000 in
set_option maxRecDepth 100000 in
theorem w_L_isPrimer_J116 {z : Int32 × Dt} (X : aw_X p c cL_isPrimer 18 s RL m meth (some .boolean)) (hst : l.stackTraces = false) {kb51 : Int32 → Int32 → Int32 → Dt → Option (Int32 × Dt)} {t0 : Int32} {x0 : Nat} {x1 : Nat} {x2 : Nat} {x3 : Nat} {x4 : Int32} {x5 : Int64} {x7 : Int32} {x8 : Int32} {x10 : Int32} {x11 : Int32} {x12 : Int32} {x13 : Int32} {x14 : Int32} {x16 : Int32} {d : Dt} (hf : f_L_isPrimer_J116 σ kb51 t0 x0 x1 x2 x3 x4 x5 x7 x8 x10 x11 x12 x13 x14 x16 d = some z) {nb12 cells slots : Nat} (hB : cells + (5 + nb12 * 2) ≤ 109 ∧ slots + 64 * (5 + nb12 * 2) ≤ 6976) (hkb51 : ∀ (y14 : Int32) (y15 : Int32) (y16 : Int32) (d : Dt), kb51 y14 y15 y16 d = some z → ∀ (cells slots : Nat), cells + (5 + nb12 * 2) ≤ 109 ∧ slots + 64 * (5 + nb12 * 2) ≤ 6976 → ∀ (H : Heap) (locs : List Loc) (ls : Array Slot), lv_has ls 18 [(0, .ref (ad x0)), (1, .ref (ad x1)), (2, .ref (ad x2)), (3, .ref (ad x3)), (4, .int x4), (5, .long x5), (7, .int x7), (8, .int x8), (10, .int x10), (11, .int x11), (12, .int x12), (13, .int x13), (14, .int y14), (15, .int y15), (16, .int y16)] → aw_G D cA base ad σ d s H locs → W p l e rm_L_isPrimer s m args below meth c H locs cells slots (aw_Ej D cA base ad σ below args s 109 6976 z) (F0 m 51 ls [])) {H : Heap} {locs : List Loc} {ls : Array Slot} (hl : lv_has ls 18 [(0, .ref (ad x0)), (1, .ref (ad x1)), (2, .ref (ad x2)), (3, .ref (ad x3)), (4, .int x4), (5, .long x5), (7, .int x7), (8, .int x8), (10, .int x10), (11, .int x11), (12, .int x12), (13, .int x13), (14, .int x14), (16, .int x16)]) (G : aw_G D cA base ad σ d s H locs) : W p l e rm_L_isPrimer s m args below meth c H locs cells slots (aw_Ej D cA base ad σ below args s 109 6976 z) (F0 m 116 ls [.int t0]) := by
  have hx := X.1; have hb := X.2.1; have hml := X.2.2.1; have hown := X.2.2.2.1
  unfold f_L_isPrimer_J116 at hf
  refine lv_iconst (v := (0 : Int32)) hx hb dL_isPrimer_116 (by decide) ?_
  exact w_L_isPrimer_J117 X hst (nb12 := nb12) hf ⟨by omega, by omega⟩ hkb51 (lv_sub hl [0, 1, 2, 3, 4, 5, 6, 7, 8, 9, 10, 11, 12, 13] rfl) G
set_option maxHeartbeats 4000000 in
set_option maxRecDepth 100000 in
theorem w_L_isPrimer_J85 {z : Int32 × Dt} (X : aw_X p c cL_isPrimer 18 s RL m meth (some .boolean)) (hst : l.stackTraces = false) {kb51 : Int32 → Int32 → Int32 → Dt → Option (Int32 × Dt)} {t0 : Int32} {x0 : Nat} {x1 : Nat} {x2 : Nat} {x3 : Nat} {x4 : Int32} {x5 : Int64} {x7 : Int32} {x8 : Int32} {x10 : Int32} {x11 : Int32} {x12 : Int32} {x13 : Int32} {x15 : Int32} {x16 : Int32} {x17 : Int32} {d : Dt} (hf : f_L_isPrimer_J85 σ kb51 t0 x0 x1 x2 x3 x4 x5 x7 x8 x10 x11 x12 x13 x15 x16 x17 d = some z) {nb12 cells slots : Nat} (hB : cells + (5 + nb12 * 2) ≤ 109 ∧ slots + 64 * (5 + nb12 * 2) ≤ 6976) (hkb51 : ∀ (y14 : Int32) (y15 : Int32) (y16 : Int32) (d : Dt), kb51 y14 y15 y16 d = some z → ∀ (cells slots : Nat), cells + (5 + nb12 * 2) ≤ 109 ∧ slots + 64 * (5 + nb12 * 2) ≤ 6976 → ∀ (H : Heap) (locs : List Loc) (ls : Array Slot), lv_has ls 18 [(0, .ref (ad x0)), (1, .ref (ad x1)), (2, .ref (ad x2)), (3, .ref (ad x3)), (4, .int x4), (5, .long x5), (7, .int x7), (8, .int x8), (10, .int x10), (11, .int x11), (12, .int x12), (13, .int x13), (14, .int y14), (15, .int y15), (16, .int y16)] → aw_G D cA base ad σ d s H locs → W p l e rm_L_isPrimer s m args below meth c H locs cells slots (aw_Ej D cA base ad σ below args s 109 6976 z) (F0 m 51 ls [])) {H : Heap} {locs : List Loc} {ls : Array Slot} (hl : lv_has ls 18 [(0, .ref (ad x0)), (1, .ref (ad x1)), (2, .ref (ad x2)), (3, .ref (ad x3)), (4, .int x4), (5, .long x5), (7, .int x7), (8, .int x8), (10, .int x10), (11, .int x11), (12, .int x12), (13, .int x13), (15, .int x15), (16, .int x16), (17, .int x17)]) (G : aw_G D cA base ad σ d s H locs) : W p l e rm_L_isPrimer s m args below meth c H locs cells slots (aw_Ej D cA base ad σ below args s 109 6976 z) (F0 m 85 ls [.int t0]) := by
  have hx := X.1; have hb := X.2.1; have hml := X.2.2.1; have hown := X.2.2.2.1
  unfold f_L_isPrimer_J85 at hf
  refine lv_istore (lv' := [(14, .int t0), (0, .ref (ad x0)), (1, .ref (ad x1)), (2, .ref (ad x2)), (3, .ref (ad x3)), (4, .int x4), (5, .long x5), (7, .int x7), (8, .int x8), (10, .int x10), (11, .int x11), (12, .int x12), (13, .int x13), (15, .int x15), (16, .int x16), (17, .int x17)]) hx hb dL_isPrimer_85 hl (by decide) rfl (fun ls hl => ?_)
  refine lv_iload hx hb dL_isPrimer_87 (lv_at hl 13 rfl) ?_
  refine lv_iload hx hb dL_isPrimer_89 (lv_at hl 15 rfl) ?_
  refine lv_if_eq (tgt := 116) hx hb dL_isPrimer_91 (by decide) (fun hc => ?_) (fun hc => ?_)
  · have hf := aw_ite_t hc hf
    exact w_L_isPrimer_J116 X hst (nb12 := nb12) hf ⟨by omega, by omega⟩ hkb51 (lv_sub hl [1, 2, 3, 4, 5, 6, 7, 8, 9, 10, 11, 12, 0, 14] rfl) G
  · have hf := aw_ite_f hc hf
    refine lv_aload_n hx hb dL_isPrimer_94 rfl (lv_at hl 2 rfl) ?_
    refine lv_iload hx hb dL_isPrimer_95 (lv_at hl 14 rfl) ?_
    refine lv_iconst (v := (-1 : Int32)) hx hb dL_isPrimer_97 (by decide) ?_
    refine lv_lload hx hb dL_isPrimer_98 (lv_at hl 6 rfl) ?_
    obtain ⟨z_4, hz_5, hf⟩ := aw_bind_some hf
    refine aw_SI (As := [.ref (ad x1), .int x16, .int ((-1 : Int32)), .long x5]) (rest := [.int x15]) X G hl.1 cr_L_115 (c_L_hasSign l hz_5) ⟨rfl, rfl⟩ rfl rfl rfl ⟨(Nat.le_of_ble_eq_true rfl), (Nat.le_of_ble_eq_true rfl)⟩ (Nat.le_of_ble_eq_true rfl) dL_isPrimer_100 ⟨by show cells + 0 ≤ 109; omega, by show slots + 0 ≤ 6976; omega⟩ (fun H locs G => ?_)
    refine lv_if_ne (tgt := 116) hx hb dL_isPrimer_103 (by decide) (fun hc => ?_) (fun hc => ?_)
    · have hf := aw_ite_f hc hf
      exact w_L_isPrimer_J116 X hst (nb12 := nb12) hf ⟨by omega, by omega⟩ hkb51 (lv_sub hl [1, 2, 3, 4, 5, 6, 7, 8, 9, 10, 11, 12, 0, 14] rfl) G
    · have hf := aw_ite_t hc hf
      refine lv_aload_n hx hb dL_isPrimer_106 rfl (lv_at hl 3 rfl) ?_
      refine lv_bipush (v := (8 : Int32)) hx hb dL_isPrimer_107 (by decide) ?_
      refine lv_iload hx hb dL_isPrimer_109 (lv_at hl 14 rfl) ?_
      refine lv_iadd hx hb dL_isPrimer_111 ?_
      obtain ⟨hc_6, hf⟩ := aw_chk_some hf
      refine aw_ial hx hb G hc_6 dL_isPrimer_112 ?_
      refine lv_goto (tgt := 117) hx hb dL_isPrimer_113 (by decide) ?_
      exact w_L_isPrimer_J117 X hst (nb12 := nb12) hf ⟨by omega, by omega⟩ hkb51 (lv_sub hl [1, 2, 3, 4, 5, 6, 7, 8, 9, 10, 11, 12, 0, 14] rfl) G
set_option maxHeartbeats 4000000 in
set_option maxRecDepth 100000 in
theorem w_L_isPrimer_J80 {z : Int32 × Dt} (X : aw_X p c cL_isPrimer 18 s RL m meth (some .boolean)) (hst : l.stackTraces = false) {kb51 : Int32 → Int32 → Int32 → Dt → Option (Int32 × Dt)} {x0 : Nat} {x1 : Nat} {x2 : Nat} {x3 : Nat} {x4 : Int32} {x5 : Int64} {x7 : Int32} {x8 : Int32} {x10 : Int32} {x11 : Int32} {x12 : Int32} {x13 : Int32} {x15 : Int32} {x16 : Int32} {x17 : Int32} {d : Dt} (hf : f_L_isPrimer_J80 σ kb51 x0 x1 x2 x3 x4 x5 x7 x8 x10 x11 x12 x13 x15 x16 x17 d = some z) {nb12 cells slots : Nat} (hB : cells + (5 + nb12 * 2) ≤ 109 ∧ slots + 64 * (5 + nb12 * 2) ≤ 6976) (hkb51 : ∀ (y14 : Int32) (y15 : Int32) (y16 : Int32) (d : Dt), kb51 y14 y15 y16 d = some z → ∀ (cells slots : Nat), cells + (5 + nb12 * 2) ≤ 109 ∧ slots + 64 * (5 + nb12 * 2) ≤ 6976 → ∀ (H : Heap) (locs : List Loc) (ls : Array Slot), lv_has ls 18 [(0, .ref (ad x0)), (1, .ref (ad x1)), (2, .ref (ad x2)), (3, .ref (ad x3)), (4, .int x4), (5, .long x5), (7, .int x7), (8, .int x8), (10, .int x10), (11, .int x11), (12, .int x12), (13, .int x13), (14, .int y14), (15, .int y15), (16, .int y16)] → aw_G D cA base ad σ d s H locs → W p l e rm_L_isPrimer s m args below meth c H locs cells slots (aw_Ej D cA base ad σ below args s 109 6976 z) (F0 m 51 ls [])) {H : Heap} {locs : List Loc} {ls : Array Slot} (hl : lv_has ls 18 [(0, .ref (ad x0)), (1, .ref (ad x1)), (2, .ref (ad x2)), (3, .ref (ad x3)), (4, .int x4), (5, .long x5), (7, .int x7), (8, .int x8), (10, .int x10), (11, .int x11), (12, .int x12), (13, .int x13), (15, .int x15), (16, .int x16), (17, .int x17)]) (G : aw_G D cA base ad σ d s H locs) : W p l e rm_L_isPrimer s m args below meth c H locs cells slots (aw_Ej D cA base ad σ below args s 109 6976 z) (F0 m 80 ls []) := by
  have hx := X.1; have hb := X.2.1; have hml := X.2.2.1; have hown := X.2.2.2.1
  unfold f_L_isPrimer_J80 at hf
  refine lv_iconst (v := (1 : Int32)) hx hb dL_isPrimer_80 (by decide) ?_
  refine lv_goto (tgt := 85) hx hb dL_isPrimer_81 (by decide) ?_
  exact w_L_isPrimer_J85 X hst (nb12 := nb12) hf ⟨by omega, by omega⟩ hkb51 (lv_sub hl [0, 1, 2, 3, 4, 5, 6, 7, 8, 9, 10, 11, 12, 13, 14] rfl) G
set_option maxHeartbeats 4000000 in
set_option maxRecDepth 100000 in
theorem w_L_isPrimer_B51 {z : Int32 × Dt} (X : aw_X p c cL_isPrimer 18 s RL m meth (some .boolean)) (hst : l.stackTraces = false) {kb51 : Int32 → Int32 → Int32 → Dt → Option (Int32 × Dt)} {k51 : Int32 → Int32 → Dt → Option (Int32 × Dt)} {x0 : Nat} {x1 : Nat} {x2 : Nat} {x3 : Nat} {x4 : Int32} {x5 : Int64} {x7 : Int32} {x8 : Int32} {x10 : Int32} {x11 : Int32} {x12 : Int32} {x13 : Int32} {x14 : Int32} {x15 : Int32} {x16 : Int32} {d : Dt} (hf : f_L_isPrimer_B51 σ kb51 k51 x0 x1 x2 x3 x4 x5 x7 x8 x10 x11 x12 x13 x14 x15 x16 d = some z) {nb12 cells slots : Nat} (hB : cells + (5 + nb12 * 2) ≤ 109 ∧ slots + 64 * (5 + nb12 * 2) ≤ 6976) (hkb51 : ∀ (y14 : Int32) (y15 : Int32) (y16 : Int32) (d : Dt), kb51 y14 y15 y16 d = some z → ∀ (cells slots : Nat), cells + (5 + nb12 * 2) ≤ 109 ∧ slots + 64 * (5 + nb12 * 2) ≤ 6976 → ∀ (H : Heap) (locs : List Loc) (ls : Array Slot), lv_has ls 18 [(0, .ref (ad x0)), (1, .ref (ad x1)), (2, .ref (ad x2)), (3, .ref (ad x3)), (4, .int x4), (5, .long x5), (7, .int x7), (8, .int x8), (10, .int x10), (11, .int x11), (12, .int x12), (13, .int x13), (14, .int y14), (15, .int y15), (16, .int y16)] → aw_G D cA base ad σ d s H locs → W p l e rm_L_isPrimer s m args below meth c H locs cells slots (aw_Ej D cA base ad σ below args s 109 6976 z) (F0 m 51 ls [])) (hk51 : ∀ (y14 : Int32) (y15 : Int32) (d : Dt), k51 y14 y15 d = some z → ∀ (cells slots : Nat), cells + (5 + nb12 * 2) ≤ 109 ∧ slots + 64 * (5 + nb12 * 2) ≤ 6976 → ∀ (H : Heap) (locs : List Loc) (ls : Array Slot), lv_has ls 18 [(0, .ref (ad x0)), (1, .ref (ad x1)), (2, .ref (ad x2)), (3, .ref (ad x3)), (4, .int x4), (5, .long x5), (7, .int x7), (8, .int x8), (10, .int x10), (11, .int x11), (12, .int x12), (13, .int x13), (14, .int y14), (15, .int y15)] → aw_G D cA base ad σ d s H locs → W p l e rm_L_isPrimer s m args below meth c H locs cells slots (aw_Ej D cA base ad σ below args s 109 6976 z) (F0 m 126 ls [])) {H : Heap} {locs : List Loc} {ls : Array Slot} (hl : lv_has ls 18 [(0, .ref (ad x0)), (1, .ref (ad x1)), (2, .ref (ad x2)), (3, .ref (ad x3)), (4, .int x4), (5, .long x5), (7, .int x7), (8, .int x8), (10, .int x10), (11, .int x11), (12, .int x12), (13, .int x13), (14, .int x14), (15, .int x15), (16, .int x16)]) (G : aw_G D cA base ad σ d s H locs) : W p l e rm_L_isPrimer s m args below meth c H locs cells slots (aw_Ej D cA base ad σ below args s 109 6976 z) (F0 m 51 ls []) := by
  have hx := X.1; have hb := X.2.1; have hml := X.2.2.1; have hown := X.2.2.2.1
  unfold f_L_isPrimer_B51 at hf
  refine lv_iload hx hb dL_isPrimer_51 (lv_at hl 14 rfl) ?_
  refine lv_aload_n hx hb dL_isPrimer_53 rfl (lv_at hl 3 rfl) ?_
  refine lv_iconst (v := (0 : Int32)) hx hb dL_isPrimer_54 (by decide) ?_
  obtain ⟨hc_1, hf⟩ := aw_chk_some hf
  refine aw_ial hx hb G hc_1 dL_isPrimer_55 ?_
  refine lv_icmp_ge (tgt := 126) hx hb dL_isPrimer_56 (by decide) (fun hc => ?_) (fun hc => ?_)
  · have hf := aw_ite_t hc hf
    exact hk51 _ _ _ hf _ _ ⟨by omega, by omega⟩ _ _ _ (lv_sub hl [0, 1, 2, 3, 4, 5, 6, 7, 8, 9, 10, 11, 12, 13] rfl) G
  · have hf := aw_ite_f hc hf
    refine lv_aload_n hx hb dL_isPrimer_59 rfl (lv_at hl 1 rfl) ?_
    refine lv_iload hx hb dL_isPrimer_60 (lv_at hl 14 rfl) ?_
    refine lv_iload hx hb dL_isPrimer_62 (lv_at hl 11 rfl) ?_
    refine lv_lconst (v := (0 : Int64)) hx hb dL_isPrimer_64 (by decide) ?_
    obtain ⟨z_2, hz_3, hf⟩ := aw_bind_some hf
    refine aw_SI (As := [.ref (ad x1), .int x16, .int x13, .long ((0 : Int64))]) (rest := []) X G hl.1 cr_L_115 (c_L_hasSign l hz_3) ⟨rfl, rfl⟩ rfl rfl rfl ⟨(Nat.le_of_ble_eq_true rfl), (Nat.le_of_ble_eq_true rfl)⟩ (Nat.le_of_ble_eq_true rfl) dL_isPrimer_65 ⟨by show cells + 0 ≤ 109; omega, by show slots + 0 ≤ 6976; omega⟩ (fun H locs G => ?_)
    refine lv_istore (lv' := [(17, .int z_2.1), (0, .ref (ad x0)), (1, .ref (ad x1)), (2, .ref (ad x2)), (3, .ref (ad x3)), (4, .int x4), (5, .long x5), (7, .int x7), (8, .int x8), (10, .int x10), (11, .int x11), (12, .int x12), (13, .int x13), (14, .int x14), (15, .int x15), (16, .int x16)]) hx hb dL_isPrimer_68 hl (by decide) rfl (fun ls hl => ?_)
    refine lv_iload hx hb dL_isPrimer_70 (lv_at hl 13 rfl) ?_
    refine lv_if_ne (tgt := 80) hx hb dL_isPrimer_72 (by decide) (fun hc => ?_) (fun hc => ?_)
    · have hf := aw_ite_f hc hf
      exact w_L_isPrimer_J80 X hst (nb12 := nb12) hf ⟨by omega, by omega⟩ hkb51 (lv_sub hl [1, 2, 3, 4, 5, 6, 7, 8, 9, 10, 11, 12, 14, 15, 0] rfl) G
    · have hf := aw_ite_t hc hf
      refine lv_iload hx hb dL_isPrimer_75 (lv_at hl 0 rfl) ?_
      refine lv_if_eq (tgt := 84) hx hb dL_isPrimer_77 (by decide) (fun hc => ?_) (fun hc => ?_)
      · have hf := aw_ite_t hc hf
        refine lv_iconst (v := (0 : Int32)) hx hb dL_isPrimer_84 (by decide) ?_
        exact w_L_isPrimer_J85 X hst (nb12 := nb12) hf ⟨by omega, by omega⟩ hkb51 (lv_sub hl [1, 2, 3, 4, 5, 6, 7, 8, 9, 10, 11, 12, 14, 15, 0] rfl) G
      · have hf := aw_ite_f hc hf
        exact w_L_isPrimer_J80 X hst (nb12 := nb12) hf ⟨by omega, by omega⟩ hkb51 (lv_sub hl [1, 2, 3, 4, 5, 6, 7, 8, 9, 10, 11, 12, 14, 15, 0] rfl) G
theorem w_L_isPrimer_L51 {z : Int32 × Dt} (X : aw_X p c cL_isPrimer 18 s RL m meth (some .boolean)) (hst : l.stackTraces = false) {k51 : Int32 → Int32 → Dt → Option (Int32 × Dt)} {x0 : Nat} {x1 : Nat} {x2 : Nat} {x3 : Nat} {x4 : Int32} {x5 : Int64} {x7 : Int32} {x8 : Int32} {x10 : Int32} {x11 : Int32} {x12 : Int32} {x13 : Int32} (n : Nat) {x14 : Int32} {x15 : Int32} {x16 : Int32} {d : Dt} (hf : f_L_isPrimer_L51 σ n k51 x0 x1 x2 x3 x4 x5 x7 x8 x10 x11 x12 x13 x14 x15 x16 d = some z) {nb12 cells slots : Nat} (hB : cells + (5 + nb12 * 2) ≤ 109 ∧ slots + 64 * (5 + nb12 * 2) ≤ 6976) (hk51 : ∀ (y14 : Int32) (y15 : Int32) (d : Dt), k51 y14 y15 d = some z → ∀ (cells slots : Nat), cells + (5 + nb12 * 2) ≤ 109 ∧ slots + 64 * (5 + nb12 * 2) ≤ 6976 → ∀ (H : Heap) (locs : List Loc) (ls : Array Slot), lv_has ls 18 [(0, .ref (ad x0)), (1, .ref (ad x1)), (2, .ref (ad x2)), (3, .ref (ad x3)), (4, .int x4), (5, .long x5), (7, .int x7), (8, .int x8), (10, .int x10), (11, .int x11), (12, .int x12), (13, .int x13), (14, .int y14), (15, .int y15)] → aw_G D cA base ad σ d s H locs → W p l e rm_L_isPrimer s m args below meth c H locs cells slots (aw_Ej D cA base ad σ below args s 109 6976 z) (F0 m 126 ls [])) {H : Heap} {locs : List Loc} {ls : Array Slot} (hl : lv_has ls 18 [(0, .ref (ad x0)), (1, .ref (ad x1)), (2, .ref (ad x2)), (3, .ref (ad x3)), (4, .int x4), (5, .long x5), (7, .int x7), (8, .int x8), (10, .int x10), (11, .int x11), (12, .int x12), (13, .int x13), (14, .int x14), (15, .int x15), (16, .int x16)]) (G : aw_G D cA base ad σ d s H locs) : W p l e rm_L_isPrimer s m args below meth c H locs cells slots (aw_Ej D cA base ad σ below args s 109 6976 z) (F0 m 51 ls []) := by
  induction n generalizing x14 x15 x16 d cells slots H locs ls with
  | zero => exact absurd (show (none : Option (Int32 × Dt)) = some z from hf) (by simp)
  | succ n ih => exact w_L_isPrimer_B51 X hst (nb12 := nb12) (kb51 := f_L_isPrimer_L51 σ n k51 x0 x1 x2 x3 x4 x5 x7 x8 x10 x11 x12 x13) hf ⟨by omega, by omega⟩  (fun x14 x15 x16 d hf cells slots hB H locs ls hl G => ih hf hB hl G) hk51 hl G
set_option maxHeartbeats 4000000 in
set_option maxRecDepth 100000 in
theorem w_L_isPrimer_J233 {z : Int32 × Dt} (X : aw_X p c cL_isPrimer 18 s RL m meth (some .boolean)) (hst : l.stackTraces = false) {kb37 : Int32 → Int32 → Int32 → Int32 → Dt → Option (Int32 × Dt)} {x0 : Nat} {x1 : Nat} {x2 : Nat} {x3 : Nat} {x4 : Int32} {x5 : Int64} {x7 : Int32} {x8 : Int32} {x10 : Int32} {x11 : Int32} {x12 : Int32} {x13 : Int32} {d : Dt} (hf : f_L_isPrimer_J233 σ kb37 x0 x1 x2 x3 x4 x5 x7 x8 x10 x11 x12 x13 d = some z) {nb12 cells slots : Nat} (hB : cells + (5 + nb12 * 2) ≤ 109 ∧ slots + 64 * (5 + nb12 * 2) ≤ 6976) (hkb37 : ∀ (y10 : Int32) (y11 : Int32) (y12 : Int32) (y13 : Int32) (d : Dt), kb37 y10 y11 y12 y13 d = some z → ∀ (cells slots : Nat), cells + (5 + nb12 * 2) ≤ 109 ∧ slots + 64 * (5 + nb12 * 2) ≤ 6976 → ∀ (H : Heap) (locs : List Loc) (ls : Array Slot), lv_has ls 18 [(0, .ref (ad x0)), (1, .ref (ad x1)), (2, .ref (ad x2)), (3, .ref (ad x3)), (4, .int x4), (5, .long x5), (7, .int x7), (8, .int x8), (10, .int y10), (11, .int y11), (12, .int y12), (13, .int y13)] → aw_G D cA base ad σ d s H locs → W p l e rm_L_isPrimer s m args below meth c H locs cells slots (aw_Ej D cA base ad σ below args s 109 6976 z) (F0 m 37 ls [])) {H : Heap} {locs : List Loc} {ls : Array Slot} (hl : lv_has ls 18 [(0, .ref (ad x0)), (1, .ref (ad x1)), (2, .ref (ad x2)), (3, .ref (ad x3)), (4, .int x4), (5, .long x5), (7, .int x7), (8, .int x8), (10, .int x10), (11, .int x11), (12, .int x12), (13, .int x13)]) (G : aw_G D cA base ad σ d s H locs) : W p l e rm_L_isPrimer s m args below meth c H locs cells slots (aw_Ej D cA base ad σ below args s 109 6976 z) (F0 m 233 ls []) := by
  have hx := X.1; have hb := X.2.1; have hml := X.2.2.1; have hown := X.2.2.2.1
  unfold f_L_isPrimer_J233 at hf
  refine lv_iinc (v := x13 + (-1)) (lv' := [(13, .int (x13 + (-1))), (0, .ref (ad x0)), (1, .ref (ad x1)), (2, .ref (ad x2)), (3, .ref (ad x3)), (4, .int x4), (5, .long x5), (7, .int x7), (8, .int x8), (10, .int x10), (11, .int x11), (12, .int x12)]) hx hb dL_isPrimer_233 hl (k := 11) rfl rfl (by decide) rfl (fun ls hl => ?_)
  refine lv_goto (tgt := 37) hx hb dL_isPrimer_236 (by decide) ?_
  exact hkb37 _ _ _ _ _ hf _ _ ⟨by omega, by omega⟩ _ _ _ (lv_sub hl [1, 2, 3, 4, 5, 6, 7, 8, 9, 10, 11, 0] rfl) G
set_option maxHeartbeats 4000000 in
set_option maxRecDepth 100000 in
theorem w_L_isPrimer_J231 {z : Int32 × Dt} (X : aw_X p c cL_isPrimer 18 s RL m meth (some .boolean)) (hst : l.stackTraces = false) {kb37 : Int32 → Int32 → Int32 → Int32 → Dt → Option (Int32 × Dt)} {t0 : Int32} {x0 : Nat} {x1 : Nat} {x2 : Nat} {x3 : Nat} {x4 : Int32} {x5 : Int64} {x7 : Int32} {x8 : Int32} {x10 : Int32} {x11 : Int32} {x13 : Int32} {d : Dt} (hf : f_L_isPrimer_J231 σ kb37 t0 x0 x1 x2 x3 x4 x5 x7 x8 x10 x11 x13 d = some z) {nb12 cells slots : Nat} (hB : cells + (5 + nb12 * 2) ≤ 109 ∧ slots + 64 * (5 + nb12 * 2) ≤ 6976) (hkb37 : ∀ (y10 : Int32) (y11 : Int32) (y12 : Int32) (y13 : Int32) (d : Dt), kb37 y10 y11 y12 y13 d = some z → ∀ (cells slots : Nat), cells + (5 + nb12 * 2) ≤ 109 ∧ slots + 64 * (5 + nb12 * 2) ≤ 6976 → ∀ (H : Heap) (locs : List Loc) (ls : Array Slot), lv_has ls 18 [(0, .ref (ad x0)), (1, .ref (ad x1)), (2, .ref (ad x2)), (3, .ref (ad x3)), (4, .int x4), (5, .long x5), (7, .int x7), (8, .int x8), (10, .int y10), (11, .int y11), (12, .int y12), (13, .int y13)] → aw_G D cA base ad σ d s H locs → W p l e rm_L_isPrimer s m args below meth c H locs cells slots (aw_Ej D cA base ad σ below args s 109 6976 z) (F0 m 37 ls [])) {H : Heap} {locs : List Loc} {ls : Array Slot} (hl : lv_has ls 18 [(0, .ref (ad x0)), (1, .ref (ad x1)), (2, .ref (ad x2)), (3, .ref (ad x3)), (4, .int x4), (5, .long x5), (7, .int x7), (8, .int x8), (10, .int x10), (11, .int x11), (13, .int x13)]) (G : aw_G D cA base ad σ d s H locs) : W p l e rm_L_isPrimer s m args below meth c H locs cells slots (aw_Ej D cA base ad σ below args s 109 6976 z) (F0 m 231 ls [.int t0]) := by
  have hx := X.1; have hb := X.2.1; have hml := X.2.2.1; have hown := X.2.2.2.1
  unfold f_L_isPrimer_J231 at hf
  refine lv_istore (lv' := [(12, .int t0), (0, .ref (ad x0)), (1, .ref (ad x1)), (2, .ref (ad x2)), (3, .ref (ad x3)), (4, .int x4), (5, .long x5), (7, .int x7), (8, .int x8), (10, .int x10), (11, .int x11), (13, .int x13)]) hx hb dL_isPrimer_231 hl (by decide) rfl (fun ls hl => ?_)
  exact w_L_isPrimer_J233 X hst (nb12 := nb12) hf ⟨by omega, by omega⟩ hkb37 (lv_sub hl [1, 2, 3, 4, 5, 6, 7, 8, 9, 10, 0, 11] rfl) G
set_option maxHeartbeats 4000000 in
set_option maxRecDepth 100000 in
theorem w_L_isPrimer_J217 {z : Int32 × Dt} (X : aw_X p c cL_isPrimer 18 s RL m meth (some .boolean)) (hst : l.stackTraces = false) {kb37 : Int32 → Int32 → Int32 → Int32 → Dt → Option (Int32 × Dt)} {t0 : Int32} {x0 : Nat} {x1 : Nat} {x2 : Nat} {x3 : Nat} {x4 : Int32} {x5 : Int64} {x7 : Int32} {x8 : Int32} {x10 : Int32} {x12 : Int32} {x13 : Int32} {x15 : Int32} {x17 : Int32} {d : Dt} (hf : f_L_isPrimer_J217 σ kb37 t0 x0 x1 x2 x3 x4 x5 x7 x8 x10 x12 x13 x15 x17 d = some z) {nb12 cells slots : Nat} (hB : cells + (5 + nb12 * 2) ≤ 109 ∧ slots + 64 * (5 + nb12 * 2) ≤ 6976) (hkb37 : ∀ (y10 : Int32) (y11 : Int32) (y12 : Int32) (y13 : Int32) (d : Dt), kb37 y10 y11 y12 y13 d = some z → ∀ (cells slots : Nat), cells + (5 + nb12 * 2) ≤ 109 ∧ slots + 64 * (5 + nb12 * 2) ≤ 6976 → ∀ (H : Heap) (locs : List Loc) (ls : Array Slot), lv_has ls 18 [(0, .ref (ad x0)), (1, .ref (ad x1)), (2, .ref (ad x2)), (3, .ref (ad x3)), (4, .int x4), (5, .long x5), (7, .int x7), (8, .int x8), (10, .int y10), (11, .int y11), (12, .int y12), (13, .int y13)] → aw_G D cA base ad σ d s H locs → W p l e rm_L_isPrimer s m args below meth c H locs cells slots (aw_Ej D cA base ad σ below args s 109 6976 z) (F0 m 37 ls [])) {H : Heap} {locs : List Loc} {ls : Array Slot} (hl : lv_has ls 18 [(0, .ref (ad x0)), (1, .ref (ad x1)), (2, .ref (ad x2)), (3, .ref (ad x3)), (4, .int x4), (5, .long x5), (7, .int x7), (8, .int x8), (10, .int x10), (12, .int x12), (13, .int x13), (15, .int x15), (17, .int x17)]) (G : aw_G D cA base ad σ d s H locs) : W p l e rm_L_isPrimer s m args below meth c H locs cells slots (aw_Ej D cA base ad σ below args s 109 6976 z) (F0 m 217 ls [.int t0]) := by
  have hx := X.1; have hb := X.2.1; have hml := X.2.2.1; have hown := X.2.2.2.1
  unfold f_L_isPrimer_J217 at hf
  refine lv_istore (lv' := [(11, .int t0), (0, .ref (ad x0)), (1, .ref (ad x1)), (2, .ref (ad x2)), (3, .ref (ad x3)), (4, .int x4), (5, .long x5), (7, .int x7), (8, .int x8), (10, .int x10), (12, .int x12), (13, .int x13), (15, .int x15), (17, .int x17)]) hx hb dL_isPrimer_217 hl (by decide) rfl (fun ls hl => ?_)
  refine lv_iload hx hb dL_isPrimer_219 (lv_at hl 13 rfl) ?_
  refine lv_if_eq (tgt := 229) hx hb dL_isPrimer_221 (by decide) (fun hc => ?_) (fun hc => ?_)
  · have hf := aw_ite_t hc hf
    refine lv_iload hx hb dL_isPrimer_229 (lv_at hl 10 rfl) ?_
    exact w_L_isPrimer_J231 X hst (nb12 := nb12) hf ⟨by omega, by omega⟩ hkb37 (lv_sub hl [1, 2, 3, 4, 5, 6, 7, 8, 9, 0, 11] rfl) G
  · have hf := aw_ite_f hc hf
    refine lv_iload hx hb dL_isPrimer_224 (lv_at hl 12 rfl) ?_
    refine lv_goto (tgt := 231) hx hb dL_isPrimer_226 (by decide) ?_
    exact w_L_isPrimer_J231 X hst (nb12 := nb12) hf ⟨by omega, by omega⟩ hkb37 (lv_sub hl [1, 2, 3, 4, 5, 6, 7, 8, 9, 0, 11] rfl) G
set_option maxHeartbeats 4000000 in
set_option maxRecDepth 100000 in
theorem w_L_isPrimer_J203 {z : Int32 × Dt} (X : aw_X p c cL_isPrimer 18 s RL m meth (some .boolean)) (hst : l.stackTraces = false) {kb37 : Int32 → Int32 → Int32 → Int32 → Dt → Option (Int32 × Dt)} {t0 : Int32} {x0 : Nat} {x1 : Nat} {x2 : Nat} {x3 : Nat} {x4 : Int32} {x5 : Int64} {x7 : Int32} {x8 : Int32} {x11 : Int32} {x12 : Int32} {x13 : Int32} {x15 : Int32} {x16 : Int32} {x17 : Int32} {d : Dt} (hf : f_L_isPrimer_J203 σ kb37 t0 x0 x1 x2 x3 x4 x5 x7 x8 x11 x12 x13 x15 x16 x17 d = some z) {nb12 cells slots : Nat} (hB : cells + (5 + nb12 * 2) ≤ 109 ∧ slots + 64 * (5 + nb12 * 2) ≤ 6976) (hkb37 : ∀ (y10 : Int32) (y11 : Int32) (y12 : Int32) (y13 : Int32) (d : Dt), kb37 y10 y11 y12 y13 d = some z → ∀ (cells slots : Nat), cells + (5 + nb12 * 2) ≤ 109 ∧ slots + 64 * (5 + nb12 * 2) ≤ 6976 → ∀ (H : Heap) (locs : List Loc) (ls : Array Slot), lv_has ls 18 [(0, .ref (ad x0)), (1, .ref (ad x1)), (2, .ref (ad x2)), (3, .ref (ad x3)), (4, .int x4), (5, .long x5), (7, .int x7), (8, .int x8), (10, .int y10), (11, .int y11), (12, .int y12), (13, .int y13)] → aw_G D cA base ad σ d s H locs → W p l e rm_L_isPrimer s m args below meth c H locs cells slots (aw_Ej D cA base ad σ below args s 109 6976 z) (F0 m 37 ls [])) {H : Heap} {locs : List Loc} {ls : Array Slot} (hl : lv_has ls 18 [(0, .ref (ad x0)), (1, .ref (ad x1)), (2, .ref (ad x2)), (3, .ref (ad x3)), (4, .int x4), (5, .long x5), (7, .int x7), (8, .int x8), (11, .int x11), (12, .int x12), (13, .int x13), (15, .int x15), (16, .int x16), (17, .int x17)]) (G : aw_G D cA base ad σ d s H locs) : W p l e rm_L_isPrimer s m args below meth c H locs cells slots (aw_Ej D cA base ad σ below args s 109 6976 z) (F0 m 203 ls [.int t0]) := by
  have hx := X.1; have hb := X.2.1; have hml := X.2.2.1; have hown := X.2.2.2.1
  unfold f_L_isPrimer_J203 at hf
  refine lv_istore (lv' := [(10, .int t0), (0, .ref (ad x0)), (1, .ref (ad x1)), (2, .ref (ad x2)), (3, .ref (ad x3)), (4, .int x4), (5, .long x5), (7, .int x7), (8, .int x8), (11, .int x11), (12, .int x12), (13, .int x13), (15, .int x15), (16, .int x16), (17, .int x17)]) hx hb dL_isPrimer_203 hl (by decide) rfl (fun ls hl => ?_)
  refine lv_iload hx hb dL_isPrimer_205 (lv_at hl 14 rfl) ?_
  refine lv_if_eq (tgt := 215) hx hb dL_isPrimer_207 (by decide) (fun hc => ?_) (fun hc => ?_)
  · have hf := aw_ite_t hc hf
    refine lv_iload hx hb dL_isPrimer_215 (lv_at hl 9 rfl) ?_
    exact w_L_isPrimer_J217 X hst (nb12 := nb12) hf ⟨by omega, by omega⟩ hkb37 (lv_sub hl [1, 2, 3, 4, 5, 6, 7, 8, 0, 10, 11, 12, 14] rfl) G
  · have hf := aw_ite_f hc hf
    refine lv_iload hx hb dL_isPrimer_210 (lv_at hl 13 rfl) ?_
    refine lv_goto (tgt := 217) hx hb dL_isPrimer_212 (by decide) ?_
    exact w_L_isPrimer_J217 X hst (nb12 := nb12) hf ⟨by omega, by omega⟩ hkb37 (lv_sub hl [1, 2, 3, 4, 5, 6, 7, 8, 0, 10, 11, 12, 14] rfl) G
set_option maxHeartbeats 4000000 in
set_option maxRecDepth 100000 in
theorem w_L_isPrimer_J189 {z : Int32 × Dt} (X : aw_X p c cL_isPrimer 18 s RL m meth (some .boolean)) (hst : l.stackTraces = false) {kb37 : Int32 → Int32 → Int32 → Int32 → Dt → Option (Int32 × Dt)} {t0 : Int32} {x0 : Nat} {x1 : Nat} {x2 : Nat} {x3 : Nat} {x4 : Int32} {x5 : Int64} {x7 : Int32} {x8 : Int32} {x10 : Int32} {x11 : Int32} {x12 : Int32} {x13 : Int32} {x15 : Int32} {x16 : Int32} {d : Dt} (hf : f_L_isPrimer_J189 σ kb37 t0 x0 x1 x2 x3 x4 x5 x7 x8 x10 x11 x12 x13 x15 x16 d = some z) {nb12 cells slots : Nat} (hB : cells + (5 + nb12 * 2) ≤ 109 ∧ slots + 64 * (5 + nb12 * 2) ≤ 6976) (hkb37 : ∀ (y10 : Int32) (y11 : Int32) (y12 : Int32) (y13 : Int32) (d : Dt), kb37 y10 y11 y12 y13 d = some z → ∀ (cells slots : Nat), cells + (5 + nb12 * 2) ≤ 109 ∧ slots + 64 * (5 + nb12 * 2) ≤ 6976 → ∀ (H : Heap) (locs : List Loc) (ls : Array Slot), lv_has ls 18 [(0, .ref (ad x0)), (1, .ref (ad x1)), (2, .ref (ad x2)), (3, .ref (ad x3)), (4, .int x4), (5, .long x5), (7, .int x7), (8, .int x8), (10, .int y10), (11, .int y11), (12, .int y12), (13, .int y13)] → aw_G D cA base ad σ d s H locs → W p l e rm_L_isPrimer s m args below meth c H locs cells slots (aw_Ej D cA base ad σ below args s 109 6976 z) (F0 m 37 ls [])) {H : Heap} {locs : List Loc} {ls : Array Slot} (hl : lv_has ls 18 [(0, .ref (ad x0)), (1, .ref (ad x1)), (2, .ref (ad x2)), (3, .ref (ad x3)), (4, .int x4), (5, .long x5), (7, .int x7), (8, .int x8), (10, .int x10), (11, .int x11), (12, .int x12), (13, .int x13), (15, .int x15), (16, .int x16)]) (G : aw_G D cA base ad σ d s H locs) : W p l e rm_L_isPrimer s m args below meth c H locs cells slots (aw_Ej D cA base ad σ below args s 109 6976 z) (F0 m 189 ls [.int t0]) := by
  have hx := X.1; have hb := X.2.1; have hml := X.2.2.1; have hown := X.2.2.2.1
  unfold f_L_isPrimer_J189 at hf
  refine lv_istore (lv' := [(17, .int t0), (0, .ref (ad x0)), (1, .ref (ad x1)), (2, .ref (ad x2)), (3, .ref (ad x3)), (4, .int x4), (5, .long x5), (7, .int x7), (8, .int x8), (10, .int x10), (11, .int x11), (12, .int x12), (13, .int x13), (15, .int x15), (16, .int x16)]) hx hb dL_isPrimer_189 hl (by decide) rfl (fun ls hl => ?_)
  refine lv_iload hx hb dL_isPrimer_191 (lv_at hl 0 rfl) ?_
  refine lv_if_eq (tgt := 201) hx hb dL_isPrimer_193 (by decide) (fun hc => ?_) (fun hc => ?_)
  · have hf := aw_ite_t hc hf
    refine lv_iload hx hb dL_isPrimer_201 (lv_at hl 9 rfl) ?_
    exact w_L_isPrimer_J203 X hst (nb12 := nb12) hf ⟨by omega, by omega⟩ hkb37 (lv_sub hl [1, 2, 3, 4, 5, 6, 7, 8, 10, 11, 12, 13, 14, 0] rfl) G
  · have hf := aw_ite_f hc hf
    refine lv_iload hx hb dL_isPrimer_196 (lv_at hl 12 rfl) ?_
    refine lv_goto (tgt := 203) hx hb dL_isPrimer_198 (by decide) ?_
    exact w_L_isPrimer_J203 X hst (nb12 := nb12) hf ⟨by omega, by omega⟩ hkb37 (lv_sub hl [1, 2, 3, 4, 5, 6, 7, 8, 10, 11, 12, 13, 14, 0] rfl) G
set_option maxHeartbeats 4000000 in
set_option maxRecDepth 100000 in
theorem w_L_isPrimer_J184 {z : Int32 × Dt} (X : aw_X p c cL_isPrimer 18 s RL m meth (some .boolean)) (hst : l.stackTraces = false) {kb37 : Int32 → Int32 → Int32 → Int32 → Dt → Option (Int32 × Dt)} {x0 : Nat} {x1 : Nat} {x2 : Nat} {x3 : Nat} {x4 : Int32} {x5 : Int64} {x7 : Int32} {x8 : Int32} {x10 : Int32} {x11 : Int32} {x12 : Int32} {x13 : Int32} {x15 : Int32} {x16 : Int32} {d : Dt} (hf : f_L_isPrimer_J184 σ kb37 x0 x1 x2 x3 x4 x5 x7 x8 x10 x11 x12 x13 x15 x16 d = some z) {nb12 cells slots : Nat} (hB : cells + (5 + nb12 * 2) ≤ 109 ∧ slots + 64 * (5 + nb12 * 2) ≤ 6976) (hkb37 : ∀ (y10 : Int32) (y11 : Int32) (y12 : Int32) (y13 : Int32) (d : Dt), kb37 y10 y11 y12 y13 d = some z → ∀ (cells slots : Nat), cells + (5 + nb12 * 2) ≤ 109 ∧ slots + 64 * (5 + nb12 * 2) ≤ 6976 → ∀ (H : Heap) (locs : List Loc) (ls : Array Slot), lv_has ls 18 [(0, .ref (ad x0)), (1, .ref (ad x1)), (2, .ref (ad x2)), (3, .ref (ad x3)), (4, .int x4), (5, .long x5), (7, .int x7), (8, .int x8), (10, .int y10), (11, .int y11), (12, .int y12), (13, .int y13)] → aw_G D cA base ad σ d s H locs → W p l e rm_L_isPrimer s m args below meth c H locs cells slots (aw_Ej D cA base ad σ below args s 109 6976 z) (F0 m 37 ls [])) {H : Heap} {locs : List Loc} {ls : Array Slot} (hl : lv_has ls 18 [(0, .ref (ad x0)), (1, .ref (ad x1)), (2, .ref (ad x2)), (3, .ref (ad x3)), (4, .int x4), (5, .long x5), (7, .int x7), (8, .int x8), (10, .int x10), (11, .int x11), (12, .int x12), (13, .int x13), (15, .int x15), (16, .int x16)]) (G : aw_G D cA base ad σ d s H locs) : W p l e rm_L_isPrimer s m args below meth c H locs cells slots (aw_Ej D cA base ad σ below args s 109 6976 z) (F0 m 184 ls []) := by
  have hx := X.1; have hb := X.2.1; have hml := X.2.2.1; have hown := X.2.2.2.1
  unfold f_L_isPrimer_J184 at hf
  refine lv_iconst (v := (1 : Int32)) hx hb dL_isPrimer_184 (by decide) ?_
  refine lv_goto (tgt := 189) hx hb dL_isPrimer_185 (by decide) ?_
  exact w_L_isPrimer_J189 X hst (nb12 := nb12) hf ⟨by omega, by omega⟩ hkb37 (lv_sub hl [0, 1, 2, 3, 4, 5, 6, 7, 8, 9, 10, 11, 12, 13] rfl) G
set_option maxHeartbeats 4000000 in
set_option maxRecDepth 100000 in
theorem w_L_isPrimer_J188 {z : Int32 × Dt} (X : aw_X p c cL_isPrimer 18 s RL m meth (some .boolean)) (hst : l.stackTraces = false) {kb37 : Int32 → Int32 → Int32 → Int32 → Dt → Option (Int32 × Dt)} {x0 : Nat} {x1 : Nat} {x2 : Nat} {x3 : Nat} {x4 : Int32} {x5 : Int64} {x7 : Int32} {x8 : Int32} {x10 : Int32} {x11 : Int32} {x12 : Int32} {x13 : Int32} {x15 : Int32} {x16 : Int32} {d : Dt} (hf : f_L_isPrimer_J188 σ kb37 x0 x1 x2 x3 x4 x5 x7 x8 x10 x11 x12 x13 x15 x16 d = some z) {nb12 cells slots : Nat} (hB : cells + (5 + nb12 * 2) ≤ 109 ∧ slots + 64 * (5 + nb12 * 2) ≤ 6976) (hkb37 : ∀ (y10 : Int32) (y11 : Int32) (y12 : Int32) (y13 : Int32) (d : Dt), kb37 y10 y11 y12 y13 d = some z → ∀ (cells slots : Nat), cells + (5 + nb12 * 2) ≤ 109 ∧ slots + 64 * (5 + nb12 * 2) ≤ 6976 → ∀ (H : Heap) (locs : List Loc) (ls : Array Slot), lv_has ls 18 [(0, .ref (ad x0)), (1, .ref (ad x1)), (2, .ref (ad x2)), (3, .ref (ad x3)), (4, .int x4), (5, .long x5), (7, .int x7), (8, .int x8), (10, .int y10), (11, .int y11), (12, .int y12), (13, .int y13)] → aw_G D cA base ad σ d s H locs → W p l e rm_L_isPrimer s m args below meth c H locs cells slots (aw_Ej D cA base ad σ below args s 109 6976 z) (F0 m 37 ls [])) {H : Heap} {locs : List Loc} {ls : Array Slot} (hl : lv_has ls 18 [(0, .ref (ad x0)), (1, .ref (ad x1)), (2, .ref (ad x2)), (3, .ref (ad x3)), (4, .int x4), (5, .long x5), (7, .int x7), (8, .int x8), (10, .int x10), (11, .int x11), (12, .int x12), (13, .int x13), (15, .int x15), (16, .int x16)]) (G : aw_G D cA base ad σ d s H locs) : W p l e rm_L_isPrimer s m args below meth c H locs cells slots (aw_Ej D cA base ad σ below args s 109 6976 z) (F0 m 188 ls []) := by
  have hx := X.1; have hb := X.2.1; have hml := X.2.2.1; have hown := X.2.2.2.1
  unfold f_L_isPrimer_J188 at hf
  refine lv_iconst (v := (0 : Int32)) hx hb dL_isPrimer_188 (by decide) ?_
  exact w_L_isPrimer_J189 X hst (nb12 := nb12) hf ⟨by omega, by omega⟩ hkb37 (lv_sub hl [0, 1, 2, 3, 4, 5, 6, 7, 8, 9, 10, 11, 12, 13] rfl) G
set_option maxHeartbeats 4000000 in
set_option maxRecDepth 100000 in
theorem w_L_isPrimer_B37 {z : Int32 × Dt} (X : aw_X p c cL_isPrimer 18 s RL m meth (some .boolean)) (hst : l.stackTraces = false) {kb37 : Int32 → Int32 → Int32 → Int32 → Dt → Option (Int32 × Dt)} {k37 : Int32 → Int32 → Dt → Option (Int32 × Dt)} {x0 : Nat} {x1 : Nat} {x2 : Nat} {x3 : Nat} {x4 : Int32} {x5 : Int64} {x7 : Int32} {x8 : Int32} {x10 : Int32} {x11 : Int32} {x12 : Int32} {x13 : Int32} {d : Dt} (hf : f_L_isPrimer_B37 σ kb37 k37 x0 x1 x2 x3 x4 x5 x7 x8 x10 x11 x12 x13 d = some z) {nb12 cells slots : Nat} (hB : cells + (5 + nb12 * 2) ≤ 109 ∧ slots + 64 * (5 + nb12 * 2) ≤ 6976) (hkb37 : ∀ (y10 : Int32) (y11 : Int32) (y12 : Int32) (y13 : Int32) (d : Dt), kb37 y10 y11 y12 y13 d = some z → ∀ (cells slots : Nat), cells + (5 + nb12 * 2) ≤ 109 ∧ slots + 64 * (5 + nb12 * 2) ≤ 6976 → ∀ (H : Heap) (locs : List Loc) (ls : Array Slot), lv_has ls 18 [(0, .ref (ad x0)), (1, .ref (ad x1)), (2, .ref (ad x2)), (3, .ref (ad x3)), (4, .int x4), (5, .long x5), (7, .int x7), (8, .int x8), (10, .int y10), (11, .int y11), (12, .int y12), (13, .int y13)] → aw_G D cA base ad σ d s H locs → W p l e rm_L_isPrimer s m args below meth c H locs cells slots (aw_Ej D cA base ad σ below args s 109 6976 z) (F0 m 37 ls [])) (hk37 : ∀ (y10 : Int32) (y11 : Int32) (d : Dt), k37 y10 y11 d = some z → ∀ (cells slots : Nat), cells + (5 + nb12 * 2) ≤ 109 ∧ slots + 64 * (5 + nb12 * 2) ≤ 6976 → ∀ (H : Heap) (locs : List Loc) (ls : Array Slot), lv_has ls 18 [(0, .ref (ad x0)), (1, .ref (ad x1)), (2, .ref (ad x2)), (3, .ref (ad x3)), (4, .int x4), (5, .long x5), (7, .int x7), (8, .int x8), (10, .int y10), (11, .int y11)] → aw_G D cA base ad σ d s H locs → W p l e rm_L_isPrimer s m args below meth c H locs cells slots (aw_Ej D cA base ad σ below args s 109 6976 z) (F0 m 239 ls [])) {H : Heap} {locs : List Loc} {ls : Array Slot} (hl : lv_has ls 18 [(0, .ref (ad x0)), (1, .ref (ad x1)), (2, .ref (ad x2)), (3, .ref (ad x3)), (4, .int x4), (5, .long x5), (7, .int x7), (8, .int x8), (10, .int x10), (11, .int x11), (12, .int x12), (13, .int x13)]) (G : aw_G D cA base ad σ d s H locs) : W p l e rm_L_isPrimer s m args below meth c H locs cells slots (aw_Ej D cA base ad σ below args s 109 6976 z) (F0 m 37 ls []) := by
  have hx := X.1; have hb := X.2.1; have hml := X.2.2.1; have hown := X.2.2.2.1
  unfold f_L_isPrimer_B37 at hf
  refine lv_iload hx hb dL_isPrimer_37 (lv_at hl 11 rfl) ?_
  refine lv_if_lt (tgt := 239) hx hb dL_isPrimer_39 (by decide) (fun hc => ?_) (fun hc => ?_)
  · have hf := aw_ite_t hc hf
    exact hk37 _ _ _ hf _ _ ⟨by omega, by omega⟩ _ _ _ (lv_sub hl [0, 1, 2, 3, 4, 5, 6, 7, 8, 9] rfl) G
  · have hf := aw_ite_f hc hf
    refine lv_iconst (v := (0 : Int32)) hx hb dL_isPrimer_42 (by decide) ?_
    refine lv_istore (lv' := [(14, .int ((0 : Int32))), (0, .ref (ad x0)), (1, .ref (ad x1)), (2, .ref (ad x2)), (3, .ref (ad x3)), (4, .int x4), (5, .long x5), (7, .int x7), (8, .int x8), (10, .int x10), (11, .int x11), (12, .int x12), (13, .int x13)]) hx hb dL_isPrimer_43 hl (by decide) rfl (fun ls hl => ?_)
    refine lv_iconst (v := (0 : Int32)) hx hb dL_isPrimer_45 (by decide) ?_
    refine lv_istore (lv' := [(15, .int ((0 : Int32))), (14, .int ((0 : Int32))), (0, .ref (ad x0)), (1, .ref (ad x1)), (2, .ref (ad x2)), (3, .ref (ad x3)), (4, .int x4), (5, .long x5), (7, .int x7), (8, .int x8), (10, .int x10), (11, .int x11), (12, .int x12), (13, .int x13)]) hx hb dL_isPrimer_46 hl (by decide) rfl (fun ls hl => ?_)
    refine lv_iconst (v := (0 : Int32)) hx hb dL_isPrimer_48 (by decide) ?_
    refine lv_istore (lv' := [(16, .int ((0 : Int32))), (15, .int ((0 : Int32))), (14, .int ((0 : Int32))), (0, .ref (ad x0)), (1, .ref (ad x1)), (2, .ref (ad x2)), (3, .ref (ad x3)), (4, .int x4), (5, .long x5), (7, .int x7), (8, .int x8), (10, .int x10), (11, .int x11), (12, .int x12), (13, .int x13)]) hx hb dL_isPrimer_49 hl (by decide) rfl (fun ls hl => ?_)
    refine w_L_isPrimer_L51 X hst aw_FU (nb12 := nb12) hf ⟨by omega, by omega⟩  (fun x14_7 x15_8 d_9 hf cells slots hB H locs ls hl G => ?_) (lv_sub hl [3, 4, 5, 6, 7, 8, 9, 10, 11, 12, 13, 14, 2, 1, 0] rfl) G
    refine lv_iload hx hb dL_isPrimer_126 (lv_at hl 12 rfl) ?_
    refine lv_if_eq (tgt := 233) hx hb dL_isPrimer_128 (by decide) (fun hc => ?_) (fun hc => ?_)
    · have hf := aw_ite_t hc hf
      exact w_L_isPrimer_J233 X hst (nb12 := nb12) hf ⟨by omega, by omega⟩ hkb37 (lv_sub hl [0, 1, 2, 3, 4, 5, 6, 7, 8, 9, 10, 11] rfl) G
    · have hf := aw_ite_f hc hf
      refine lv_lload hx hb dL_isPrimer_131 (lv_at hl 5 rfl) ?_
      refine lv_iload hx hb dL_isPrimer_133 (lv_at hl 11 rfl) ?_
      refine lv_lshr hx hb dL_isPrimer_135 rfl ?_
      refine lv_lconst (v := (1 : Int64)) hx hb dL_isPrimer_136 (by decide) ?_
      refine lv_land hx hb dL_isPrimer_137 ?_
      refine lv_lconst (v := (0 : Int64)) hx hb dL_isPrimer_138 (by decide) ?_
      refine W.lcmp hx hb dL_isPrimer_139 ?_
      refine lv_if_ne (tgt := 233) hx hb dL_isPrimer_140 (by decide) (fun hc => ?_) (fun hc => ?_)
      · have hf := aw_ite_f hc hf
        exact w_L_isPrimer_J233 X hst (nb12 := nb12) hf ⟨by omega, by omega⟩ hkb37 (lv_sub hl [0, 1, 2, 3, 4, 5, 6, 7, 8, 9, 10, 11] rfl) G
      · have hf := aw_ite_t hc hf
        refine lv_aload_n hx hb dL_isPrimer_143 rfl (lv_at hl 1 rfl) ?_
        refine lv_aload_n hx hb dL_isPrimer_144 rfl (lv_at hl 2 rfl) ?_
        refine lv_aload_n hx hb dL_isPrimer_145 rfl (lv_at hl 3 rfl) ?_
        refine lv_lload hx hb dL_isPrimer_146 (lv_at hl 5 rfl) ?_
        refine lv_lconst (v := (1 : Int64)) hx hb dL_isPrimer_148 (by decide) ?_
        refine lv_iload hx hb dL_isPrimer_149 (lv_at hl 11 rfl) ?_
        refine lv_lshl hx hb dL_isPrimer_151 rfl ?_
        refine lv_lor hx hb dL_isPrimer_152 ?_
        obtain ⟨z_10, hz_11, hf⟩ := aw_bind_some hf
        refine aw_SI (As := [.ref (ad x1), .ref (ad x2), .ref (ad x3), .long (x5 ||| (((1 : Int64)) <<< (x13.toInt64 &&& 63)))]) (rest := []) X G hl.1 cr_L_119 (c_L_read l hz_11) ⟨rfl, rfl⟩ rfl rfl rfl ⟨(Nat.le_of_ble_eq_true rfl), (Nat.le_of_ble_eq_true rfl)⟩ (Nat.le_of_ble_eq_true rfl) dL_isPrimer_153 ⟨by show cells + 0 ≤ 109; omega, by show slots + 0 ≤ 6976; omega⟩ (fun H locs G => ?_)
        refine lv_istore (lv' := [(16, .int z_10.1), (0, .ref (ad x0)), (1, .ref (ad x1)), (2, .ref (ad x2)), (3, .ref (ad x3)), (4, .int x4), (5, .long x5), (7, .int x7), (8, .int x8), (10, .int x10), (11, .int x11), (12, .int x12), (13, .int x13), (14, .int x14_7), (15, .int x15_8)]) hx hb dL_isPrimer_156 hl (by decide) rfl (fun ls hl => ?_)
        refine lv_iload hx hb dL_isPrimer_158 (lv_at hl 9 rfl) ?_
        refine lv_if_lt (tgt := 184) hx hb dL_isPrimer_160 (by decide) (fun hc => ?_) (fun hc => ?_)
        · have hf := aw_ite_t hc hf
          exact w_L_isPrimer_J184 X hst (nb12 := nb12) hf ⟨by omega, by omega⟩ hkb37 (lv_sub hl [1, 2, 3, 4, 5, 6, 7, 8, 9, 10, 11, 12, 14, 0] rfl) G
        · have hf := aw_ite_f hc hf
          refine lv_iload hx hb dL_isPrimer_163 (lv_at hl 0 rfl) ?_
          refine lv_iload hx hb dL_isPrimer_165 (lv_at hl 10 rfl) ?_
          refine lv_icmp_gt (tgt := 184) hx hb dL_isPrimer_167 (by decide) (fun hc => ?_) (fun hc => ?_)
          · have hf := aw_ite_t hc hf
            exact w_L_isPrimer_J184 X hst (nb12 := nb12) hf ⟨by omega, by omega⟩ hkb37 (lv_sub hl [1, 2, 3, 4, 5, 6, 7, 8, 9, 10, 11, 12, 14, 0] rfl) G
          · have hf := aw_ite_f hc hf
            refine lv_iload hx hb dL_isPrimer_170 (lv_at hl 0 rfl) ?_
            refine lv_iload hx hb dL_isPrimer_172 (lv_at hl 10 rfl) ?_
            refine lv_icmp_ne (tgt := 188) hx hb dL_isPrimer_174 (by decide) (fun hc => ?_) (fun hc => ?_)
            · have hf := aw_ite_f hc hf
              exact w_L_isPrimer_J188 X hst (nb12 := nb12) hf ⟨by omega, by omega⟩ hkb37 (lv_sub hl [1, 2, 3, 4, 5, 6, 7, 8, 9, 10, 11, 12, 14, 0] rfl) G
            · have hf := aw_ite_t hc hf
              refine lv_iload hx hb dL_isPrimer_177 (lv_at hl 14 rfl) ?_
              refine lv_iload hx hb dL_isPrimer_179 (lv_at hl 11 rfl) ?_
              refine lv_icmp_lt (tgt := 188) hx hb dL_isPrimer_181 (by decide) (fun hc => ?_) (fun hc => ?_)
              · have hf := aw_ite_t hc hf
                exact w_L_isPrimer_J188 X hst (nb12 := nb12) hf ⟨by omega, by omega⟩ hkb37 (lv_sub hl [1, 2, 3, 4, 5, 6, 7, 8, 9, 10, 11, 12, 14, 0] rfl) G
              · have hf := aw_ite_f hc hf
                exact w_L_isPrimer_J184 X hst (nb12 := nb12) hf ⟨by omega, by omega⟩ hkb37 (lv_sub hl [1, 2, 3, 4, 5, 6, 7, 8, 9, 10, 11, 12, 14, 0] rfl) G
theorem w_L_isPrimer_L37 {z : Int32 × Dt} (X : aw_X p c cL_isPrimer 18 s RL m meth (some .boolean)) (hst : l.stackTraces = false) {k37 : Int32 → Int32 → Dt → Option (Int32 × Dt)} {x0 : Nat} {x1 : Nat} {x2 : Nat} {x3 : Nat} {x4 : Int32} {x5 : Int64} {x7 : Int32} {x8 : Int32} (n : Nat) {x10 : Int32} {x11 : Int32} {x12 : Int32} {x13 : Int32} {d : Dt} (hf : f_L_isPrimer_L37 σ n k37 x0 x1 x2 x3 x4 x5 x7 x8 x10 x11 x12 x13 d = some z) {nb12 cells slots : Nat} (hB : cells + (5 + nb12 * 2) ≤ 109 ∧ slots + 64 * (5 + nb12 * 2) ≤ 6976) (hk37 : ∀ (y10 : Int32) (y11 : Int32) (d : Dt), k37 y10 y11 d = some z → ∀ (cells slots : Nat), cells + (5 + nb12 * 2) ≤ 109 ∧ slots + 64 * (5 + nb12 * 2) ≤ 6976 → ∀ (H : Heap) (locs : List Loc) (ls : Array Slot), lv_has ls 18 [(0, .ref (ad x0)), (1, .ref (ad x1)), (2, .ref (ad x2)), (3, .ref (ad x3)), (4, .int x4), (5, .long x5), (7, .int x7), (8, .int x8), (10, .int y10), (11, .int y11)] → aw_G D cA base ad σ d s H locs → W p l e rm_L_isPrimer s m args below meth c H locs cells slots (aw_Ej D cA base ad σ below args s 109 6976 z) (F0 m 239 ls [])) {H : Heap} {locs : List Loc} {ls : Array Slot} (hl : lv_has ls 18 [(0, .ref (ad x0)), (1, .ref (ad x1)), (2, .ref (ad x2)), (3, .ref (ad x3)), (4, .int x4), (5, .long x5), (7, .int x7), (8, .int x8), (10, .int x10), (11, .int x11), (12, .int x12), (13, .int x13)]) (G : aw_G D cA base ad σ d s H locs) : W p l e rm_L_isPrimer s m args below meth c H locs cells slots (aw_Ej D cA base ad σ below args s 109 6976 z) (F0 m 37 ls []) := by
  induction n generalizing x10 x11 x12 x13 d cells slots H locs ls with
  | zero => exact absurd (show (none : Option (Int32 × Dt)) = some z from hf) (by simp)
  | succ n ih => exact w_L_isPrimer_B37 X hst (nb12 := nb12) (kb37 := f_L_isPrimer_L37 σ n k37 x0 x1 x2 x3 x4 x5 x7 x8) hf ⟨by omega, by omega⟩  (fun x10 x11 x12 x13 d hf cells slots hB H locs ls hl G => ih hf hB hl G) hk37 hl G
set_option maxHeartbeats 4000000 in
set_option maxRecDepth 100000 in
theorem w_L_isPrimer_J378 {z : Int32 × Dt} (X : aw_X p c cL_isPrimer 18 s RL m meth (some .boolean)) (hst : l.stackTraces = false) {t0 : Int32} {d : Dt} (hf : f_L_isPrimer_J378 σ t0 d = some z) { cells slots : Nat} (hB : cells + (0) ≤ 109 ∧ slots + 64 * (0) ≤ 6976)  {H : Heap} {locs : List Loc} {ls : Array Slot} (hl : lv_has ls 18 []) (G : aw_G D cA base ad σ d s H locs) : W p l e rm_L_isPrimer s m args below meth c H locs cells slots (aw_Ej D cA base ad σ below args s 109 6976 z) (F0 m 378 ls [.int t0]) := by
  have hx := X.1; have hb := X.2.1; have hml := X.2.2.1; have hown := X.2.2.2.1
  unfold f_L_isPrimer_J378 at hf
  obtain ⟨hc_24, hf⟩ := aw_chk_some hf
  exact aw_retjZ X G hf hc_24 dL_isPrimer_378 (by omega) (by omega)
set_option maxHeartbeats 4000000 in
set_option maxRecDepth 100000 in
theorem w_L_isPrimer_J377 {z : Int32 × Dt} (X : aw_X p c cL_isPrimer 18 s RL m meth (some .boolean)) (hst : l.stackTraces = false)  {d : Dt} (hf : f_L_isPrimer_J377 σ d = some z) { cells slots : Nat} (hB : cells + (0) ≤ 109 ∧ slots + 64 * (0) ≤ 6976)  {H : Heap} {locs : List Loc} {ls : Array Slot} (hl : lv_has ls 18 []) (G : aw_G D cA base ad σ d s H locs) : W p l e rm_L_isPrimer s m args below meth c H locs cells slots (aw_Ej D cA base ad σ below args s 109 6976 z) (F0 m 377 ls []) := by
  have hx := X.1; have hb := X.2.1; have hml := X.2.2.1; have hown := X.2.2.2.1
  unfold f_L_isPrimer_J377 at hf
  refine lv_iconst (v := (0 : Int32)) hx hb dL_isPrimer_377 (by decide) ?_
  exact w_L_isPrimer_J378 X hst hf ⟨by omega, by omega⟩  (lv_sub hl [] rfl) G
set_option maxHeartbeats 4000000 in
set_option maxRecDepth 100000 in
theorem w_L_isPrimer_J373 {z : Int32 × Dt} (X : aw_X p c cL_isPrimer 18 s RL m meth (some .boolean)) (hst : l.stackTraces = false)  {d : Dt} (hf : f_L_isPrimer_J373 σ d = some z) { cells slots : Nat} (hB : cells + (0) ≤ 109 ∧ slots + 64 * (0) ≤ 6976)  {H : Heap} {locs : List Loc} {ls : Array Slot} (hl : lv_has ls 18 []) (G : aw_G D cA base ad σ d s H locs) : W p l e rm_L_isPrimer s m args below meth c H locs cells slots (aw_Ej D cA base ad σ below args s 109 6976 z) (F0 m 373 ls []) := by
  have hx := X.1; have hb := X.2.1; have hml := X.2.2.1; have hown := X.2.2.2.1
  unfold f_L_isPrimer_J373 at hf
  refine lv_iconst (v := (1 : Int32)) hx hb dL_isPrimer_373 (by decide) ?_
  refine lv_goto (tgt := 378) hx hb dL_isPrimer_374 (by decide) ?_
  exact w_L_isPrimer_J378 X hst hf ⟨by omega, by omega⟩  (lv_sub hl [] rfl) G
set_option maxHeartbeats 4000000 in
set_option maxRecDepth 100000 in
theorem w_L_isPrimer_J301 {z : Int32 × Dt} (X : aw_X p c cL_isPrimer 18 s RL m meth (some .boolean)) (hst : l.stackTraces = false) {x0 : Nat} {x4 : Int32} {x7 : Int32} {x8 : Int32} {x9 : Int32} {d : Dt} (hf : f_L_isPrimer_J301 σ x0 x4 x7 x8 x9 d = some z) { cells slots : Nat} (hB : cells + (3) ≤ 109 ∧ slots + 64 * (3) ≤ 6976)  {H : Heap} {locs : List Loc} {ls : Array Slot} (hl : lv_has ls 18 [(0, .ref (ad x0)), (4, .int x4), (7, .int x7), (8, .int x8), (9, .int x9)]) (G : aw_G D cA base ad σ d s H locs) : W p l e rm_L_isPrimer s m args below meth c H locs cells slots (aw_Ej D cA base ad σ below args s 109 6976 z) (F0 m 301 ls []) := by
  have hx := X.1; have hb := X.2.1; have hml := X.2.2.1; have hown := X.2.2.2.1
  unfold f_L_isPrimer_J301 at hf
  refine lv_aload_n hx hb dL_isPrimer_301 rfl (lv_at hl 0 rfl) ?_
  refine lv_bipush (v := (10 : Int32)) hx hb dL_isPrimer_302 (by decide) ?_
  refine lv_iload hx hb dL_isPrimer_304 (lv_at hl 1 rfl) ?_
  refine lv_iconst (v := (0 : Int32)) hx hb dL_isPrimer_306 (by decide) ?_
  refine lv_iconst (v := (0 : Int32)) hx hb dL_isPrimer_307 (by decide) ?_
  refine lv_iconst (v := (0 : Int32)) hx hb dL_isPrimer_308 (by decide) ?_
  refine lv_iconst (v := (0 : Int32)) hx hb dL_isPrimer_309 (by decide) ?_
  obtain ⟨z_22, hz_23, hf⟩ := aw_bind_some hf
  refine aw_WI2 (As := [.ref (ad x0), .int ((10 : Int32)), .int x4, .int ((0 : Int32)), .int ((0 : Int32)), .int ((0 : Int32)), .int ((0 : Int32))]) (rest := []) X G hl.1 cr_L_123 (c_L_does_10 l hst hz_23) rfl rfl rfl ⟨(Nat.le_of_ble_eq_true rfl), (Nat.le_of_ble_eq_true rfl)⟩ (Nat.le_of_ble_eq_true rfl) dL_isPrimer_310 2 12 ⟨(Nat.le_of_ble_eq_true rfl), (Nat.le_of_ble_eq_true rfl)⟩ ⟨by show cells + 2 ≤ 109; omega, by show slots + 12 ≤ 6976; omega⟩ (fun H locs G => ?_)
  refine lv_istore (lv' := [(10, .int z_22.1), (0, .ref (ad x0)), (4, .int x4), (7, .int x7), (8, .int x8), (9, .int x9)]) hx hb dL_isPrimer_313 hl (by decide) rfl (fun ls hl => ?_)
  refine lv_iload hx hb dL_isPrimer_315 (lv_at hl 5 rfl) ?_
  refine lv_if_eq (tgt := 377) hx hb dL_isPrimer_317 (by decide) (fun hc => ?_) (fun hc => ?_)
  · have hf := aw_ite_t hc hf
    exact w_L_isPrimer_J377 X hst hf ⟨by omega, by omega⟩  (lv_sub hl [] rfl) G
  · have hf := aw_ite_f hc hf
    refine lv_aload_n hx hb dL_isPrimer_320 rfl (lv_at hl 1 rfl) ?_
    refine lv_iload hx hb dL_isPrimer_321 (lv_at hl 2 rfl) ?_
    obtain ⟨hc_25, hf⟩ := aw_chk_some hf
    obtain ⟨z_26, hz_27, hf⟩ := aw_bind_some hf
    obtain ⟨v_28, hv_29, hf⟩ := aw_nt_some hf
    refine aw_CXI (As := [.int x4]) (rest := []) X G hl.1 cr_L_127 (c_X10_cost l hst hz_27) rfl rfl rfl (by decide) hc_25 rfl ⟨(Nat.le_of_ble_eq_true rfl), (Nat.le_of_ble_eq_true rfl)⟩ (Nat.le_of_ble_eq_true rfl) dL_isPrimer_323 1 6 ⟨(Nat.le_of_ble_eq_true rfl), (Nat.le_of_ble_eq_true rfl)⟩ ⟨by show cells + 2 + 1 ≤ 109; omega, by show slots + 12 + 6 ≤ 6976; omega⟩ hv_29 (fun H locs G => ?_)
    refine lv_iload hx hb dL_isPrimer_326 (lv_at hl 4 rfl) ?_
    refine lv_icmp_ne (tgt := 377) hx hb dL_isPrimer_328 (by decide) (fun hc => ?_) (fun hc => ?_)
    · have hf := aw_ite_f hc hf
      exact w_L_isPrimer_J377 X hst hf ⟨by omega, by omega⟩  (lv_sub hl [] rfl) G
    · have hf := aw_ite_t hc hf
      refine lv_iload hx hb dL_isPrimer_331 (lv_at hl 3 rfl) ?_
      refine lv_bipush (v := (10 : Int32)) hx hb dL_isPrimer_333 (by decide) ?_
      refine lv_icmp_le (tgt := 348) hx hb dL_isPrimer_335 (by decide) (fun hc => ?_) (fun hc => ?_)
      · have hf := aw_ite_t hc hf
        refine lv_iload hx hb dL_isPrimer_348 (lv_at hl 0 rfl) ?_
        refine lv_if_lt (tgt := 377) hx hb dL_isPrimer_350 (by decide) (fun hc => ?_) (fun hc => ?_)
        · have hf := aw_ite_t hc hf
          exact w_L_isPrimer_J377 X hst hf ⟨by omega, by omega⟩  (lv_sub hl [] rfl) G
        · have hf := aw_ite_f hc hf
          refine lv_iload hx hb dL_isPrimer_353 (lv_at hl 0 rfl) ?_
          refine lv_iload hx hb dL_isPrimer_355 (lv_at hl 4 rfl) ?_
          refine lv_icmp_gt (tgt := 377) hx hb dL_isPrimer_357 (by decide) (fun hc => ?_) (fun hc => ?_)
          · have hf := aw_ite_t hc hf
            exact w_L_isPrimer_J377 X hst hf ⟨by omega, by omega⟩  (lv_sub hl [] rfl) G
          · have hf := aw_ite_f hc hf
            refine lv_iload hx hb dL_isPrimer_360 (lv_at hl 3 rfl) ?_
            refine lv_iconst (v := (1 : Int32)) hx hb dL_isPrimer_362 (by decide) ?_
            refine lv_icmp_gt (tgt := 373) hx hb dL_isPrimer_363 (by decide) (fun hc => ?_) (fun hc => ?_)
            · have hf := aw_ite_t hc hf
              exact w_L_isPrimer_J373 X hst hf ⟨by omega, by omega⟩  (lv_sub hl [] rfl) G
            · have hf := aw_ite_f hc hf
              refine lv_iload hx hb dL_isPrimer_366 (lv_at hl 0 rfl) ?_
              refine lv_iload hx hb dL_isPrimer_368 (lv_at hl 4 rfl) ?_
              refine lv_icmp_ne (tgt := 377) hx hb dL_isPrimer_370 (by decide) (fun hc => ?_) (fun hc => ?_)
              · have hf := aw_ite_f hc hf
                exact w_L_isPrimer_J377 X hst hf ⟨by omega, by omega⟩  (lv_sub hl [] rfl) G
              · have hf := aw_ite_t hc hf
                exact w_L_isPrimer_J373 X hst hf ⟨by omega, by omega⟩  (lv_sub hl [] rfl) G
      · have hf := aw_ite_f hc hf
        refine lv_iload hx hb dL_isPrimer_338 (lv_at hl 0 rfl) ?_
        refine lv_ldc (v := (-1000000 : Int32)) hx hb hown (G.1.hts _ m_761) dL_isPrimer_340 ?_
        refine lv_icmp_ne (tgt := 377) hx hb dL_isPrimer_342 (by decide) (fun hc => ?_) (fun hc => ?_)
        · have hf := aw_ite_f hc hf
          exact w_L_isPrimer_J377 X hst hf ⟨by omega, by omega⟩  (lv_sub hl [] rfl) G
        · have hf := aw_ite_t hc hf
          refine lv_goto (tgt := 373) hx hb dL_isPrimer_345 (by decide) ?_
          exact w_L_isPrimer_J373 X hst hf ⟨by omega, by omega⟩  (lv_sub hl [] rfl) G
set_option maxHeartbeats 4000000 in
set_option maxRecDepth 100000 in
theorem w_L_isPrimer_J257 {z : Int32 × Dt} (X : aw_X p c cL_isPrimer 18 s RL m meth (some .boolean)) (hst : l.stackTraces = false) {kb12 : Int64 → Int32 → Int32 → Int32 → Dt → Option (Int32 × Dt)} {t0 : Int32} {x0 : Nat} {x1 : Nat} {x2 : Nat} {x3 : Nat} {x4 : Int32} {x5 : Int64} {x7 : Int32} {x8 : Int32} {x10 : Int32} {x11 : Int32} {d : Dt} (hf : f_L_isPrimer_J257 σ kb12 t0 x0 x1 x2 x3 x4 x5 x7 x8 x10 x11 d = some z) {nb12 cells slots : Nat} (hB : cells + (3 + nb12 * 2) ≤ 109 ∧ slots + 64 * (3 + nb12 * 2) ≤ 6976) (hkb12 : ∀ (y5 : Int64) (y7 : Int32) (y8 : Int32) (y9 : Int32) (d : Dt), kb12 y5 y7 y8 y9 d = some z → ∀ (cells slots : Nat), cells + (3 + nb12 * 2) ≤ 109 ∧ slots + 64 * (3 + nb12 * 2) ≤ 6976 → ∀ (H : Heap) (locs : List Loc) (ls : Array Slot), lv_has ls 18 [(0, .ref (ad x0)), (1, .ref (ad x1)), (2, .ref (ad x2)), (3, .ref (ad x3)), (4, .int x4), (5, .long y5), (7, .int y7), (8, .int y8), (9, .int y9)] → aw_G D cA base ad σ d s H locs → W p l e rm_L_isPrimer s m args below meth c H locs cells slots (aw_Ej D cA base ad σ below args s 109 6976 z) (F0 m 12 ls [])) {H : Heap} {locs : List Loc} {ls : Array Slot} (hl : lv_has ls 18 [(0, .ref (ad x0)), (1, .ref (ad x1)), (2, .ref (ad x2)), (3, .ref (ad x3)), (4, .int x4), (5, .long x5), (7, .int x7), (8, .int x8), (10, .int x10), (11, .int x11)]) (G : aw_G D cA base ad σ d s H locs) : W p l e rm_L_isPrimer s m args below meth c H locs cells slots (aw_Ej D cA base ad σ below args s 109 6976 z) (F0 m 257 ls [.int t0]) := by
  have hx := X.1; have hb := X.2.1; have hml := X.2.2.1; have hown := X.2.2.2.1
  unfold f_L_isPrimer_J257 at hf
  refine lv_istore (lv' := [(9, .int t0), (0, .ref (ad x0)), (1, .ref (ad x1)), (2, .ref (ad x2)), (3, .ref (ad x3)), (4, .int x4), (5, .long x5), (7, .int x7), (8, .int x8), (10, .int x10), (11, .int x11)]) hx hb dL_isPrimer_257 hl (by decide) rfl (fun ls hl => ?_)
  refine lv_iload hx hb dL_isPrimer_259 (lv_at hl 9 rfl) ?_
  refine lv_if_ge (tgt := 267) hx hb dL_isPrimer_261 (by decide) (fun hc => ?_) (fun hc => ?_)
  · have hf := aw_ite_t hc hf
    refine lv_iinc (v := x7 + 1) (lv' := [(7, .int (x7 + 1)), (9, .int t0), (0, .ref (ad x0)), (1, .ref (ad x1)), (2, .ref (ad x2)), (3, .ref (ad x3)), (4, .int x4), (5, .long x5), (8, .int x8), (10, .int x10), (11, .int x11)]) hx hb dL_isPrimer_267 hl (k := 7) rfl rfl (by decide) rfl (fun ls hl => ?_)
    refine lv_iload hx hb dL_isPrimer_270 (lv_at hl 8 rfl) ?_
    refine lv_iload hx hb dL_isPrimer_272 (lv_at hl 0 rfl) ?_
    refine lv_iload hx hb dL_isPrimer_274 (lv_at hl 10 rfl) ?_
    refine lv_aload_n hx hb dL_isPrimer_276 rfl (lv_at hl 3 rfl) ?_
    refine lv_aload_n hx hb dL_isPrimer_277 rfl (lv_at hl 4 rfl) ?_
    refine lv_aload_n hx hb dL_isPrimer_278 rfl (lv_at hl 5 rfl) ?_
    refine lv_lload hx hb dL_isPrimer_279 (lv_at hl 7 rfl) ?_
    obtain ⟨z_20, hz_21, hf⟩ := aw_bind_some hf
    refine aw_SI (As := [.ref (ad x1), .ref (ad x2), .ref (ad x3), .long x5]) (rest := [.int x11, .int (x7 + 1), .int x8]) X G hl.1 cr_L_119 (c_L_read l hz_21) ⟨rfl, rfl⟩ rfl rfl rfl ⟨(Nat.le_of_ble_eq_true rfl), (Nat.le_of_ble_eq_true rfl)⟩ (Nat.le_of_ble_eq_true rfl) dL_isPrimer_281 ⟨by show cells + 0 ≤ 109; omega, by show slots + 0 ≤ 6976; omega⟩ (fun H locs G => ?_)
    refine lv_isub hx hb dL_isPrimer_284 ?_
    refine lv_imul hx hb dL_isPrimer_285 ?_
    refine lv_iadd hx hb dL_isPrimer_286 ?_
    refine lv_istore (lv' := [(8, .int (x8 + ((x7 + 1) * (x11 - z_20.1)))), (7, .int (x7 + 1)), (9, .int t0), (0, .ref (ad x0)), (1, .ref (ad x1)), (2, .ref (ad x2)), (3, .ref (ad x3)), (4, .int x4), (5, .long x5), (10, .int x10), (11, .int x11)]) hx hb dL_isPrimer_287 hl (by decide) rfl (fun ls hl => ?_)
    refine lv_lload hx hb dL_isPrimer_289 (lv_at hl 8 rfl) ?_
    refine lv_lconst (v := (1 : Int64)) hx hb dL_isPrimer_291 (by decide) ?_
    refine lv_iload hx hb dL_isPrimer_292 (lv_at hl 9 rfl) ?_
    refine lv_lshl hx hb dL_isPrimer_294 rfl ?_
    refine lv_lor hx hb dL_isPrimer_295 ?_
    refine lv_lstore (lv' := [(5, .long (x5 ||| (((1 : Int64)) <<< (x10.toInt64 &&& 63)))), (8, .int (x8 + ((x7 + 1) * (x11 - z_20.1)))), (7, .int (x7 + 1)), (9, .int t0), (0, .ref (ad x0)), (1, .ref (ad x1)), (2, .ref (ad x2)), (3, .ref (ad x3)), (4, .int x4), (10, .int x10), (11, .int x11)]) hx hb dL_isPrimer_296 hl (by decide) rfl (fun ls hl => ?_)
    refine lv_goto (tgt := 12) hx hb dL_isPrimer_298 (by decide) ?_
    exact hkb12 _ _ _ _ _ hf _ _ ⟨by omega, by omega⟩ _ _ _ (lv_sub hl [4, 5, 6, 7, 8, 0, 2, 1, 3] rfl) G
  · have hf := aw_ite_f hc hf
    refine lv_goto (tgt := 301) hx hb dL_isPrimer_264 (by decide) ?_
    exact w_L_isPrimer_J301 X hst hf ⟨by omega, by omega⟩  (lv_sub hl [1, 5, 7, 8, 0] rfl) G
set_option maxHeartbeats 4000000 in
set_option maxRecDepth 100000 in
theorem w_L_isPrimer_B12 {z : Int32 × Dt} (X : aw_X p c cL_isPrimer 18 s RL m meth (some .boolean)) (hst : l.stackTraces = false) {kb12 : Int64 → Int32 → Int32 → Int32 → Dt → Option (Int32 × Dt)} {k12 : Int32 → Int32 → Int32 → Dt → Option (Int32 × Dt)} {x0 : Nat} {x1 : Nat} {x2 : Nat} {x3 : Nat} {x4 : Int32} {x5 : Int64} {x7 : Int32} {x8 : Int32} {x9 : Int32} {d : Dt} (hf : f_L_isPrimer_B12 σ kb12 k12 x0 x1 x2 x3 x4 x5 x7 x8 x9 d = some z) {nb12 cells slots : Nat} (hB : cells + (5 + nb12 * 2) ≤ 109 ∧ slots + 64 * (5 + nb12 * 2) ≤ 6976) (hkb12 : ∀ (y5 : Int64) (y7 : Int32) (y8 : Int32) (y9 : Int32) (d : Dt), kb12 y5 y7 y8 y9 d = some z → ∀ (cells slots : Nat), cells + (3 + nb12 * 2) ≤ 109 ∧ slots + 64 * (3 + nb12 * 2) ≤ 6976 → ∀ (H : Heap) (locs : List Loc) (ls : Array Slot), lv_has ls 18 [(0, .ref (ad x0)), (1, .ref (ad x1)), (2, .ref (ad x2)), (3, .ref (ad x3)), (4, .int x4), (5, .long y5), (7, .int y7), (8, .int y8), (9, .int y9)] → aw_G D cA base ad σ d s H locs → W p l e rm_L_isPrimer s m args below meth c H locs cells slots (aw_Ej D cA base ad σ below args s 109 6976 z) (F0 m 12 ls [])) (hk12 : ∀ (y7 : Int32) (y8 : Int32) (y9 : Int32) (d : Dt), k12 y7 y8 y9 d = some z → ∀ (cells slots : Nat), cells + (3) ≤ 109 ∧ slots + 64 * (3) ≤ 6976 → ∀ (H : Heap) (locs : List Loc) (ls : Array Slot), lv_has ls 18 [(0, .ref (ad x0)), (4, .int x4), (7, .int y7), (8, .int y8), (9, .int y9)] → aw_G D cA base ad σ d s H locs → W p l e rm_L_isPrimer s m args below meth c H locs cells slots (aw_Ej D cA base ad σ below args s 109 6976 z) (F0 m 301 ls [])) {H : Heap} {locs : List Loc} {ls : Array Slot} (hl : lv_has ls 18 [(0, .ref (ad x0)), (1, .ref (ad x1)), (2, .ref (ad x2)), (3, .ref (ad x3)), (4, .int x4), (5, .long x5), (7, .int x7), (8, .int x8), (9, .int x9)]) (G : aw_G D cA base ad σ d s H locs) : W p l e rm_L_isPrimer s m args below meth c H locs cells slots (aw_Ej D cA base ad σ below args s 109 6976 z) (F0 m 12 ls []) := by
  have hx := X.1; have hb := X.2.1; have hml := X.2.2.1; have hown := X.2.2.2.1
  unfold f_L_isPrimer_B12 at hf
  refine lv_iload hx hb dL_isPrimer_12 (lv_at hl 8 rfl) ?_
  refine lv_if_eq (tgt := 301) hx hb dL_isPrimer_14 (by decide) (fun hc => ?_) (fun hc => ?_)
  · have hf := aw_ite_t hc hf
    exact hk12 _ _ _ _ hf _ _ ⟨by omega, by omega⟩ _ _ _ (lv_sub hl [0, 4, 6, 7, 8] rfl) G
  · have hf := aw_ite_f hc hf
    refine lv_iload hx hb dL_isPrimer_17 (lv_at hl 6 rfl) ?_
    refine lv_bipush (v := (51 : Int32)) hx hb dL_isPrimer_19 (by decide) ?_
    refine lv_icmp_ge (tgt := 301) hx hb dL_isPrimer_21 (by decide) (fun hc => ?_) (fun hc => ?_)
    · have hf := aw_ite_t hc hf
      exact hk12 _ _ _ _ hf _ _ ⟨by omega, by omega⟩ _ _ _ (lv_sub hl [0, 4, 6, 7, 8] rfl) G
    · have hf := aw_ite_f hc hf
      refine lv_iconst (v := (-1 : Int32)) hx hb dL_isPrimer_24 (by decide) ?_
      refine lv_istore (lv' := [(10, .int ((-1 : Int32))), (0, .ref (ad x0)), (1, .ref (ad x1)), (2, .ref (ad x2)), (3, .ref (ad x3)), (4, .int x4), (5, .long x5), (7, .int x7), (8, .int x8), (9, .int x9)]) hx hb dL_isPrimer_25 hl (by decide) rfl (fun ls hl => ?_)
      refine lv_iconst (v := (0 : Int32)) hx hb dL_isPrimer_27 (by decide) ?_
      refine lv_istore (lv' := [(11, .int ((0 : Int32))), (10, .int ((-1 : Int32))), (0, .ref (ad x0)), (1, .ref (ad x1)), (2, .ref (ad x2)), (3, .ref (ad x3)), (4, .int x4), (5, .long x5), (7, .int x7), (8, .int x8), (9, .int x9)]) hx hb dL_isPrimer_28 hl (by decide) rfl (fun ls hl => ?_)
      refine lv_iconst (v := (0 : Int32)) hx hb dL_isPrimer_30 (by decide) ?_
      refine lv_istore (lv' := [(12, .int ((0 : Int32))), (11, .int ((0 : Int32))), (10, .int ((-1 : Int32))), (0, .ref (ad x0)), (1, .ref (ad x1)), (2, .ref (ad x2)), (3, .ref (ad x3)), (4, .int x4), (5, .long x5), (7, .int x7), (8, .int x8), (9, .int x9)]) hx hb dL_isPrimer_31 hl (by decide) rfl (fun ls hl => ?_)
      refine lv_bipush (v := (49 : Int32)) hx hb dL_isPrimer_33 (by decide) ?_
      refine lv_istore (lv' := [(13, .int ((49 : Int32))), (12, .int ((0 : Int32))), (11, .int ((0 : Int32))), (10, .int ((-1 : Int32))), (0, .ref (ad x0)), (1, .ref (ad x1)), (2, .ref (ad x2)), (3, .ref (ad x3)), (4, .int x4), (5, .long x5), (7, .int x7), (8, .int x8), (9, .int x9)]) hx hb dL_isPrimer_35 hl (by decide) rfl (fun ls hl => ?_)
      refine w_L_isPrimer_L37 X hst aw_FU (nb12 := nb12) hf ⟨by omega, by omega⟩  (fun x10_12 x11_13 d_14 hf cells slots hB H locs ls hl G => ?_) (lv_sub hl [4, 5, 6, 7, 8, 9, 10, 11, 3, 2, 1, 0] rfl) G
      refine lv_aload_n hx hb dL_isPrimer_239 rfl (lv_at hl 0 rfl) ?_
      refine lv_iload hx hb dL_isPrimer_240 (lv_at hl 4 rfl) ?_
      refine lv_iload hx hb dL_isPrimer_242 (lv_at hl 6 rfl) ?_
      obtain ⟨hc_15, hf⟩ := aw_chk_some hf
      obtain ⟨z_16, hz_17, hf⟩ := aw_bind_some hf
      obtain ⟨v_18, hv_19, hf⟩ := aw_nt_some hf
      refine aw_CXI (As := [.int x4, .int x7]) (rest := []) X G hl.1 cr_L_56 (c_X10_primer l hst hz_17) rfl rfl rfl (by decide) hc_15 rfl ⟨(Nat.le_of_ble_eq_true rfl), (Nat.le_of_ble_eq_true rfl)⟩ (Nat.le_of_ble_eq_true rfl) dL_isPrimer_244 2 12 ⟨(Nat.le_of_ble_eq_true rfl), (Nat.le_of_ble_eq_true rfl)⟩ ⟨by show cells + 2 ≤ 109; omega, by show slots + 12 ≤ 6976; omega⟩ hv_19 (fun H locs G => ?_)
      refine lv_iload hx hb dL_isPrimer_247 (lv_at hl 8 rfl) ?_
      refine lv_icmp_ne (tgt := 256) hx hb dL_isPrimer_249 (by decide) (fun hc => ?_) (fun hc => ?_)
      · have hf := aw_ite_f hc hf
        refine lv_iconst (v := (0 : Int32)) hx hb dL_isPrimer_256 (by decide) ?_
        exact w_L_isPrimer_J257 X hst (nb12 := nb12) hf ⟨by omega, by omega⟩ hkb12 (lv_sub hl [0, 1, 2, 3, 4, 5, 6, 7, 8, 9] rfl) G
      · have hf := aw_ite_t hc hf
        refine lv_iconst (v := (1 : Int32)) hx hb dL_isPrimer_252 (by decide) ?_
        refine lv_goto (tgt := 257) hx hb dL_isPrimer_253 (by decide) ?_
        exact w_L_isPrimer_J257 X hst (nb12 := nb12) hf ⟨by omega, by omega⟩ hkb12 (lv_sub hl [0, 1, 2, 3, 4, 5, 6, 7, 8, 9] rfl) G
theorem w_L_isPrimer_L12 {z : Int32 × Dt} (X : aw_X p c cL_isPrimer 18 s RL m meth (some .boolean)) (hst : l.stackTraces = false) {k12 : Int32 → Int32 → Int32 → Dt → Option (Int32 × Dt)} {x0 : Nat} {x1 : Nat} {x2 : Nat} {x3 : Nat} {x4 : Int32} (n : Nat) {x5 : Int64} {x7 : Int32} {x8 : Int32} {x9 : Int32} {d : Dt} (hf : f_L_isPrimer_L12 σ n k12 x0 x1 x2 x3 x4 x5 x7 x8 x9 d = some z) { cells slots : Nat} (hB : cells + (3 + n * 2) ≤ 109 ∧ slots + 64 * (3 + n * 2) ≤ 6976) (hk12 : ∀ (y7 : Int32) (y8 : Int32) (y9 : Int32) (d : Dt), k12 y7 y8 y9 d = some z → ∀ (cells slots : Nat), cells + (3) ≤ 109 ∧ slots + 64 * (3) ≤ 6976 → ∀ (H : Heap) (locs : List Loc) (ls : Array Slot), lv_has ls 18 [(0, .ref (ad x0)), (4, .int x4), (7, .int y7), (8, .int y8), (9, .int y9)] → aw_G D cA base ad σ d s H locs → W p l e rm_L_isPrimer s m args below meth c H locs cells slots (aw_Ej D cA base ad σ below args s 109 6976 z) (F0 m 301 ls [])) {H : Heap} {locs : List Loc} {ls : Array Slot} (hl : lv_has ls 18 [(0, .ref (ad x0)), (1, .ref (ad x1)), (2, .ref (ad x2)), (3, .ref (ad x3)), (4, .int x4), (5, .long x5), (7, .int x7), (8, .int x8), (9, .int x9)]) (G : aw_G D cA base ad σ d s H locs) : W p l e rm_L_isPrimer s m args below meth c H locs cells slots (aw_Ej D cA base ad σ below args s 109 6976 z) (F0 m 12 ls []) := by
  induction n generalizing x5 x7 x8 x9 d cells slots H locs ls with
  | zero => exact absurd (show (none : Option (Int32 × Dt)) = some z from hf) (by simp)
  | succ n ih => exact w_L_isPrimer_B12 X hst (nb12 := n) (kb12 := f_L_isPrimer_L12 σ n k12 x0 x1 x2 x3 x4) hf ⟨by omega, by omega⟩  (fun x5 x7 x8 x9 d hf cells slots hB H locs ls hl G => ih hf hB hl G) hk12 hl G
end W_L_isPrimer
set_option maxHeartbeats 4000000 in
set_option maxRecDepth 100000 in
theorem c_L_isPrimer (l : Launch) (hst : l.stackTraces = false) {σ : Sg} {x0 : Nat} {x1 : Nat} {x2 : Nat} {x3 : Nat} {x4 : Int32} {d : Dt} {z : Int32 × Dt} (hf : f_L_isPrimer σ x0 x1 x2 x3 x4 d = some z) : aw_Mi l yL_isPrimer (Cond.code yL_isPrimer cL_isPrimer 18 (some .boolean)) rm_L_isPrimer (fun ad => [.ref (ad x0), .ref (ad x1), .ref (ad x2), .ref (ad x3), .int x4]) σ d z := by
  intro D cA base ad
  refine aw_ofW (own := RL) (cc := cL_isPrimer) (nL := 18) (ret := some .boolean) (by decide) rfl rfl ?_
  intro p e s m below meth c X hnm G
  have hx := X.1; have hb := X.2.1; have hml := X.2.2.1; have hown := X.2.2.2.1
  refine aw_ls (lv := [(0, .ref (ad x0)), (1, .ref (ad x1)), (2, .ref (ad x2)), (3, .ref (ad x3)), (4, .int x4)]) (Nat.le_of_ble_eq_true rfl) rfl (fun ls hl => ?_)
  have hB : 0 + 109 ≤ 109 ∧ 0 + 64 * 109 ≤ 6976 := by decide
  unfold f_L_isPrimer at hf
  refine lv_lconst (v := (0 : Int64)) hx hb dL_isPrimer_0 (by decide) ?_
  refine lv_lstore (lv' := [(5, .long ((0 : Int64))), (0, .ref (ad x0)), (1, .ref (ad x1)), (2, .ref (ad x2)), (3, .ref (ad x3)), (4, .int x4)]) hx hb dL_isPrimer_1 hl (by decide) rfl (fun ls hl => ?_)
  refine lv_iconst (v := (0 : Int32)) hx hb dL_isPrimer_3 (by decide) ?_
  refine lv_istore (lv' := [(7, .int ((0 : Int32))), (5, .long ((0 : Int64))), (0, .ref (ad x0)), (1, .ref (ad x1)), (2, .ref (ad x2)), (3, .ref (ad x3)), (4, .int x4)]) hx hb dL_isPrimer_4 hl (by decide) rfl (fun ls hl => ?_)
  refine lv_iconst (v := (0 : Int32)) hx hb dL_isPrimer_6 (by decide) ?_
  refine lv_istore (lv' := [(8, .int ((0 : Int32))), (7, .int ((0 : Int32))), (5, .long ((0 : Int64))), (0, .ref (ad x0)), (1, .ref (ad x1)), (2, .ref (ad x2)), (3, .ref (ad x3)), (4, .int x4)]) hx hb dL_isPrimer_7 hl (by decide) rfl (fun ls hl => ?_)
  refine lv_iconst (v := (1 : Int32)) hx hb dL_isPrimer_9 (by decide) ?_
  refine lv_istore (lv' := [(9, .int ((1 : Int32))), (8, .int ((0 : Int32))), (7, .int ((0 : Int32))), (5, .long ((0 : Int64))), (0, .ref (ad x0)), (1, .ref (ad x1)), (2, .ref (ad x2)), (3, .ref (ad x3)), (4, .int x4)]) hx hb dL_isPrimer_10 hl (by decide) rfl (fun ls hl => ?_)
  refine w_L_isPrimer_L12 X hst 53 hf ⟨by omega, by omega⟩  (fun x7_30 x8_31 x9_32 d_33 hf cells slots hB H locs ls hl G => ?_) (lv_sub hl [4, 5, 6, 7, 8, 3, 2, 1, 0] rfl) G
  exact w_L_isPrimer_J301 X hst hf ⟨by omega, by omega⟩  (lv_sub hl [0, 1, 2, 3, 4] rfl) G
def rm_L_isSo : Room := { frames := 10, cells := 604, slots := 38656, locals := 196 }
def f_L_isSo_J104 (σ : Sg) (kb58 : Int32 → Int32 → Dt → Option (Int32 × Dt)) (t0 : Int32) (x0 : Nat) (x1 : Nat) (x2 : Nat) (x3 : Nat) (x4 : Nat) (x5 : Nat) (x6 : Nat) (x7 : Nat) (x8 : Int32) (x9 : Int32) (x10 : Int32) (x11 : Nat) (x12 : Nat) (x13 : Int32) (x15 : Int32) (x16 : Int32) (d : Dt) : Option (Int32 × Dt) :=
  kb58 t0 (x16 + 1) d
def f_L_isSo_B58 (σ : Sg) (kb58 : Int32 → Int32 → Dt → Option (Int32 × Dt)) (k58 : Int32 → Dt → Option (Int32 × Dt)) (x0 : Nat) (x1 : Nat) (x2 : Nat) (x3 : Nat) (x4 : Nat) (x5 : Nat) (x6 : Nat) (x7 : Nat) (x8 : Int32) (x9 : Int32) (x10 : Int32) (x11 : Nat) (x12 : Nat) (x13 : Int32) (x15 : Int32) (x14 : Int32) (x16 : Int32) (d : Dt) : Option (Int32 × Dt) :=
  (f_L_many σ x11 x15 d).bind (fun z_5 => if (z_5.1 + ((1 : Int32))) ≤ x16 then k58 x14 z_5.2 else if x14 = 0 then k58 x14 z_5.2 else aw_chk (aw_O σ 10 13 x0) ((f_X10_spelled σ x0 x8 x15 x16 z_5.2).bind (fun z_8 => aw_nt z_8 (fun v_10 => (f_L_sign σ x11 x15 x16 z_8.2).bind (fun z_12 => if v_10 = z_12.1 then f_L_isSo_J104 σ kb58 ((1 : Int32)) x0 x1 x2 x3 x4 x5 x6 x7 x8 x9 x10 x11 x12 x13 x15 x16 z_12.2 else f_L_isSo_J104 σ kb58 ((0 : Int32)) x0 x1 x2 x3 x4 x5 x6 x7 x8 x9 x10 x11 x12 x13 x15 x16 z_12.2)))))
def f_L_isSo_L58 (σ : Sg) (n : Nat) (k58 : Int32 → Dt → Option (Int32 × Dt)) (x0 : Nat) (x1 : Nat) (x2 : Nat) (x3 : Nat) (x4 : Nat) (x5 : Nat) (x6 : Nat) (x7 : Nat) (x8 : Int32) (x9 : Int32) (x10 : Int32) (x11 : Nat) (x12 : Nat) (x13 : Int32) (x15 : Int32) : Int32 → Int32 → Dt → Option (Int32 × Dt) := match n with
  | 0 => fun _ _ _ => none
  | n + 1 => fun x14 x16 d => f_L_isSo_B58 σ (f_L_isSo_L58 σ n k58 x0 x1 x2 x3 x4 x5 x6 x7 x8 x9 x10 x11 x12 x13 x15) k58 x0 x1 x2 x3 x4 x5 x6 x7 x8 x9 x10 x11 x12 x13 x15 x14 x16 d
def f_L_isSo_J112 (σ : Sg) (kb41 : Int32 → Int32 → Dt → Option (Int32 × Dt)) (x0 : Nat) (x1 : Nat) (x2 : Nat) (x3 : Nat) (x4 : Nat) (x5 : Nat) (x6 : Nat) (x7 : Nat) (x8 : Int32) (x9 : Int32) (x10 : Int32) (x11 : Nat) (x12 : Nat) (x13 : Int32) (x14 : Int32) (x15 : Int32) (d : Dt) : Option (Int32 × Dt) :=
  kb41 x14 (x15 + 1) d
def f_L_isSo_B41 (σ : Sg) (kb41 : Int32 → Int32 → Dt → Option (Int32 × Dt)) (k41 : Int32 → Dt → Option (Int32 × Dt)) (x0 : Nat) (x1 : Nat) (x2 : Nat) (x3 : Nat) (x4 : Nat) (x5 : Nat) (x6 : Nat) (x7 : Nat) (x8 : Int32) (x9 : Int32) (x10 : Int32) (x11 : Nat) (x12 : Nat) (x13 : Int32) (x14 : Int32) (x15 : Int32) (d : Dt) : Option (Int32 × Dt) :=
  aw_chk (aw_I σ 20 x7 ((0 : Int32))) (if (d.1 x7 ((0 : Int32)).toNatClampNeg) ≤ x15 then k41 x14 d else if x14 = 0 then k41 x14 d else f_L_isSo_L58 σ 20 (fun x14_14 d_15 => f_L_isSo_J112 σ kb41 x0 x1 x2 x3 x4 x5 x6 x7 x8 x9 x10 x11 x12 x13 x14_14 x15 d_15) x0 x1 x2 x3 x4 x5 x6 x7 x8 x9 x10 x11 x12 x13 x15 x14 ((0 : Int32)) d)
def f_L_isSo_L41 (σ : Sg) (n : Nat) (k41 : Int32 → Dt → Option (Int32 × Dt)) (x0 : Nat) (x1 : Nat) (x2 : Nat) (x3 : Nat) (x4 : Nat) (x5 : Nat) (x6 : Nat) (x7 : Nat) (x8 : Int32) (x9 : Int32) (x10 : Int32) (x11 : Nat) (x12 : Nat) (x13 : Int32) : Int32 → Int32 → Dt → Option (Int32 × Dt) := match n with
  | 0 => fun _ _ _ => none
  | n + 1 => fun x14 x15 d => f_L_isSo_B41 σ (f_L_isSo_L41 σ n k41 x0 x1 x2 x3 x4 x5 x6 x7 x8 x9 x10 x11 x12 x13) k41 x0 x1 x2 x3 x4 x5 x6 x7 x8 x9 x10 x11 x12 x13 x14 x15 d
def f_L_isSo_J458 (σ : Sg) (t0 : Int32) (d : Dt) : Option (Int32 × Dt) :=
  aw_chk (t0 &&& 1 = t0) (some (t0, d))
def f_L_isSo_J457 (σ : Sg)  (d : Dt) : Option (Int32 × Dt) :=
  f_L_isSo_J458 σ ((0 : Int32)) d
def f_L_isSo_J383 (σ : Sg) (t0 : Int32) (x0 : Nat) (x1 : Nat) (x2 : Nat) (x3 : Nat) (x4 : Nat) (x7 : Nat) (x8 : Int32) (x10 : Int32) (x12 : Nat) (x13 : Int32) (d : Dt) : Option (Int32 × Dt) :=
  aw_chk (aw_I σ 20 x4 ((49 : Int32))) ((f_L_spellsAll σ x1 x2 x3 x4 x7 x13 x12 (aw_sI d x4 ((49 : Int32)).toNatClampNeg ((d.1 x4 ((49 : Int32)).toNatClampNeg) ^^^ (((1 : Int32)) <<< ((x10 - x10 / (3 : Int32) * (3 : Int32)) &&& 31))))).bind (fun z_21 => if t0 = 0 then f_L_isSo_J457 σ (aw_sI z_21.2 x4 ((49 : Int32)).toNatClampNeg ((z_21.2.1 x4 ((49 : Int32)).toNatClampNeg) ^^^ (((1 : Int32)) <<< ((x10 - x10 / (3 : Int32) * (3 : Int32)) &&& 31)))) else aw_chk (aw_O σ 10 13 x0) ((f_X10_loadIf σ x0 x8 (x10 - x10 / (3 : Int32) * (3 : Int32)) (aw_sI z_21.2 x4 ((49 : Int32)).toNatClampNeg ((z_21.2.1 x4 ((49 : Int32)).toNatClampNeg) ^^^ (((1 : Int32)) <<< ((x10 - x10 / (3 : Int32) * (3 : Int32)) &&& 31))))).bind (fun z_25 => aw_nt z_25 (fun v_27 => (f_L_load σ x12 x2 x7 z_25.2).bind (fun z_29 => if v_27 = z_29.1 then f_L_isSo_J458 σ ((1 : Int32)) z_29.2 else f_L_isSo_J457 σ z_29.2))))))
def f_L_isSo_J382 (σ : Sg) (x0 : Nat) (x1 : Nat) (x2 : Nat) (x3 : Nat) (x4 : Nat) (x7 : Nat) (x8 : Int32) (x10 : Int32) (x12 : Nat) (x13 : Int32) (d : Dt) : Option (Int32 × Dt) :=
  f_L_isSo_J383 σ ((0 : Int32)) x0 x1 x2 x3 x4 x7 x8 x10 x12 x13 d
def f_L_isSo_J334 (σ : Sg) (x0 : Nat) (x1 : Nat) (x2 : Nat) (x3 : Nat) (x4 : Nat) (x7 : Nat) (x8 : Int32) (x9 : Int32) (x10 : Int32) (x11 : Nat) (x12 : Nat) (x13 : Int32) (x14 : Int32) (d : Dt) : Option (Int32 × Dt) :=
  (f_L_spellsAll σ x1 x2 x3 x4 x7 (x9 - x9 / (3 : Int32) * (3 : Int32)) x12 d).bind (fun z_18 => if x14 = 0 then f_L_isSo_J382 σ x0 x1 x2 x3 x4 x7 x8 x10 x12 x13 z_18.2 else aw_chk (aw_O σ 10 13 x0) ((f_X10_fit σ x0 x8 (x9 - x9 / (3 : Int32) * (3 : Int32)) z_18.2).bind (fun z_32 => aw_nt z_32 (fun v_34 => (f_L_fit σ x11 x12 x2 x7 z_32.2).bind (fun z_36 => if v_34 = z_36.1 then f_L_isSo_J383 σ ((1 : Int32)) x0 x1 x2 x3 x4 x7 x8 x10 x12 x13 z_36.2 else f_L_isSo_J382 σ x0 x1 x2 x3 x4 x7 x8 x10 x12 x13 z_36.2)))))
def f_L_isSo_J332 (σ : Sg) (t0 : Int32) (x0 : Nat) (x1 : Nat) (x2 : Nat) (x3 : Nat) (x4 : Nat) (x7 : Nat) (x8 : Int32) (x9 : Int32) (x10 : Int32) (x11 : Nat) (x12 : Nat) (x13 : Int32) (d : Dt) : Option (Int32 × Dt) :=
  f_L_isSo_J334 σ x0 x1 x2 x3 x4 x7 x8 x9 x10 x11 x12 x13 t0 d
def f_L_isSo_J331 (σ : Sg) (x0 : Nat) (x1 : Nat) (x2 : Nat) (x3 : Nat) (x4 : Nat) (x7 : Nat) (x8 : Int32) (x9 : Int32) (x10 : Int32) (x11 : Nat) (x12 : Nat) (x13 : Int32) (d : Dt) : Option (Int32 × Dt) :=
  f_L_isSo_J332 σ ((0 : Int32)) x0 x1 x2 x3 x4 x7 x8 x9 x10 x11 x12 x13 d
def f_L_isSo_J327 (σ : Sg) (x0 : Nat) (x1 : Nat) (x2 : Nat) (x3 : Nat) (x4 : Nat) (x7 : Nat) (x8 : Int32) (x9 : Int32) (x10 : Int32) (x11 : Nat) (x12 : Nat) (x13 : Int32) (d : Dt) : Option (Int32 × Dt) :=
  f_L_isSo_J332 σ ((1 : Int32)) x0 x1 x2 x3 x4 x7 x8 x9 x10 x11 x12 x13 d
def f_L_isSo_J246 (σ : Sg) (x0 : Nat) (x1 : Nat) (x2 : Nat) (x3 : Nat) (x4 : Nat) (x7 : Nat) (x8 : Int32) (x9 : Int32) (x10 : Int32) (x11 : Nat) (x12 : Nat) (x13 : Int32) (x14 : Int32) (d : Dt) : Option (Int32 × Dt) :=
  if x14 = 0 then f_L_isSo_J334 σ x0 x1 x2 x3 x4 x7 x8 x9 x10 x11 x12 x13 x14 d else if (x9 - x9 / (5 : Int32) * (5 : Int32)) = 0 then aw_chk (aw_I σ 20 x7 ((0 : Int32))) (if (d.1 x7 ((0 : Int32)).toNatClampNeg) ≤ 0 then f_L_isSo_J334 σ x0 x1 x2 x3 x4 x7 x8 x9 x10 x11 x12 x13 x14 d else aw_chk (¬ (d.1 x7 ((0 : Int32)).toNatClampNeg) = 0) ((f_L_readings σ x4 x11 (x10 - x10 / (d.1 x7 ((0 : Int32)).toNatClampNeg) * (d.1 x7 ((0 : Int32)).toNatClampNeg)) d).bind (fun z_40 => aw_chk (aw_O σ 10 13 x0) ((f_X10_readings σ x0 x8 (x10 - x10 / (d.1 x7 ((0 : Int32)).toNatClampNeg) * (d.1 x7 ((0 : Int32)).toNatClampNeg)) z_40.2).bind (fun z_43 => aw_nt z_43 (fun v_45 => if (lg_cmp v_45 z_40.1) = 0 then if (lg_cmp z_40.1 ((0 : Int64))) ≤ 0 then f_L_isSo_J331 σ x0 x1 x2 x3 x4 x7 x8 x9 x10 x11 x12 x13 z_43.2 else if 0 < (x10 - x10 / (4 : Int32) * (4 : Int32)) then f_L_isSo_J327 σ x0 x1 x2 x3 x4 x7 x8 x9 x10 x11 x12 x13 z_43.2 else (f_X10_readingsAnew σ x0 x8 (x10 - x10 / (d.1 x7 ((0 : Int32)).toNatClampNeg) * (d.1 x7 ((0 : Int32)).toNatClampNeg)) z_43.2).bind (fun z_47 => aw_nt z_47 (fun v_49 => if (lg_cmp v_49 z_40.1) = 0 then f_L_isSo_J327 σ x0 x1 x2 x3 x4 x7 x8 x9 x10 x11 x12 x13 z_47.2 else f_L_isSo_J331 σ x0 x1 x2 x3 x4 x7 x8 x9 x10 x11 x12 x13 z_47.2)) else f_L_isSo_J331 σ x0 x1 x2 x3 x4 x7 x8 x9 x10 x11 x12 x13 z_43.2)))))) else f_L_isSo_J334 σ x0 x1 x2 x3 x4 x7 x8 x9 x10 x11 x12 x13 x14 d
def f_L_isSo_J244 (σ : Sg) (t0 : Int32) (x0 : Nat) (x1 : Nat) (x2 : Nat) (x3 : Nat) (x4 : Nat) (x7 : Nat) (x8 : Int32) (x9 : Int32) (x10 : Int32) (x11 : Nat) (x12 : Nat) (x13 : Int32) (d : Dt) : Option (Int32 × Dt) :=
  f_L_isSo_J246 σ x0 x1 x2 x3 x4 x7 x8 x9 x10 x11 x12 x13 t0 d
def f_L_isSo_J243 (σ : Sg) (x0 : Nat) (x1 : Nat) (x2 : Nat) (x3 : Nat) (x4 : Nat) (x7 : Nat) (x8 : Int32) (x9 : Int32) (x10 : Int32) (x11 : Nat) (x12 : Nat) (x13 : Int32) (d : Dt) : Option (Int32 × Dt) :=
  f_L_isSo_J244 σ ((0 : Int32)) x0 x1 x2 x3 x4 x7 x8 x9 x10 x11 x12 x13 d
def f_L_isSo_J180 (σ : Sg) (t0 : Int32) (x0 : Nat) (x1 : Nat) (x2 : Nat) (x3 : Nat) (x4 : Nat) (x6 : Nat) (x7 : Nat) (x8 : Int32) (x9 : Int32) (x10 : Int32) (x11 : Nat) (x12 : Nat) (x13 : Int32) (d : Dt) : Option (Int32 × Dt) :=
  if t0 = 0 then f_L_isSo_J246 σ x0 x1 x2 x3 x4 x7 x8 x9 x10 x11 x12 x13 t0 d else if (x9 - x9 / (3 : Int32) * (3 : Int32)) = 0 then aw_chk (aw_O σ 10 13 x0) ((f_X10_errors σ x0 x8 (x10 - x10 / (5 : Int32) * (5 : Int32)) d).bind (fun z_52 => aw_nt z_52 (fun v_54 => (f_L_errors σ x4 x6 x11 x2 x7 (x10 - x10 / (5 : Int32) * (5 : Int32)) z_52.2).bind (fun z_56 => if v_54 = z_56.1 then (f_L_isPrimer σ x0 x11 x2 x7 x8 z_56.2).bind (fun z_58 => if z_58.1 = 0 then f_L_isSo_J243 σ x0 x1 x2 x3 x4 x7 x8 x9 x10 x11 x12 x13 z_58.2 else f_L_isSo_J244 σ ((1 : Int32)) x0 x1 x2 x3 x4 x7 x8 x9 x10 x11 x12 x13 z_58.2) else f_L_isSo_J243 σ x0 x1 x2 x3 x4 x7 x8 x9 x10 x11 x12 x13 z_56.2)))) else f_L_isSo_J246 σ x0 x1 x2 x3 x4 x7 x8 x9 x10 x11 x12 x13 t0 d
def f_L_isSo_J179 (σ : Sg) (x0 : Nat) (x1 : Nat) (x2 : Nat) (x3 : Nat) (x4 : Nat) (x6 : Nat) (x7 : Nat) (x8 : Int32) (x9 : Int32) (x10 : Int32) (x11 : Nat) (x12 : Nat) (x13 : Int32) (d : Dt) : Option (Int32 × Dt) :=
  f_L_isSo_J180 σ ((0 : Int32)) x0 x1 x2 x3 x4 x6 x7 x8 x9 x10 x11 x12 x13 d
def f_L_isSo_J118 (σ : Sg) (x0 : Nat) (x1 : Nat) (x2 : Nat) (x3 : Nat) (x4 : Nat) (x5 : Nat) (x6 : Nat) (x7 : Nat) (x8 : Int32) (x9 : Int32) (x10 : Int32) (x11 : Nat) (x12 : Nat) (x13 : Int32) (x14 : Int32) (d : Dt) : Option (Int32 × Dt) :=
  if x14 = 0 then f_L_isSo_J179 σ x0 x1 x2 x3 x4 x6 x7 x8 x9 x10 x11 x12 x13 d else aw_chk (aw_O σ 10 13 x0) ((f_X10_doubts σ x0 x8 d).bind (fun z_61 => aw_nt z_61 (fun v_63 => (f_L_doubts σ x11 x7 z_61.2).bind (fun z_65 => if v_63 = z_65.1 then (f_X10_load σ x0 x8 z_65.2).bind (fun z_67 => aw_nt z_67 (fun v_69 => (f_L_load σ x11 x2 x7 z_67.2).bind (fun z_71 => if v_69 = z_71.1 then (f_X10_travel σ x0 x8 z_71.2).bind (fun z_73 => aw_nt z_73 (fun v_75 => (f_L_travel σ x5 x11 x2 x7 z_73.2).bind (fun z_77 => if v_75 = z_77.1 then f_L_isSo_J180 σ ((1 : Int32)) x0 x1 x2 x3 x4 x6 x7 x8 x9 x10 x11 x12 x13 z_77.2 else f_L_isSo_J179 σ x0 x1 x2 x3 x4 x6 x7 x8 x9 x10 x11 x12 x13 z_77.2))) else f_L_isSo_J179 σ x0 x1 x2 x3 x4 x6 x7 x8 x9 x10 x11 x12 x13 z_71.2))) else f_L_isSo_J179 σ x0 x1 x2 x3 x4 x6 x7 x8 x9 x10 x11 x12 x13 z_65.2))))
def f_L_isSo_J19 (σ : Sg) (t0 : Int32) (x0 : Nat) (x1 : Nat) (x2 : Nat) (x3 : Nat) (x4 : Nat) (x5 : Nat) (x6 : Nat) (x7 : Nat) (x8 : Int32) (x9 : Int32) (x10 : Int32) (x11 : Nat) (x12 : Nat) (d : Dt) : Option (Int32 × Dt) :=
  (f_L_spellsAll σ x1 x2 x3 x4 x7 t0 x11 d).bind (fun z_2 => f_L_isSo_L41 σ 8 (fun x14_16 d_17 => f_L_isSo_J118 σ x0 x1 x2 x3 x4 x5 x6 x7 x8 x9 x10 x11 x12 t0 x14_16 d_17) x0 x1 x2 x3 x4 x5 x6 x7 x8 x9 x10 x11 x12 t0 ((1 : Int32)) ((0 : Int32)) z_2.2)
def f_L_isSo (σ : Sg) (x0 : Nat) (x1 : Nat) (x2 : Nat) (x3 : Nat) (x4 : Nat) (x5 : Nat) (x6 : Nat) (x7 : Nat) (x8 : Int32) (x9 : Int32) (x10 : Int32) (x11 : Nat) (x12 : Nat) (d : Dt) : Option (Int32 × Dt) :=
  aw_chk (aw_I σ 20 x4 ((48 : Int32))) (if (d.1 x4 ((48 : Int32)).toNatClampNeg) = 0 then f_L_isSo_J19 σ ((3 : Int32)) x0 x1 x2 x3 x4 x5 x6 x7 x8 x9 x10 x11 x12 d else f_L_isSo_J19 σ ((d.1 x4 ((48 : Int32)).toNatClampNeg) - ((1 : Int32))) x0 x1 x2 x3 x4 x5 x6 x7 x8 x9 x10 x11 x12 d)
section W_L_isSo
variable {p : Program} {l : Launch} {e : Env} {s : State} {m : MethodId} {args : Array Value} {below : List Frame} {meth : Method} {c : Code}
variable {D : va_G} {cA : Nat → ClassId} {base : Nat} {ad : Nat → Nat} {σ : Sg}
set_option maxHeartbeats 4000000 in
set_option maxRecDepth 100000 in
theorem w_L_isSo_J104 {z : Int32 × Dt} (X : aw_X p c cL_isSo 18 s RL m meth (some .boolean)) (hst : l.stackTraces = false) (hwf : aw_wf σ) {kb58 : Int32 → Int32 → Dt → Option (Int32 × Dt)} {t0 : Int32} {x0 : Nat} {x1 : Nat} {x2 : Nat} {x3 : Nat} {x4 : Nat} {x5 : Nat} {x6 : Nat} {x7 : Nat} {x8 : Int32} {x9 : Int32} {x10 : Int32} {x11 : Nat} {x12 : Nat} {x13 : Int32} {x15 : Int32} {x16 : Int32} {d : Dt} (hf : f_L_isSo_J104 σ kb58 t0 x0 x1 x2 x3 x4 x5 x6 x7 x8 x9 x10 x11 x12 x13 x15 x16 d = some z) {nb58 nb41 cells slots : Nat} (hB : cells + (124 + nb58 * 3 + nb41 * 60) ≤ 604 ∧ slots + 64 * (124 + nb58 * 3 + nb41 * 60) ≤ 38656) (hkb58 : ∀ (y14 : Int32) (y16 : Int32) (d : Dt), kb58 y14 y16 d = some z → ∀ (cells slots : Nat), cells + (124 + nb58 * 3 + nb41 * 60) ≤ 604 ∧ slots + 64 * (124 + nb58 * 3 + nb41 * 60) ≤ 38656 → ∀ (H : Heap) (locs : List Loc) (ls : Array Slot), lv_has ls 18 [(0, .ref (ad x0)), (1, .ref (ad x1)), (2, .ref (ad x2)), (3, .ref (ad x3)), (4, .ref (ad x4)), (5, .ref (ad x5)), (6, .ref (ad x6)), (7, .ref (ad x7)), (8, .int x8), (9, .int x9), (10, .int x10), (11, .ref (ad x11)), (12, .ref (ad x12)), (13, .int x13), (14, .int y14), (15, .int x15), (16, .int y16)] → aw_G D cA base ad σ d s H locs → W p l e rm_L_isSo s m args below meth c H locs cells slots (aw_Ej D cA base ad σ below args s 604 38656 z) (F0 m 58 ls [])) {H : Heap} {locs : List Loc} {ls : Array Slot} (hl : lv_has ls 18 [(0, .ref (ad x0)), (1, .ref (ad x1)), (2, .ref (ad x2)), (3, .ref (ad x3)), (4, .ref (ad x4)), (5, .ref (ad x5)), (6, .ref (ad x6)), (7, .ref (ad x7)), (8, .int x8), (9, .int x9), (10, .int x10), (11, .ref (ad x11)), (12, .ref (ad x12)), (13, .int x13), (15, .int x15), (16, .int x16)]) (G : aw_G D cA base ad σ d s H locs) : W p l e rm_L_isSo s m args below meth c H locs cells slots (aw_Ej D cA base ad σ below args s 604 38656 z) (F0 m 104 ls [.int t0]) := by
  have hx := X.1; have hb := X.2.1; have hml := X.2.2.1; have hown := X.2.2.2.1
  unfold f_L_isSo_J104 at hf
  refine lv_istore (lv' := [(14, .int t0), (0, .ref (ad x0)), (1, .ref (ad x1)), (2, .ref (ad x2)), (3, .ref (ad x3)), (4, .ref (ad x4)), (5, .ref (ad x5)), (6, .ref (ad x6)), (7, .ref (ad x7)), (8, .int x8), (9, .int x9), (10, .int x10), (11, .ref (ad x11)), (12, .ref (ad x12)), (13, .int x13), (15, .int x15), (16, .int x16)]) hx hb dL_isSo_104 hl (by decide) rfl (fun ls hl => ?_)
  refine lv_iinc (v := x16 + 1) (lv' := [(16, .int (x16 + 1)), (14, .int t0), (0, .ref (ad x0)), (1, .ref (ad x1)), (2, .ref (ad x2)), (3, .ref (ad x3)), (4, .ref (ad x4)), (5, .ref (ad x5)), (6, .ref (ad x6)), (7, .ref (ad x7)), (8, .int x8), (9, .int x9), (10, .int x10), (11, .ref (ad x11)), (12, .ref (ad x12)), (13, .int x13), (15, .int x15)]) hx hb dL_isSo_106 hl (k := 16) rfl rfl (by decide) rfl (fun ls hl => ?_)
  refine lv_goto (tgt := 58) hx hb dL_isSo_109 (by decide) ?_
  exact hkb58 _ _ _ hf _ _ ⟨by omega, by omega⟩ _ _ _ (lv_sub hl [2, 3, 4, 5, 6, 7, 8, 9, 10, 11, 12, 13, 14, 15, 1, 16, 0] rfl) G
set_option maxHeartbeats 4000000 in
set_option maxRecDepth 100000 in
theorem w_L_isSo_B58 {z : Int32 × Dt} (X : aw_X p c cL_isSo 18 s RL m meth (some .boolean)) (hst : l.stackTraces = false) (hwf : aw_wf σ) {kb58 : Int32 → Int32 → Dt → Option (Int32 × Dt)} {k58 : Int32 → Dt → Option (Int32 × Dt)} {x0 : Nat} {x1 : Nat} {x2 : Nat} {x3 : Nat} {x4 : Nat} {x5 : Nat} {x6 : Nat} {x7 : Nat} {x8 : Int32} {x9 : Int32} {x10 : Int32} {x11 : Nat} {x12 : Nat} {x13 : Int32} {x15 : Int32} {x14 : Int32} {x16 : Int32} {d : Dt} (hf : f_L_isSo_B58 σ kb58 k58 x0 x1 x2 x3 x4 x5 x6 x7 x8 x9 x10 x11 x12 x13 x15 x14 x16 d = some z) {nb58 nb41 cells slots : Nat} (hB : cells + (127 + nb58 * 3 + nb41 * 60) ≤ 604 ∧ slots + 64 * (127 + nb58 * 3 + nb41 * 60) ≤ 38656) (hkb58 : ∀ (y14 : Int32) (y16 : Int32) (d : Dt), kb58 y14 y16 d = some z → ∀ (cells slots : Nat), cells + (124 + nb58 * 3 + nb41 * 60) ≤ 604 ∧ slots + 64 * (124 + nb58 * 3 + nb41 * 60) ≤ 38656 → ∀ (H : Heap) (locs : List Loc) (ls : Array Slot), lv_has ls 18 [(0, .ref (ad x0)), (1, .ref (ad x1)), (2, .ref (ad x2)), (3, .ref (ad x3)), (4, .ref (ad x4)), (5, .ref (ad x5)), (6, .ref (ad x6)), (7, .ref (ad x7)), (8, .int x8), (9, .int x9), (10, .int x10), (11, .ref (ad x11)), (12, .ref (ad x12)), (13, .int x13), (14, .int y14), (15, .int x15), (16, .int y16)] → aw_G D cA base ad σ d s H locs → W p l e rm_L_isSo s m args below meth c H locs cells slots (aw_Ej D cA base ad σ below args s 604 38656 z) (F0 m 58 ls [])) (hk58 : ∀ (y14 : Int32) (d : Dt), k58 y14 d = some z → ∀ (cells slots : Nat), cells + (124 + nb41 * 60) ≤ 604 ∧ slots + 64 * (124 + nb41 * 60) ≤ 38656 → ∀ (H : Heap) (locs : List Loc) (ls : Array Slot), lv_has ls 18 [(0, .ref (ad x0)), (1, .ref (ad x1)), (2, .ref (ad x2)), (3, .ref (ad x3)), (4, .ref (ad x4)), (5, .ref (ad x5)), (6, .ref (ad x6)), (7, .ref (ad x7)), (8, .int x8), (9, .int x9), (10, .int x10), (11, .ref (ad x11)), (12, .ref (ad x12)), (13, .int x13), (14, .int y14), (15, .int x15)] → aw_G D cA base ad σ d s H locs → W p l e rm_L_isSo s m args below meth c H locs cells slots (aw_Ej D cA base ad σ below args s 604 38656 z) (F0 m 112 ls [])) {H : Heap} {locs : List Loc} {ls : Array Slot} (hl : lv_has ls 18 [(0, .ref (ad x0)), (1, .ref (ad x1)), (2, .ref (ad x2)), (3, .ref (ad x3)), (4, .ref (ad x4)), (5, .ref (ad x5)), (6, .ref (ad x6)), (7, .ref (ad x7)), (8, .int x8), (9, .int x9), (10, .int x10), (11, .ref (ad x11)), (12, .ref (ad x12)), (13, .int x13), (14, .int x14), (15, .int x15), (16, .int x16)]) (G : aw_G D cA base ad σ d s H locs) : W p l e rm_L_isSo s m args below meth c H locs cells slots (aw_Ej D cA base ad σ below args s 604 38656 z) (F0 m 58 ls []) := by
  have hx := X.1; have hb := X.2.1; have hml := X.2.2.1; have hown := X.2.2.2.1
  unfold f_L_isSo_B58 at hf
  refine lv_iload hx hb dL_isSo_58 (lv_at hl 16 rfl) ?_
  refine lv_aload hx hb dL_isSo_60 (lv_at hl 11 rfl) ?_
  refine lv_iload hx hb dL_isSo_62 (lv_at hl 15 rfl) ?_
  obtain ⟨z_5, hz_6, hf⟩ := aw_bind_some hf
  refine aw_SI (As := [.ref (ad x11), .int x15]) (rest := [.int x16]) X G hl.1 cr_L_93 (c_L_many l hz_6) ⟨rfl, rfl⟩ rfl rfl rfl ⟨(Nat.le_of_ble_eq_true rfl), (Nat.le_of_ble_eq_true rfl)⟩ (Nat.le_of_ble_eq_true rfl) dL_isSo_64 ⟨by show cells + 0 ≤ 604; omega, by show slots + 0 ≤ 38656; omega⟩ (fun H locs G => ?_)
  refine lv_iconst (v := (1 : Int32)) hx hb dL_isSo_67 (by decide) ?_
  refine lv_iadd hx hb dL_isSo_68 ?_
  refine lv_icmp_ge (tgt := 112) hx hb dL_isSo_69 (by decide) (fun hc => ?_) (fun hc => ?_)
  · have hf := aw_ite_t hc hf
    exact hk58 _ _ hf _ _ ⟨by omega, by omega⟩ _ _ _ (lv_sub hl [0, 1, 2, 3, 4, 5, 6, 7, 8, 9, 10, 11, 12, 13, 14, 15] rfl) G
  · have hf := aw_ite_f hc hf
    refine lv_iload hx hb dL_isSo_72 (lv_at hl 14 rfl) ?_
    refine lv_if_eq (tgt := 112) hx hb dL_isSo_74 (by decide) (fun hc => ?_) (fun hc => ?_)
    · have hf := aw_ite_t hc hf
      exact hk58 _ _ hf _ _ ⟨by omega, by omega⟩ _ _ _ (lv_sub hl [0, 1, 2, 3, 4, 5, 6, 7, 8, 9, 10, 11, 12, 13, 14, 15] rfl) G
    · have hf := aw_ite_f hc hf
      refine lv_aload_n hx hb dL_isSo_77 rfl (lv_at hl 0 rfl) ?_
      refine lv_iload hx hb dL_isSo_78 (lv_at hl 8 rfl) ?_
      refine lv_iload hx hb dL_isSo_80 (lv_at hl 15 rfl) ?_
      refine lv_iload hx hb dL_isSo_82 (lv_at hl 16 rfl) ?_
      obtain ⟨hc_7, hf⟩ := aw_chk_some hf
      obtain ⟨z_8, hz_9, hf⟩ := aw_bind_some hf
      obtain ⟨v_10, hv_11, hf⟩ := aw_nt_some hf
      refine aw_CXI (As := [.int x8, .int x15, .int x16]) (rest := []) X G hl.1 cr_L_43 (c_X10_spelled l hst hz_9) rfl rfl rfl (by decide) hc_7 rfl ⟨(Nat.le_of_ble_eq_true rfl), (Nat.le_of_ble_eq_true rfl)⟩ (Nat.le_of_ble_eq_true rfl) dL_isSo_84 3 18 ⟨(Nat.le_of_ble_eq_true rfl), (Nat.le_of_ble_eq_true rfl)⟩ ⟨by show cells + 3 ≤ 604; omega, by show slots + 18 ≤ 38656; omega⟩ hv_11 (fun H locs G => ?_)
      refine lv_aload hx hb dL_isSo_87 (lv_at hl 11 rfl) ?_
      refine lv_iload hx hb dL_isSo_89 (lv_at hl 15 rfl) ?_
      refine lv_iload hx hb dL_isSo_91 (lv_at hl 16 rfl) ?_
      obtain ⟨z_12, hz_13, hf⟩ := aw_bind_some hf
      refine aw_SI (As := [.ref (ad x11), .int x15, .int x16]) (rest := [.int v_10]) X G hl.1 cr_L_85 (c_L_sign l hz_13) ⟨rfl, rfl⟩ rfl rfl rfl ⟨(Nat.le_of_ble_eq_true rfl), (Nat.le_of_ble_eq_true rfl)⟩ (Nat.le_of_ble_eq_true rfl) dL_isSo_93 ⟨by show cells + 3 + 0 ≤ 604; omega, by show slots + 18 + 0 ≤ 38656; omega⟩ (fun H locs G => ?_)
      refine lv_icmp_ne (tgt := 103) hx hb dL_isSo_96 (by decide) (fun hc => ?_) (fun hc => ?_)
      · have hf := aw_ite_f hc hf
        refine lv_iconst (v := (0 : Int32)) hx hb dL_isSo_103 (by decide) ?_
        exact w_L_isSo_J104 X hst hwf (nb58 := nb58) (nb41 := nb41) hf ⟨by omega, by omega⟩ hkb58 (lv_sub hl [0, 1, 2, 3, 4, 5, 6, 7, 8, 9, 10, 11, 12, 13, 15, 16] rfl) G
      · have hf := aw_ite_t hc hf
        refine lv_iconst (v := (1 : Int32)) hx hb dL_isSo_99 (by decide) ?_
        refine lv_goto (tgt := 104) hx hb dL_isSo_100 (by decide) ?_
        exact w_L_isSo_J104 X hst hwf (nb58 := nb58) (nb41 := nb41) hf ⟨by omega, by omega⟩ hkb58 (lv_sub hl [0, 1, 2, 3, 4, 5, 6, 7, 8, 9, 10, 11, 12, 13, 15, 16] rfl) G
theorem w_L_isSo_L58 {z : Int32 × Dt} (X : aw_X p c cL_isSo 18 s RL m meth (some .boolean)) (hst : l.stackTraces = false) (hwf : aw_wf σ) {k58 : Int32 → Dt → Option (Int32 × Dt)} {x0 : Nat} {x1 : Nat} {x2 : Nat} {x3 : Nat} {x4 : Nat} {x5 : Nat} {x6 : Nat} {x7 : Nat} {x8 : Int32} {x9 : Int32} {x10 : Int32} {x11 : Nat} {x12 : Nat} {x13 : Int32} {x15 : Int32} (n : Nat) {x14 : Int32} {x16 : Int32} {d : Dt} (hf : f_L_isSo_L58 σ n k58 x0 x1 x2 x3 x4 x5 x6 x7 x8 x9 x10 x11 x12 x13 x15 x14 x16 d = some z) {nb41 cells slots : Nat} (hB : cells + (124 + n * 3 + nb41 * 60) ≤ 604 ∧ slots + 64 * (124 + n * 3 + nb41 * 60) ≤ 38656) (hk58 : ∀ (y14 : Int32) (d : Dt), k58 y14 d = some z → ∀ (cells slots : Nat), cells + (124 + nb41 * 60) ≤ 604 ∧ slots + 64 * (124 + nb41 * 60) ≤ 38656 → ∀ (H : Heap) (locs : List Loc) (ls : Array Slot), lv_has ls 18 [(0, .ref (ad x0)), (1, .ref (ad x1)), (2, .ref (ad x2)), (3, .ref (ad x3)), (4, .ref (ad x4)), (5, .ref (ad x5)), (6, .ref (ad x6)), (7, .ref (ad x7)), (8, .int x8), (9, .int x9), (10, .int x10), (11, .ref (ad x11)), (12, .ref (ad x12)), (13, .int x13), (14, .int y14), (15, .int x15)] → aw_G D cA base ad σ d s H locs → W p l e rm_L_isSo s m args below meth c H locs cells slots (aw_Ej D cA base ad σ below args s 604 38656 z) (F0 m 112 ls [])) {H : Heap} {locs : List Loc} {ls : Array Slot} (hl : lv_has ls 18 [(0, .ref (ad x0)), (1, .ref (ad x1)), (2, .ref (ad x2)), (3, .ref (ad x3)), (4, .ref (ad x4)), (5, .ref (ad x5)), (6, .ref (ad x6)), (7, .ref (ad x7)), (8, .int x8), (9, .int x9), (10, .int x10), (11, .ref (ad x11)), (12, .ref (ad x12)), (13, .int x13), (14, .int x14), (15, .int x15), (16, .int x16)]) (G : aw_G D cA base ad σ d s H locs) : W p l e rm_L_isSo s m args below meth c H locs cells slots (aw_Ej D cA base ad σ below args s 604 38656 z) (F0 m 58 ls []) := by
  induction n generalizing x14 x16 d cells slots H locs ls with
  | zero => exact absurd (show (none : Option (Int32 × Dt)) = some z from hf) (by simp)
  | succ n ih => exact w_L_isSo_B58 X hst hwf (nb58 := n) (nb41 := nb41) (kb58 := f_L_isSo_L58 σ n k58 x0 x1 x2 x3 x4 x5 x6 x7 x8 x9 x10 x11 x12 x13 x15) hf ⟨by omega, by omega⟩  (fun x14 x16 d hf cells slots hB H locs ls hl G => ih hf hB hl G) hk58 hl G
set_option maxHeartbeats 4000000 in
set_option maxRecDepth 100000 in
theorem w_L_isSo_J112 {z : Int32 × Dt} (X : aw_X p c cL_isSo 18 s RL m meth (some .boolean)) (hst : l.stackTraces = false) (hwf : aw_wf σ) {kb41 : Int32 → Int32 → Dt → Option (Int32 × Dt)} {x0 : Nat} {x1 : Nat} {x2 : Nat} {x3 : Nat} {x4 : Nat} {x5 : Nat} {x6 : Nat} {x7 : Nat} {x8 : Int32} {x9 : Int32} {x10 : Int32} {x11 : Nat} {x12 : Nat} {x13 : Int32} {x14 : Int32} {x15 : Int32} {d : Dt} (hf : f_L_isSo_J112 σ kb41 x0 x1 x2 x3 x4 x5 x6 x7 x8 x9 x10 x11 x12 x13 x14 x15 d = some z) {nb41 cells slots : Nat} (hB : cells + (124 + nb41 * 60) ≤ 604 ∧ slots + 64 * (124 + nb41 * 60) ≤ 38656) (hkb41 : ∀ (y14 : Int32) (y15 : Int32) (d : Dt), kb41 y14 y15 d = some z → ∀ (cells slots : Nat), cells + (124 + nb41 * 60) ≤ 604 ∧ slots + 64 * (124 + nb41 * 60) ≤ 38656 → ∀ (H : Heap) (locs : List Loc) (ls : Array Slot), lv_has ls 18 [(0, .ref (ad x0)), (1, .ref (ad x1)), (2, .ref (ad x2)), (3, .ref (ad x3)), (4, .ref (ad x4)), (5, .ref (ad x5)), (6, .ref (ad x6)), (7, .ref (ad x7)), (8, .int x8), (9, .int x9), (10, .int x10), (11, .ref (ad x11)), (12, .ref (ad x12)), (13, .int x13), (14, .int y14), (15, .int y15)] → aw_G D cA base ad σ d s H locs → W p l e rm_L_isSo s m args below meth c H locs cells slots (aw_Ej D cA base ad σ below args s 604 38656 z) (F0 m 41 ls [])) {H : Heap} {locs : List Loc} {ls : Array Slot} (hl : lv_has ls 18 [(0, .ref (ad x0)), (1, .ref (ad x1)), (2, .ref (ad x2)), (3, .ref (ad x3)), (4, .ref (ad x4)), (5, .ref (ad x5)), (6, .ref (ad x6)), (7, .ref (ad x7)), (8, .int x8), (9, .int x9), (10, .int x10), (11, .ref (ad x11)), (12, .ref (ad x12)), (13, .int x13), (14, .int x14), (15, .int x15)]) (G : aw_G D cA base ad σ d s H locs) : W p l e rm_L_isSo s m args below meth c H locs cells slots (aw_Ej D cA base ad σ below args s 604 38656 z) (F0 m 112 ls []) := by
  have hx := X.1; have hb := X.2.1; have hml := X.2.2.1; have hown := X.2.2.2.1
  unfold f_L_isSo_J112 at hf
  refine lv_iinc (v := x15 + 1) (lv' := [(15, .int (x15 + 1)), (0, .ref (ad x0)), (1, .ref (ad x1)), (2, .ref (ad x2)), (3, .ref (ad x3)), (4, .ref (ad x4)), (5, .ref (ad x5)), (6, .ref (ad x6)), (7, .ref (ad x7)), (8, .int x8), (9, .int x9), (10, .int x10), (11, .ref (ad x11)), (12, .ref (ad x12)), (13, .int x13), (14, .int x14)]) hx hb dL_isSo_112 hl (k := 15) rfl rfl (by decide) rfl (fun ls hl => ?_)
  refine lv_goto (tgt := 41) hx hb dL_isSo_115 (by decide) ?_
  exact hkb41 _ _ _ hf _ _ ⟨by omega, by omega⟩ _ _ _ (lv_sub hl [1, 2, 3, 4, 5, 6, 7, 8, 9, 10, 11, 12, 13, 14, 15, 0] rfl) G
set_option maxHeartbeats 4000000 in
set_option maxRecDepth 100000 in
theorem w_L_isSo_B41 {z : Int32 × Dt} (X : aw_X p c cL_isSo 18 s RL m meth (some .boolean)) (hst : l.stackTraces = false) (hwf : aw_wf σ) {kb41 : Int32 → Int32 → Dt → Option (Int32 × Dt)} {k41 : Int32 → Dt → Option (Int32 × Dt)} {x0 : Nat} {x1 : Nat} {x2 : Nat} {x3 : Nat} {x4 : Nat} {x5 : Nat} {x6 : Nat} {x7 : Nat} {x8 : Int32} {x9 : Int32} {x10 : Int32} {x11 : Nat} {x12 : Nat} {x13 : Int32} {x14 : Int32} {x15 : Int32} {d : Dt} (hf : f_L_isSo_B41 σ kb41 k41 x0 x1 x2 x3 x4 x5 x6 x7 x8 x9 x10 x11 x12 x13 x14 x15 d = some z) {nb41 cells slots : Nat} (hB : cells + (184 + nb41 * 60) ≤ 604 ∧ slots + 64 * (184 + nb41 * 60) ≤ 38656) (hkb41 : ∀ (y14 : Int32) (y15 : Int32) (d : Dt), kb41 y14 y15 d = some z → ∀ (cells slots : Nat), cells + (124 + nb41 * 60) ≤ 604 ∧ slots + 64 * (124 + nb41 * 60) ≤ 38656 → ∀ (H : Heap) (locs : List Loc) (ls : Array Slot), lv_has ls 18 [(0, .ref (ad x0)), (1, .ref (ad x1)), (2, .ref (ad x2)), (3, .ref (ad x3)), (4, .ref (ad x4)), (5, .ref (ad x5)), (6, .ref (ad x6)), (7, .ref (ad x7)), (8, .int x8), (9, .int x9), (10, .int x10), (11, .ref (ad x11)), (12, .ref (ad x12)), (13, .int x13), (14, .int y14), (15, .int y15)] → aw_G D cA base ad σ d s H locs → W p l e rm_L_isSo s m args below meth c H locs cells slots (aw_Ej D cA base ad σ below args s 604 38656 z) (F0 m 41 ls [])) (hk41 : ∀ (y14 : Int32) (d : Dt), k41 y14 d = some z → ∀ (cells slots : Nat), cells + (124) ≤ 604 ∧ slots + 64 * (124) ≤ 38656 → ∀ (H : Heap) (locs : List Loc) (ls : Array Slot), lv_has ls 18 [(0, .ref (ad x0)), (1, .ref (ad x1)), (2, .ref (ad x2)), (3, .ref (ad x3)), (4, .ref (ad x4)), (5, .ref (ad x5)), (6, .ref (ad x6)), (7, .ref (ad x7)), (8, .int x8), (9, .int x9), (10, .int x10), (11, .ref (ad x11)), (12, .ref (ad x12)), (13, .int x13), (14, .int y14)] → aw_G D cA base ad σ d s H locs → W p l e rm_L_isSo s m args below meth c H locs cells slots (aw_Ej D cA base ad σ below args s 604 38656 z) (F0 m 118 ls [])) {H : Heap} {locs : List Loc} {ls : Array Slot} (hl : lv_has ls 18 [(0, .ref (ad x0)), (1, .ref (ad x1)), (2, .ref (ad x2)), (3, .ref (ad x3)), (4, .ref (ad x4)), (5, .ref (ad x5)), (6, .ref (ad x6)), (7, .ref (ad x7)), (8, .int x8), (9, .int x9), (10, .int x10), (11, .ref (ad x11)), (12, .ref (ad x12)), (13, .int x13), (14, .int x14), (15, .int x15)]) (G : aw_G D cA base ad σ d s H locs) : W p l e rm_L_isSo s m args below meth c H locs cells slots (aw_Ej D cA base ad σ below args s 604 38656 z) (F0 m 41 ls []) := by
  have hx := X.1; have hb := X.2.1; have hml := X.2.2.1; have hown := X.2.2.2.1
  unfold f_L_isSo_B41 at hf
  refine lv_iload hx hb dL_isSo_41 (lv_at hl 15 rfl) ?_
  refine lv_aload hx hb dL_isSo_43 (lv_at hl 7 rfl) ?_
  refine lv_iconst (v := (0 : Int32)) hx hb dL_isSo_45 (by decide) ?_
  obtain ⟨hc_4, hf⟩ := aw_chk_some hf
  refine aw_ial hx hb G hc_4 dL_isSo_46 ?_
  refine lv_icmp_ge (tgt := 118) hx hb dL_isSo_47 (by decide) (fun hc => ?_) (fun hc => ?_)
  · have hf := aw_ite_t hc hf
    exact hk41 _ _ hf _ _ ⟨by omega, by omega⟩ _ _ _ (lv_sub hl [0, 1, 2, 3, 4, 5, 6, 7, 8, 9, 10, 11, 12, 13, 14] rfl) G
  · have hf := aw_ite_f hc hf
    refine lv_iload hx hb dL_isSo_50 (lv_at hl 14 rfl) ?_
    refine lv_if_eq (tgt := 118) hx hb dL_isSo_52 (by decide) (fun hc => ?_) (fun hc => ?_)
    · have hf := aw_ite_t hc hf
      exact hk41 _ _ hf _ _ ⟨by omega, by omega⟩ _ _ _ (lv_sub hl [0, 1, 2, 3, 4, 5, 6, 7, 8, 9, 10, 11, 12, 13, 14] rfl) G
    · have hf := aw_ite_f hc hf
      refine lv_iconst (v := (0 : Int32)) hx hb dL_isSo_55 (by decide) ?_
      refine lv_istore (lv' := [(16, .int ((0 : Int32))), (0, .ref (ad x0)), (1, .ref (ad x1)), (2, .ref (ad x2)), (3, .ref (ad x3)), (4, .ref (ad x4)), (5, .ref (ad x5)), (6, .ref (ad x6)), (7, .ref (ad x7)), (8, .int x8), (9, .int x9), (10, .int x10), (11, .ref (ad x11)), (12, .ref (ad x12)), (13, .int x13), (14, .int x14), (15, .int x15)]) hx hb dL_isSo_56 hl (by decide) rfl (fun ls hl => ?_)
      refine w_L_isSo_L58 X hst hwf 20 (nb41 := nb41) hf ⟨by omega, by omega⟩  (fun x14_14 d_15 hf cells slots hB H locs ls hl G => ?_) (lv_sub hl [1, 2, 3, 4, 5, 6, 7, 8, 9, 10, 11, 12, 13, 14, 15, 16, 0] rfl) G
      exact w_L_isSo_J112 X hst hwf (nb41 := nb41) hf ⟨by omega, by omega⟩ hkb41 (lv_sub hl [0, 1, 2, 3, 4, 5, 6, 7, 8, 9, 10, 11, 12, 13, 14, 15] rfl) G
theorem w_L_isSo_L41 {z : Int32 × Dt} (X : aw_X p c cL_isSo 18 s RL m meth (some .boolean)) (hst : l.stackTraces = false) (hwf : aw_wf σ) {k41 : Int32 → Dt → Option (Int32 × Dt)} {x0 : Nat} {x1 : Nat} {x2 : Nat} {x3 : Nat} {x4 : Nat} {x5 : Nat} {x6 : Nat} {x7 : Nat} {x8 : Int32} {x9 : Int32} {x10 : Int32} {x11 : Nat} {x12 : Nat} {x13 : Int32} (n : Nat) {x14 : Int32} {x15 : Int32} {d : Dt} (hf : f_L_isSo_L41 σ n k41 x0 x1 x2 x3 x4 x5 x6 x7 x8 x9 x10 x11 x12 x13 x14 x15 d = some z) { cells slots : Nat} (hB : cells + (124 + n * 60) ≤ 604 ∧ slots + 64 * (124 + n * 60) ≤ 38656) (hk41 : ∀ (y14 : Int32) (d : Dt), k41 y14 d = some z → ∀ (cells slots : Nat), cells + (124) ≤ 604 ∧ slots + 64 * (124) ≤ 38656 → ∀ (H : Heap) (locs : List Loc) (ls : Array Slot), lv_has ls 18 [(0, .ref (ad x0)), (1, .ref (ad x1)), (2, .ref (ad x2)), (3, .ref (ad x3)), (4, .ref (ad x4)), (5, .ref (ad x5)), (6, .ref (ad x6)), (7, .ref (ad x7)), (8, .int x8), (9, .int x9), (10, .int x10), (11, .ref (ad x11)), (12, .ref (ad x12)), (13, .int x13), (14, .int y14)] → aw_G D cA base ad σ d s H locs → W p l e rm_L_isSo s m args below meth c H locs cells slots (aw_Ej D cA base ad σ below args s 604 38656 z) (F0 m 118 ls [])) {H : Heap} {locs : List Loc} {ls : Array Slot} (hl : lv_has ls 18 [(0, .ref (ad x0)), (1, .ref (ad x1)), (2, .ref (ad x2)), (3, .ref (ad x3)), (4, .ref (ad x4)), (5, .ref (ad x5)), (6, .ref (ad x6)), (7, .ref (ad x7)), (8, .int x8), (9, .int x9), (10, .int x10), (11, .ref (ad x11)), (12, .ref (ad x12)), (13, .int x13), (14, .int x14), (15, .int x15)]) (G : aw_G D cA base ad σ d s H locs) : W p l e rm_L_isSo s m args below meth c H locs cells slots (aw_Ej D cA base ad σ below args s 604 38656 z) (F0 m 41 ls []) := by
  induction n generalizing x14 x15 d cells slots H locs ls with
  | zero => exact absurd (show (none : Option (Int32 × Dt)) = some z from hf) (by simp)
  | succ n ih => exact w_L_isSo_B41 X hst hwf (nb41 := n) (kb41 := f_L_isSo_L41 σ n k41 x0 x1 x2 x3 x4 x5 x6 x7 x8 x9 x10 x11 x12 x13) hf ⟨by omega, by omega⟩  (fun x14 x15 d hf cells slots hB H locs ls hl G => ih hf hB hl G) hk41 hl G
set_option maxHeartbeats 4000000 in
set_option maxRecDepth 100000 in
theorem w_L_isSo_J458 {z : Int32 × Dt} (X : aw_X p c cL_isSo 18 s RL m meth (some .boolean)) (hst : l.stackTraces = false) (hwf : aw_wf σ) {t0 : Int32} {d : Dt} (hf : f_L_isSo_J458 σ t0 d = some z) { cells slots : Nat} (hB : cells + (0) ≤ 604 ∧ slots + 64 * (0) ≤ 38656)  {H : Heap} {locs : List Loc} {ls : Array Slot} (hl : lv_has ls 18 []) (G : aw_G D cA base ad σ d s H locs) : W p l e rm_L_isSo s m args below meth c H locs cells slots (aw_Ej D cA base ad σ below args s 604 38656 z) (F0 m 458 ls [.int t0]) := by
  have hx := X.1; have hb := X.2.1; have hml := X.2.2.1; have hown := X.2.2.2.1
  unfold f_L_isSo_J458 at hf
  obtain ⟨hc_23, hf⟩ := aw_chk_some hf
  exact aw_retjZ X G hf hc_23 dL_isSo_458 (by omega) (by omega)
set_option maxHeartbeats 4000000 in
set_option maxRecDepth 100000 in
theorem w_L_isSo_J457 {z : Int32 × Dt} (X : aw_X p c cL_isSo 18 s RL m meth (some .boolean)) (hst : l.stackTraces = false) (hwf : aw_wf σ)  {d : Dt} (hf : f_L_isSo_J457 σ d = some z) { cells slots : Nat} (hB : cells + (0) ≤ 604 ∧ slots + 64 * (0) ≤ 38656)  {H : Heap} {locs : List Loc} {ls : Array Slot} (hl : lv_has ls 18 []) (G : aw_G D cA base ad σ d s H locs) : W p l e rm_L_isSo s m args below meth c H locs cells slots (aw_Ej D cA base ad σ below args s 604 38656 z) (F0 m 457 ls []) := by
  have hx := X.1; have hb := X.2.1; have hml := X.2.2.1; have hown := X.2.2.2.1
  unfold f_L_isSo_J457 at hf
  refine lv_iconst (v := (0 : Int32)) hx hb dL_isSo_457 (by decide) ?_
  exact w_L_isSo_J458 X hst hwf hf ⟨by omega, by omega⟩  (lv_sub hl [] rfl) G
set_option maxHeartbeats 4000000 in
set_option maxRecDepth 100000 in
theorem w_L_isSo_J383 {z : Int32 × Dt} (X : aw_X p c cL_isSo 18 s RL m meth (some .boolean)) (hst : l.stackTraces = false) (hwf : aw_wf σ) {t0 : Int32} {x0 : Nat} {x1 : Nat} {x2 : Nat} {x3 : Nat} {x4 : Nat} {x7 : Nat} {x8 : Int32} {x10 : Int32} {x12 : Nat} {x13 : Int32} {d : Dt} (hf : f_L_isSo_J383 σ t0 x0 x1 x2 x3 x4 x7 x8 x10 x12 x13 d = some z) { cells slots : Nat} (hB : cells + (2) ≤ 604 ∧ slots + 64 * (2) ≤ 38656)  {H : Heap} {locs : List Loc} {ls : Array Slot} (hl : lv_has ls 18 [(0, .ref (ad x0)), (1, .ref (ad x1)), (2, .ref (ad x2)), (3, .ref (ad x3)), (4, .ref (ad x4)), (7, .ref (ad x7)), (8, .int x8), (10, .int x10), (12, .ref (ad x12)), (13, .int x13)]) (G : aw_G D cA base ad σ d s H locs) : W p l e rm_L_isSo s m args below meth c H locs cells slots (aw_Ej D cA base ad σ below args s 604 38656 z) (F0 m 383 ls [.int t0]) := by
  have hx := X.1; have hb := X.2.1; have hml := X.2.2.1; have hown := X.2.2.2.1
  unfold f_L_isSo_J383 at hf
  refine lv_istore (lv' := [(14, .int t0), (0, .ref (ad x0)), (1, .ref (ad x1)), (2, .ref (ad x2)), (3, .ref (ad x3)), (4, .ref (ad x4)), (7, .ref (ad x7)), (8, .int x8), (10, .int x10), (12, .ref (ad x12)), (13, .int x13)]) hx hb dL_isSo_383 hl (by decide) rfl (fun ls hl => ?_)
  refine lv_aload hx hb dL_isSo_385 (lv_at hl 5 rfl) ?_
  refine lv_bipush (v := (49 : Int32)) hx hb dL_isSo_387 (by decide) ?_
  refine lv_dup2_11 hx hb dL_isSo_389 rfl rfl ?_
  obtain ⟨hc_20, hf⟩ := aw_chk_some hf
  refine aw_ial hx hb G hc_20 dL_isSo_390 ?_
  refine lv_iconst (v := (1 : Int32)) hx hb dL_isSo_391 (by decide) ?_
  refine lv_iload hx hb dL_isSo_392 (lv_at hl 8 rfl) ?_
  refine lv_iconst (v := (3 : Int32)) hx hb dL_isSo_394 (by decide) ?_
  refine lv_irem hx hb dL_isSo_395 (by decide) ?_
  refine lv_ishl hx hb dL_isSo_396 ?_
  refine lv_ixor hx hb dL_isSo_397 ?_
  refine aw_ias hx hb G hc_20 dL_isSo_398 (fun H locs G => ?_)
  refine lv_aload_n hx hb dL_isSo_399 rfl (lv_at hl 2 rfl) ?_
  refine lv_aload_n hx hb dL_isSo_400 rfl (lv_at hl 3 rfl) ?_
  refine lv_aload_n hx hb dL_isSo_401 rfl (lv_at hl 4 rfl) ?_
  refine lv_aload hx hb dL_isSo_402 (lv_at hl 5 rfl) ?_
  refine lv_aload hx hb dL_isSo_404 (lv_at hl 6 rfl) ?_
  refine lv_iload hx hb dL_isSo_406 (lv_at hl 10 rfl) ?_
  refine lv_aload hx hb dL_isSo_408 (lv_at hl 9 rfl) ?_
  obtain ⟨z_21, hz_22, hf⟩ := aw_bind_some hf
  refine aw_SV (As := [.ref (ad x1), .ref (ad x2), .ref (ad x3), .ref (ad x4), .ref (ad x7), .int x13, .ref (ad x12)]) (rest := []) X G hl.1 cr_L_130 (c_L_spellsAll l hz_22) ⟨rfl, rfl⟩ rfl rfl rfl ⟨(Nat.le_of_ble_eq_true rfl), (Nat.le_of_ble_eq_true rfl)⟩ (Nat.le_of_ble_eq_true rfl) dL_isSo_410 ⟨by show cells + 0 ≤ 604; omega, by show slots + 0 ≤ 38656; omega⟩ (fun H locs G => ?_)
  refine lv_aload hx hb dL_isSo_413 (lv_at hl 5 rfl) ?_
  refine lv_bipush (v := (49 : Int32)) hx hb dL_isSo_415 (by decide) ?_
  refine lv_dup2_11 hx hb dL_isSo_417 rfl rfl ?_
  refine aw_ial hx hb G hc_20 dL_isSo_418 ?_
  refine lv_iconst (v := (1 : Int32)) hx hb dL_isSo_419 (by decide) ?_
  refine lv_iload hx hb dL_isSo_420 (lv_at hl 8 rfl) ?_
  refine lv_iconst (v := (3 : Int32)) hx hb dL_isSo_422 (by decide) ?_
  refine lv_irem hx hb dL_isSo_423 (by decide) ?_
  refine lv_ishl hx hb dL_isSo_424 ?_
  refine lv_ixor hx hb dL_isSo_425 ?_
  refine aw_ias hx hb G hc_20 dL_isSo_426 (fun H locs G => ?_)
  refine lv_iload hx hb dL_isSo_427 (lv_at hl 0 rfl) ?_
  refine lv_if_eq (tgt := 457) hx hb dL_isSo_429 (by decide) (fun hc => ?_) (fun hc => ?_)
  · have hf := aw_ite_t hc hf
    exact w_L_isSo_J457 X hst hwf hf ⟨by omega, by omega⟩  (lv_sub hl [] rfl) G
  · have hf := aw_ite_f hc hf
    refine lv_aload_n hx hb dL_isSo_432 rfl (lv_at hl 1 rfl) ?_
    refine lv_iload hx hb dL_isSo_433 (lv_at hl 7 rfl) ?_
    refine lv_iload hx hb dL_isSo_435 (lv_at hl 8 rfl) ?_
    refine lv_iconst (v := (3 : Int32)) hx hb dL_isSo_437 (by decide) ?_
    refine lv_irem hx hb dL_isSo_438 (by decide) ?_
    obtain ⟨hc_24, hf⟩ := aw_chk_some hf
    obtain ⟨z_25, hz_26, hf⟩ := aw_bind_some hf
    obtain ⟨v_27, hv_28, hf⟩ := aw_nt_some hf
    refine aw_CXI (As := [.int x8, .int (x10 - x10 / (3 : Int32) * (3 : Int32))]) (rest := []) X G hl.1 cr_L_175 (c_X10_loadIf l hst hz_26) rfl rfl rfl (by decide) hc_24 rfl ⟨(Nat.le_of_ble_eq_true rfl), (Nat.le_of_ble_eq_true rfl)⟩ (Nat.le_of_ble_eq_true rfl) dL_isSo_439 2 12 ⟨(Nat.le_of_ble_eq_true rfl), (Nat.le_of_ble_eq_true rfl)⟩ ⟨by show cells + 2 ≤ 604; omega, by show slots + 12 ≤ 38656; omega⟩ hv_28 (fun H locs G => ?_)
    refine lv_aload hx hb dL_isSo_442 (lv_at hl 9 rfl) ?_
    refine lv_aload_n hx hb dL_isSo_444 rfl (lv_at hl 3 rfl) ?_
    refine lv_aload hx hb dL_isSo_445 (lv_at hl 6 rfl) ?_
    obtain ⟨z_29, hz_30, hf⟩ := aw_bind_some hf
    refine aw_SI (As := [.ref (ad x12), .ref (ad x2), .ref (ad x7)]) (rest := [.int v_27]) X G hl.1 cr_L_134 (c_L_load l hz_30) ⟨rfl, rfl⟩ rfl rfl rfl ⟨(Nat.le_of_ble_eq_true rfl), (Nat.le_of_ble_eq_true rfl)⟩ (Nat.le_of_ble_eq_true rfl) dL_isSo_447 ⟨by show cells + 2 + 0 ≤ 604; omega, by show slots + 12 + 0 ≤ 38656; omega⟩ (fun H locs G => ?_)
    refine lv_icmp_ne (tgt := 457) hx hb dL_isSo_450 (by decide) (fun hc => ?_) (fun hc => ?_)
    · have hf := aw_ite_f hc hf
      exact w_L_isSo_J457 X hst hwf hf ⟨by omega, by omega⟩  (lv_sub hl [] rfl) G
    · have hf := aw_ite_t hc hf
      refine lv_iconst (v := (1 : Int32)) hx hb dL_isSo_453 (by decide) ?_
      refine lv_goto (tgt := 458) hx hb dL_isSo_454 (by decide) ?_
      exact w_L_isSo_J458 X hst hwf hf ⟨by omega, by omega⟩  (lv_sub hl [] rfl) G
set_option maxHeartbeats 4000000 in
set_option maxRecDepth 100000 in
theorem w_L_isSo_J382 {z : Int32 × Dt} (X : aw_X p c cL_isSo 18 s RL m meth (some .boolean)) (hst : l.stackTraces = false) (hwf : aw_wf σ) {x0 : Nat} {x1 : Nat} {x2 : Nat} {x3 : Nat} {x4 : Nat} {x7 : Nat} {x8 : Int32} {x10 : Int32} {x12 : Nat} {x13 : Int32} {d : Dt} (hf : f_L_isSo_J382 σ x0 x1 x2 x3 x4 x7 x8 x10 x12 x13 d = some z) { cells slots : Nat} (hB : cells + (2) ≤ 604 ∧ slots + 64 * (2) ≤ 38656)  {H : Heap} {locs : List Loc} {ls : Array Slot} (hl : lv_has ls 18 [(0, .ref (ad x0)), (1, .ref (ad x1)), (2, .ref (ad x2)), (3, .ref (ad x3)), (4, .ref (ad x4)), (7, .ref (ad x7)), (8, .int x8), (10, .int x10), (12, .ref (ad x12)), (13, .int x13)]) (G : aw_G D cA base ad σ d s H locs) : W p l e rm_L_isSo s m args below meth c H locs cells slots (aw_Ej D cA base ad σ below args s 604 38656 z) (F0 m 382 ls []) := by
  have hx := X.1; have hb := X.2.1; have hml := X.2.2.1; have hown := X.2.2.2.1
  unfold f_L_isSo_J382 at hf
  refine lv_iconst (v := (0 : Int32)) hx hb dL_isSo_382 (by decide) ?_
  exact w_L_isSo_J383 X hst hwf hf ⟨by omega, by omega⟩  (lv_sub hl [0, 1, 2, 3, 4, 5, 6, 7, 8, 9] rfl) G
set_option maxHeartbeats 4000000 in
set_option maxRecDepth 100000 in
theorem w_L_isSo_J334 {z : Int32 × Dt} (X : aw_X p c cL_isSo 18 s RL m meth (some .boolean)) (hst : l.stackTraces = false) (hwf : aw_wf σ) {x0 : Nat} {x1 : Nat} {x2 : Nat} {x3 : Nat} {x4 : Nat} {x7 : Nat} {x8 : Int32} {x9 : Int32} {x10 : Int32} {x11 : Nat} {x12 : Nat} {x13 : Int32} {x14 : Int32} {d : Dt} (hf : f_L_isSo_J334 σ x0 x1 x2 x3 x4 x7 x8 x9 x10 x11 x12 x13 x14 d = some z) { cells slots : Nat} (hB : cells + (4) ≤ 604 ∧ slots + 64 * (4) ≤ 38656)  {H : Heap} {locs : List Loc} {ls : Array Slot} (hl : lv_has ls 18 [(0, .ref (ad x0)), (1, .ref (ad x1)), (2, .ref (ad x2)), (3, .ref (ad x3)), (4, .ref (ad x4)), (7, .ref (ad x7)), (8, .int x8), (9, .int x9), (10, .int x10), (11, .ref (ad x11)), (12, .ref (ad x12)), (13, .int x13), (14, .int x14)]) (G : aw_G D cA base ad σ d s H locs) : W p l e rm_L_isSo s m args below meth c H locs cells slots (aw_Ej D cA base ad σ below args s 604 38656 z) (F0 m 334 ls []) := by
  have hx := X.1; have hb := X.2.1; have hml := X.2.2.1; have hown := X.2.2.2.1
  unfold f_L_isSo_J334 at hf
  refine lv_aload_n hx hb dL_isSo_334 rfl (lv_at hl 1 rfl) ?_
  refine lv_aload_n hx hb dL_isSo_335 rfl (lv_at hl 2 rfl) ?_
  refine lv_aload_n hx hb dL_isSo_336 rfl (lv_at hl 3 rfl) ?_
  refine lv_aload hx hb dL_isSo_337 (lv_at hl 4 rfl) ?_
  refine lv_aload hx hb dL_isSo_339 (lv_at hl 5 rfl) ?_
  refine lv_iload hx hb dL_isSo_341 (lv_at hl 7 rfl) ?_
  refine lv_iconst (v := (3 : Int32)) hx hb dL_isSo_343 (by decide) ?_
  refine lv_irem hx hb dL_isSo_344 (by decide) ?_
  refine lv_aload hx hb dL_isSo_345 (lv_at hl 10 rfl) ?_
  obtain ⟨z_18, hz_19, hf⟩ := aw_bind_some hf
  refine aw_SV (As := [.ref (ad x1), .ref (ad x2), .ref (ad x3), .ref (ad x4), .ref (ad x7), .int (x9 - x9 / (3 : Int32) * (3 : Int32)), .ref (ad x12)]) (rest := []) X G hl.1 cr_L_130 (c_L_spellsAll l hz_19) ⟨rfl, rfl⟩ rfl rfl rfl ⟨(Nat.le_of_ble_eq_true rfl), (Nat.le_of_ble_eq_true rfl)⟩ (Nat.le_of_ble_eq_true rfl) dL_isSo_347 ⟨by show cells + 0 ≤ 604; omega, by show slots + 0 ≤ 38656; omega⟩ (fun H locs G => ?_)
  refine lv_iload hx hb dL_isSo_350 (lv_at hl 12 rfl) ?_
  refine lv_if_eq (tgt := 382) hx hb dL_isSo_352 (by decide) (fun hc => ?_) (fun hc => ?_)
  · have hf := aw_ite_t hc hf
    exact w_L_isSo_J382 X hst hwf hf ⟨by omega, by omega⟩  (lv_sub hl [0, 1, 2, 3, 4, 5, 6, 8, 10, 11] rfl) G
  · have hf := aw_ite_f hc hf
    refine lv_aload_n hx hb dL_isSo_355 rfl (lv_at hl 0 rfl) ?_
    refine lv_iload hx hb dL_isSo_356 (lv_at hl 6 rfl) ?_
    refine lv_iload hx hb dL_isSo_358 (lv_at hl 7 rfl) ?_
    refine lv_iconst (v := (3 : Int32)) hx hb dL_isSo_360 (by decide) ?_
    refine lv_irem hx hb dL_isSo_361 (by decide) ?_
    obtain ⟨hc_31, hf⟩ := aw_chk_some hf
    obtain ⟨z_32, hz_33, hf⟩ := aw_bind_some hf
    obtain ⟨v_34, hv_35, hf⟩ := aw_nt_some hf
    refine aw_CXI (As := [.int x8, .int (x9 - x9 / (3 : Int32) * (3 : Int32))]) (rest := []) X G hl.1 cr_L_173 (c_X10_fit l hst hz_33) rfl rfl rfl (by decide) hc_31 rfl ⟨(Nat.le_of_ble_eq_true rfl), (Nat.le_of_ble_eq_true rfl)⟩ (Nat.le_of_ble_eq_true rfl) dL_isSo_362 2 12 ⟨(Nat.le_of_ble_eq_true rfl), (Nat.le_of_ble_eq_true rfl)⟩ ⟨by show cells + 2 ≤ 604; omega, by show slots + 12 ≤ 38656; omega⟩ hv_35 (fun H locs G => ?_)
    refine lv_aload hx hb dL_isSo_365 (lv_at hl 9 rfl) ?_
    refine lv_aload hx hb dL_isSo_367 (lv_at hl 10 rfl) ?_
    refine lv_aload_n hx hb dL_isSo_369 rfl (lv_at hl 2 rfl) ?_
    refine lv_aload hx hb dL_isSo_370 (lv_at hl 5 rfl) ?_
    obtain ⟨z_36, hz_37, hf⟩ := aw_bind_some hf
    refine aw_SI (As := [.ref (ad x11), .ref (ad x12), .ref (ad x2), .ref (ad x7)]) (rest := [.int v_34]) X G hl.1 cr_L_138 (c_L_fit l hz_37) ⟨rfl, rfl⟩ rfl rfl rfl ⟨(Nat.le_of_ble_eq_true rfl), (Nat.le_of_ble_eq_true rfl)⟩ (Nat.le_of_ble_eq_true rfl) dL_isSo_372 ⟨by show cells + 2 + 0 ≤ 604; omega, by show slots + 12 + 0 ≤ 38656; omega⟩ (fun H locs G => ?_)
    refine lv_icmp_ne (tgt := 382) hx hb dL_isSo_375 (by decide) (fun hc => ?_) (fun hc => ?_)
    · have hf := aw_ite_f hc hf
      exact w_L_isSo_J382 X hst hwf hf ⟨by omega, by omega⟩  (lv_sub hl [0, 1, 2, 3, 4, 5, 6, 8, 10, 11] rfl) G
    · have hf := aw_ite_t hc hf
      refine lv_iconst (v := (1 : Int32)) hx hb dL_isSo_378 (by decide) ?_
      refine lv_goto (tgt := 383) hx hb dL_isSo_379 (by decide) ?_
      exact w_L_isSo_J383 X hst hwf hf ⟨by omega, by omega⟩  (lv_sub hl [0, 1, 2, 3, 4, 5, 6, 8, 10, 11] rfl) G
set_option maxHeartbeats 4000000 in
set_option maxRecDepth 100000 in
theorem w_L_isSo_J332 {z : Int32 × Dt} (X : aw_X p c cL_isSo 18 s RL m meth (some .boolean)) (hst : l.stackTraces = false) (hwf : aw_wf σ) {t0 : Int32} {x0 : Nat} {x1 : Nat} {x2 : Nat} {x3 : Nat} {x4 : Nat} {x7 : Nat} {x8 : Int32} {x9 : Int32} {x10 : Int32} {x11 : Nat} {x12 : Nat} {x13 : Int32} {d : Dt} (hf : f_L_isSo_J332 σ t0 x0 x1 x2 x3 x4 x7 x8 x9 x10 x11 x12 x13 d = some z) { cells slots : Nat} (hB : cells + (4) ≤ 604 ∧ slots + 64 * (4) ≤ 38656)  {H : Heap} {locs : List Loc} {ls : Array Slot} (hl : lv_has ls 18 [(0, .ref (ad x0)), (1, .ref (ad x1)), (2, .ref (ad x2)), (3, .ref (ad x3)), (4, .ref (ad x4)), (7, .ref (ad x7)), (8, .int x8), (9, .int x9), (10, .int x10), (11, .ref (ad x11)), (12, .ref (ad x12)), (13, .int x13)]) (G : aw_G D cA base ad σ d s H locs) : W p l e rm_L_isSo s m args below meth c H locs cells slots (aw_Ej D cA base ad σ below args s 604 38656 z) (F0 m 332 ls [.int t0]) := by
  have hx := X.1; have hb := X.2.1; have hml := X.2.2.1; have hown := X.2.2.2.1
  unfold f_L_isSo_J332 at hf
  refine lv_istore (lv' := [(14, .int t0), (0, .ref (ad x0)), (1, .ref (ad x1)), (2, .ref (ad x2)), (3, .ref (ad x3)), (4, .ref (ad x4)), (7, .ref (ad x7)), (8, .int x8), (9, .int x9), (10, .int x10), (11, .ref (ad x11)), (12, .ref (ad x12)), (13, .int x13)]) hx hb dL_isSo_332 hl (by decide) rfl (fun ls hl => ?_)
  exact w_L_isSo_J334 X hst hwf hf ⟨by omega, by omega⟩  (lv_sub hl [1, 2, 3, 4, 5, 6, 7, 8, 9, 10, 11, 12, 0] rfl) G
set_option maxHeartbeats 4000000 in
set_option maxRecDepth 100000 in
theorem w_L_isSo_J331 {z : Int32 × Dt} (X : aw_X p c cL_isSo 18 s RL m meth (some .boolean)) (hst : l.stackTraces = false) (hwf : aw_wf σ) {x0 : Nat} {x1 : Nat} {x2 : Nat} {x3 : Nat} {x4 : Nat} {x7 : Nat} {x8 : Int32} {x9 : Int32} {x10 : Int32} {x11 : Nat} {x12 : Nat} {x13 : Int32} {d : Dt} (hf : f_L_isSo_J331 σ x0 x1 x2 x3 x4 x7 x8 x9 x10 x11 x12 x13 d = some z) { cells slots : Nat} (hB : cells + (4) ≤ 604 ∧ slots + 64 * (4) ≤ 38656)  {H : Heap} {locs : List Loc} {ls : Array Slot} (hl : lv_has ls 18 [(0, .ref (ad x0)), (1, .ref (ad x1)), (2, .ref (ad x2)), (3, .ref (ad x3)), (4, .ref (ad x4)), (7, .ref (ad x7)), (8, .int x8), (9, .int x9), (10, .int x10), (11, .ref (ad x11)), (12, .ref (ad x12)), (13, .int x13)]) (G : aw_G D cA base ad σ d s H locs) : W p l e rm_L_isSo s m args below meth c H locs cells slots (aw_Ej D cA base ad σ below args s 604 38656 z) (F0 m 331 ls []) := by
  have hx := X.1; have hb := X.2.1; have hml := X.2.2.1; have hown := X.2.2.2.1
  unfold f_L_isSo_J331 at hf
  refine lv_iconst (v := (0 : Int32)) hx hb dL_isSo_331 (by decide) ?_
  exact w_L_isSo_J332 X hst hwf hf ⟨by omega, by omega⟩  (lv_sub hl [0, 1, 2, 3, 4, 5, 6, 7, 8, 9, 10, 11] rfl) G
set_option maxHeartbeats 4000000 in
set_option maxRecDepth 100000 in
theorem w_L_isSo_J327 {z : Int32 × Dt} (X : aw_X p c cL_isSo 18 s RL m meth (some .boolean)) (hst : l.stackTraces = false) (hwf : aw_wf σ) {x0 : Nat} {x1 : Nat} {x2 : Nat} {x3 : Nat} {x4 : Nat} {x7 : Nat} {x8 : Int32} {x9 : Int32} {x10 : Int32} {x11 : Nat} {x12 : Nat} {x13 : Int32} {d : Dt} (hf : f_L_isSo_J327 σ x0 x1 x2 x3 x4 x7 x8 x9 x10 x11 x12 x13 d = some z) { cells slots : Nat} (hB : cells + (4) ≤ 604 ∧ slots + 64 * (4) ≤ 38656)  {H : Heap} {locs : List Loc} {ls : Array Slot} (hl : lv_has ls 18 [(0, .ref (ad x0)), (1, .ref (ad x1)), (2, .ref (ad x2)), (3, .ref (ad x3)), (4, .ref (ad x4)), (7, .ref (ad x7)), (8, .int x8), (9, .int x9), (10, .int x10), (11, .ref (ad x11)), (12, .ref (ad x12)), (13, .int x13)]) (G : aw_G D cA base ad σ d s H locs) : W p l e rm_L_isSo s m args below meth c H locs cells slots (aw_Ej D cA base ad σ below args s 604 38656 z) (F0 m 327 ls []) := by
  have hx := X.1; have hb := X.2.1; have hml := X.2.2.1; have hown := X.2.2.2.1
  unfold f_L_isSo_J327 at hf
  refine lv_iconst (v := (1 : Int32)) hx hb dL_isSo_327 (by decide) ?_
  refine lv_goto (tgt := 332) hx hb dL_isSo_328 (by decide) ?_
  exact w_L_isSo_J332 X hst hwf hf ⟨by omega, by omega⟩  (lv_sub hl [0, 1, 2, 3, 4, 5, 6, 7, 8, 9, 10, 11] rfl) G
set_option maxHeartbeats 4000000 in
set_option maxRecDepth 100000 in
theorem w_L_isSo_J246 {z : Int32 × Dt} (X : aw_X p c cL_isSo 18 s RL m meth (some .boolean)) (hst : l.stackTraces = false) (hwf : aw_wf σ) {x0 : Nat} {x1 : Nat} {x2 : Nat} {x3 : Nat} {x4 : Nat} {x7 : Nat} {x8 : Int32} {x9 : Int32} {x10 : Int32} {x11 : Nat} {x12 : Nat} {x13 : Int32} {x14 : Int32} {d : Dt} (hf : f_L_isSo_J246 σ x0 x1 x2 x3 x4 x7 x8 x9 x10 x11 x12 x13 x14 d = some z) { cells slots : Nat} (hB : cells + (10) ≤ 604 ∧ slots + 64 * (10) ≤ 38656)  {H : Heap} {locs : List Loc} {ls : Array Slot} (hl : lv_has ls 18 [(0, .ref (ad x0)), (1, .ref (ad x1)), (2, .ref (ad x2)), (3, .ref (ad x3)), (4, .ref (ad x4)), (7, .ref (ad x7)), (8, .int x8), (9, .int x9), (10, .int x10), (11, .ref (ad x11)), (12, .ref (ad x12)), (13, .int x13), (14, .int x14)]) (G : aw_G D cA base ad σ d s H locs) : W p l e rm_L_isSo s m args below meth c H locs cells slots (aw_Ej D cA base ad σ below args s 604 38656 z) (F0 m 246 ls []) := by
  have hx := X.1; have hb := X.2.1; have hml := X.2.2.1; have hown := X.2.2.2.1
  unfold f_L_isSo_J246 at hf
  refine lv_iload hx hb dL_isSo_246 (lv_at hl 12 rfl) ?_
  refine lv_if_eq (tgt := 334) hx hb dL_isSo_248 (by decide) (fun hc => ?_) (fun hc => ?_)
  · have hf := aw_ite_t hc hf
    exact w_L_isSo_J334 X hst hwf hf ⟨by omega, by omega⟩  (lv_sub hl [0, 1, 2, 3, 4, 5, 6, 7, 8, 9, 10, 11, 12] rfl) G
  · have hf := aw_ite_f hc hf
    refine lv_iload hx hb dL_isSo_251 (lv_at hl 7 rfl) ?_
    refine lv_iconst (v := (5 : Int32)) hx hb dL_isSo_253 (by decide) ?_
    refine lv_irem hx hb dL_isSo_254 (by decide) ?_
    refine lv_if_ne (tgt := 334) hx hb dL_isSo_255 (by decide) (fun hc => ?_) (fun hc => ?_)
    · have hf := aw_ite_f hc hf
      exact w_L_isSo_J334 X hst hwf hf ⟨by omega, by omega⟩  (lv_sub hl [0, 1, 2, 3, 4, 5, 6, 7, 8, 9, 10, 11, 12] rfl) G
    · have hf := aw_ite_t hc hf
      refine lv_aload hx hb dL_isSo_258 (lv_at hl 5 rfl) ?_
      refine lv_iconst (v := (0 : Int32)) hx hb dL_isSo_260 (by decide) ?_
      obtain ⟨hc_38, hf⟩ := aw_chk_some hf
      refine aw_ial hx hb G hc_38 dL_isSo_261 ?_
      refine lv_if_le (tgt := 334) hx hb dL_isSo_262 (by decide) (fun hc => ?_) (fun hc => ?_)
      · have hf := aw_ite_t hc hf
        exact w_L_isSo_J334 X hst hwf hf ⟨by omega, by omega⟩  (lv_sub hl [0, 1, 2, 3, 4, 5, 6, 7, 8, 9, 10, 11, 12] rfl) G
      · have hf := aw_ite_f hc hf
        refine lv_iload hx hb dL_isSo_265 (lv_at hl 8 rfl) ?_
        refine lv_aload hx hb dL_isSo_267 (lv_at hl 5 rfl) ?_
        refine lv_iconst (v := (0 : Int32)) hx hb dL_isSo_269 (by decide) ?_
        refine aw_ial hx hb G hc_38 dL_isSo_270 ?_
        obtain ⟨hc_39, hf⟩ := aw_chk_some hf
        refine lv_irem hx hb dL_isSo_271 hc_39 ?_
        refine lv_istore (lv' := [(15, .int (x10 - x10 / (d.1 x7 ((0 : Int32)).toNatClampNeg) * (d.1 x7 ((0 : Int32)).toNatClampNeg))), (0, .ref (ad x0)), (1, .ref (ad x1)), (2, .ref (ad x2)), (3, .ref (ad x3)), (4, .ref (ad x4)), (7, .ref (ad x7)), (8, .int x8), (9, .int x9), (10, .int x10), (11, .ref (ad x11)), (12, .ref (ad x12)), (13, .int x13), (14, .int x14)]) hx hb dL_isSo_272 hl (by decide) rfl (fun ls hl => ?_)
        refine lv_aload hx hb dL_isSo_274 (lv_at hl 5 rfl) ?_
        refine lv_aload hx hb dL_isSo_276 (lv_at hl 10 rfl) ?_
        refine lv_iload hx hb dL_isSo_278 (lv_at hl 0 rfl) ?_
        obtain ⟨z_40, hz_41, hf⟩ := aw_bind_some hf
        refine aw_TL (As := [.ref (ad x4), .ref (ad x11), .int (x10 - x10 / (d.1 x7 ((0 : Int32)).toNatClampNeg) * (d.1 x7 ((0 : Int32)).toNatClampNeg))]) (rest := []) X G hl.1 cr_L_163 (c_L_readings l hst hwf hz_41) rfl rfl rfl ⟨(Nat.le_of_ble_eq_true rfl), (Nat.le_of_ble_eq_true rfl)⟩ (Nat.le_of_ble_eq_true rfl) dL_isSo_280 2 128 ⟨(Nat.le_of_ble_eq_true rfl), (Nat.le_of_ble_eq_true rfl)⟩ ⟨by show cells + 2 ≤ 604; omega, by show slots + 128 ≤ 38656; omega⟩ (fun H locs G => ?_)
        refine lv_lstore (lv' := [(16, .long z_40.1), (15, .int (x10 - x10 / (d.1 x7 ((0 : Int32)).toNatClampNeg) * (d.1 x7 ((0 : Int32)).toNatClampNeg))), (0, .ref (ad x0)), (1, .ref (ad x1)), (2, .ref (ad x2)), (3, .ref (ad x3)), (4, .ref (ad x4)), (7, .ref (ad x7)), (8, .int x8), (9, .int x9), (10, .int x10), (11, .ref (ad x11)), (12, .ref (ad x12)), (13, .int x13), (14, .int x14)]) hx hb dL_isSo_283 hl (by decide) rfl (fun ls hl => ?_)
        refine lv_aload_n hx hb dL_isSo_285 rfl (lv_at hl 2 rfl) ?_
        refine lv_iload hx hb dL_isSo_286 (lv_at hl 8 rfl) ?_
        refine lv_iload hx hb dL_isSo_288 (lv_at hl 1 rfl) ?_
        obtain ⟨hc_42, hf⟩ := aw_chk_some hf
        obtain ⟨z_43, hz_44, hf⟩ := aw_bind_some hf
        obtain ⟨v_45, hv_46, hf⟩ := aw_nt_some hf
        refine aw_CXL (As := [.int x8, .int (x10 - x10 / (d.1 x7 ((0 : Int32)).toNatClampNeg) * (d.1 x7 ((0 : Int32)).toNatClampNeg))]) (rest := []) X G hl.1 cr_L_167 (c_X10_readings l hst hz_44) rfl rfl rfl (by decide) hc_42 rfl ⟨(Nat.le_of_ble_eq_true rfl), (Nat.le_of_ble_eq_true rfl)⟩ (Nat.le_of_ble_eq_true rfl) dL_isSo_290 2 12 ⟨(Nat.le_of_ble_eq_true rfl), (Nat.le_of_ble_eq_true rfl)⟩ ⟨by show cells + 2 + 2 ≤ 604; omega, by show slots + 128 + 12 ≤ 38656; omega⟩ hv_46 (fun H locs G => ?_)
        refine lv_lload hx hb dL_isSo_293 (lv_at hl 0 rfl) ?_
        refine W.lcmp hx hb dL_isSo_295 ?_
        refine lv_if_ne (tgt := 331) hx hb dL_isSo_296 (by decide) (fun hc => ?_) (fun hc => ?_)
        · have hf := aw_ite_f hc hf
          exact w_L_isSo_J331 X hst hwf hf ⟨by omega, by omega⟩  (lv_sub hl [2, 3, 4, 5, 6, 7, 8, 9, 10, 11, 12, 13] rfl) G
        · have hf := aw_ite_t hc hf
          refine lv_lload hx hb dL_isSo_299 (lv_at hl 0 rfl) ?_
          refine lv_lconst (v := (0 : Int64)) hx hb dL_isSo_301 (by decide) ?_
          refine W.lcmp hx hb dL_isSo_302 ?_
          refine lv_if_le (tgt := 331) hx hb dL_isSo_303 (by decide) (fun hc => ?_) (fun hc => ?_)
          · have hf := aw_ite_t hc hf
            exact w_L_isSo_J331 X hst hwf hf ⟨by omega, by omega⟩  (lv_sub hl [2, 3, 4, 5, 6, 7, 8, 9, 10, 11, 12, 13] rfl) G
          · have hf := aw_ite_f hc hf
            refine lv_iload hx hb dL_isSo_306 (lv_at hl 10 rfl) ?_
            refine lv_iconst (v := (4 : Int32)) hx hb dL_isSo_308 (by decide) ?_
            refine lv_irem hx hb dL_isSo_309 (by decide) ?_
            refine lv_if_gt (tgt := 327) hx hb dL_isSo_310 (by decide) (fun hc => ?_) (fun hc => ?_)
            · have hf := aw_ite_t hc hf
              exact w_L_isSo_J327 X hst hwf hf ⟨by omega, by omega⟩  (lv_sub hl [2, 3, 4, 5, 6, 7, 8, 9, 10, 11, 12, 13] rfl) G
            · have hf := aw_ite_f hc hf
              refine lv_aload_n hx hb dL_isSo_313 rfl (lv_at hl 2 rfl) ?_
              refine lv_iload hx hb dL_isSo_314 (lv_at hl 8 rfl) ?_
              refine lv_iload hx hb dL_isSo_316 (lv_at hl 1 rfl) ?_
              obtain ⟨z_47, hz_48, hf⟩ := aw_bind_some hf
              obtain ⟨v_49, hv_50, hf⟩ := aw_nt_some hf
              refine aw_CXL (As := [.int x8, .int (x10 - x10 / (d.1 x7 ((0 : Int32)).toNatClampNeg) * (d.1 x7 ((0 : Int32)).toNatClampNeg))]) (rest := []) X G hl.1 cr_L_170 (c_X10_readingsAnew l hst hz_48) rfl rfl rfl (by decide) hc_42 rfl ⟨(Nat.le_of_ble_eq_true rfl), (Nat.le_of_ble_eq_true rfl)⟩ (Nat.le_of_ble_eq_true rfl) dL_isSo_318 2 12 ⟨(Nat.le_of_ble_eq_true rfl), (Nat.le_of_ble_eq_true rfl)⟩ ⟨by show cells + 2 + 2 + 2 ≤ 604; omega, by show slots + 128 + 12 + 12 ≤ 38656; omega⟩ hv_50 (fun H locs G => ?_)
              refine lv_lload hx hb dL_isSo_321 (lv_at hl 0 rfl) ?_
              refine W.lcmp hx hb dL_isSo_323 ?_
              refine lv_if_ne (tgt := 331) hx hb dL_isSo_324 (by decide) (fun hc => ?_) (fun hc => ?_)
              · have hf := aw_ite_f hc hf
                exact w_L_isSo_J331 X hst hwf hf ⟨by omega, by omega⟩  (lv_sub hl [2, 3, 4, 5, 6, 7, 8, 9, 10, 11, 12, 13] rfl) G
              · have hf := aw_ite_t hc hf
                exact w_L_isSo_J327 X hst hwf hf ⟨by omega, by omega⟩  (lv_sub hl [2, 3, 4, 5, 6, 7, 8, 9, 10, 11, 12, 13] rfl) G
set_option maxHeartbeats 4000000 in
set_option maxRecDepth 100000 in
theorem w_L_isSo_J244 {z : Int32 × Dt} (X : aw_X p c cL_isSo 18 s RL m meth (some .boolean)) (hst : l.stackTraces = false) (hwf : aw_wf σ) {t0 : Int32} {x0 : Nat} {x1 : Nat} {x2 : Nat} {x3 : Nat} {x4 : Nat} {x7 : Nat} {x8 : Int32} {x9 : Int32} {x10 : Int32} {x11 : Nat} {x12 : Nat} {x13 : Int32} {d : Dt} (hf : f_L_isSo_J244 σ t0 x0 x1 x2 x3 x4 x7 x8 x9 x10 x11 x12 x13 d = some z) { cells slots : Nat} (hB : cells + (10) ≤ 604 ∧ slots + 64 * (10) ≤ 38656)  {H : Heap} {locs : List Loc} {ls : Array Slot} (hl : lv_has ls 18 [(0, .ref (ad x0)), (1, .ref (ad x1)), (2, .ref (ad x2)), (3, .ref (ad x3)), (4, .ref (ad x4)), (7, .ref (ad x7)), (8, .int x8), (9, .int x9), (10, .int x10), (11, .ref (ad x11)), (12, .ref (ad x12)), (13, .int x13)]) (G : aw_G D cA base ad σ d s H locs) : W p l e rm_L_isSo s m args below meth c H locs cells slots (aw_Ej D cA base ad σ below args s 604 38656 z) (F0 m 244 ls [.int t0]) := by
  have hx := X.1; have hb := X.2.1; have hml := X.2.2.1; have hown := X.2.2.2.1
  unfold f_L_isSo_J244 at hf
  refine lv_istore (lv' := [(14, .int t0), (0, .ref (ad x0)), (1, .ref (ad x1)), (2, .ref (ad x2)), (3, .ref (ad x3)), (4, .ref (ad x4)), (7, .ref (ad x7)), (8, .int x8), (9, .int x9), (10, .int x10), (11, .ref (ad x11)), (12, .ref (ad x12)), (13, .int x13)]) hx hb dL_isSo_244 hl (by decide) rfl (fun ls hl => ?_)
  exact w_L_isSo_J246 X hst hwf hf ⟨by omega, by omega⟩  (lv_sub hl [1, 2, 3, 4, 5, 6, 7, 8, 9, 10, 11, 12, 0] rfl) G
set_option maxHeartbeats 4000000 in
set_option maxRecDepth 100000 in
theorem w_L_isSo_J243 {z : Int32 × Dt} (X : aw_X p c cL_isSo 18 s RL m meth (some .boolean)) (hst : l.stackTraces = false) (hwf : aw_wf σ) {x0 : Nat} {x1 : Nat} {x2 : Nat} {x3 : Nat} {x4 : Nat} {x7 : Nat} {x8 : Int32} {x9 : Int32} {x10 : Int32} {x11 : Nat} {x12 : Nat} {x13 : Int32} {d : Dt} (hf : f_L_isSo_J243 σ x0 x1 x2 x3 x4 x7 x8 x9 x10 x11 x12 x13 d = some z) { cells slots : Nat} (hB : cells + (10) ≤ 604 ∧ slots + 64 * (10) ≤ 38656)  {H : Heap} {locs : List Loc} {ls : Array Slot} (hl : lv_has ls 18 [(0, .ref (ad x0)), (1, .ref (ad x1)), (2, .ref (ad x2)), (3, .ref (ad x3)), (4, .ref (ad x4)), (7, .ref (ad x7)), (8, .int x8), (9, .int x9), (10, .int x10), (11, .ref (ad x11)), (12, .ref (ad x12)), (13, .int x13)]) (G : aw_G D cA base ad σ d s H locs) : W p l e rm_L_isSo s m args below meth c H locs cells slots (aw_Ej D cA base ad σ below args s 604 38656 z) (F0 m 243 ls []) := by
  have hx := X.1; have hb := X.2.1; have hml := X.2.2.1; have hown := X.2.2.2.1
  unfold f_L_isSo_J243 at hf
  refine lv_iconst (v := (0 : Int32)) hx hb dL_isSo_243 (by decide) ?_
  exact w_L_isSo_J244 X hst hwf hf ⟨by omega, by omega⟩  (lv_sub hl [0, 1, 2, 3, 4, 5, 6, 7, 8, 9, 10, 11] rfl) G
set_option maxHeartbeats 4000000 in
set_option maxRecDepth 100000 in
theorem w_L_isSo_J180 {z : Int32 × Dt} (X : aw_X p c cL_isSo 18 s RL m meth (some .boolean)) (hst : l.stackTraces = false) (hwf : aw_wf σ) {t0 : Int32} {x0 : Nat} {x1 : Nat} {x2 : Nat} {x3 : Nat} {x4 : Nat} {x6 : Nat} {x7 : Nat} {x8 : Int32} {x9 : Int32} {x10 : Int32} {x11 : Nat} {x12 : Nat} {x13 : Int32} {d : Dt} (hf : f_L_isSo_J180 σ t0 x0 x1 x2 x3 x4 x6 x7 x8 x9 x10 x11 x12 x13 d = some z) { cells slots : Nat} (hB : cells + (121) ≤ 604 ∧ slots + 64 * (121) ≤ 38656)  {H : Heap} {locs : List Loc} {ls : Array Slot} (hl : lv_has ls 18 [(0, .ref (ad x0)), (1, .ref (ad x1)), (2, .ref (ad x2)), (3, .ref (ad x3)), (4, .ref (ad x4)), (6, .ref (ad x6)), (7, .ref (ad x7)), (8, .int x8), (9, .int x9), (10, .int x10), (11, .ref (ad x11)), (12, .ref (ad x12)), (13, .int x13)]) (G : aw_G D cA base ad σ d s H locs) : W p l e rm_L_isSo s m args below meth c H locs cells slots (aw_Ej D cA base ad σ below args s 604 38656 z) (F0 m 180 ls [.int t0]) := by
  have hx := X.1; have hb := X.2.1; have hml := X.2.2.1; have hown := X.2.2.2.1
  unfold f_L_isSo_J180 at hf
  refine lv_istore (lv' := [(14, .int t0), (0, .ref (ad x0)), (1, .ref (ad x1)), (2, .ref (ad x2)), (3, .ref (ad x3)), (4, .ref (ad x4)), (6, .ref (ad x6)), (7, .ref (ad x7)), (8, .int x8), (9, .int x9), (10, .int x10), (11, .ref (ad x11)), (12, .ref (ad x12)), (13, .int x13)]) hx hb dL_isSo_180 hl (by decide) rfl (fun ls hl => ?_)
  refine lv_iload hx hb dL_isSo_182 (lv_at hl 0 rfl) ?_
  refine lv_if_eq (tgt := 246) hx hb dL_isSo_184 (by decide) (fun hc => ?_) (fun hc => ?_)
  · have hf := aw_ite_t hc hf
    exact w_L_isSo_J246 X hst hwf hf ⟨by omega, by omega⟩  (lv_sub hl [1, 2, 3, 4, 5, 7, 8, 9, 10, 11, 12, 13, 0] rfl) G
  · have hf := aw_ite_f hc hf
    refine lv_iload hx hb dL_isSo_187 (lv_at hl 9 rfl) ?_
    refine lv_iconst (v := (3 : Int32)) hx hb dL_isSo_189 (by decide) ?_
    refine lv_irem hx hb dL_isSo_190 (by decide) ?_
    refine lv_if_ne (tgt := 246) hx hb dL_isSo_191 (by decide) (fun hc => ?_) (fun hc => ?_)
    · have hf := aw_ite_f hc hf
      exact w_L_isSo_J246 X hst hwf hf ⟨by omega, by omega⟩  (lv_sub hl [1, 2, 3, 4, 5, 7, 8, 9, 10, 11, 12, 13, 0] rfl) G
    · have hf := aw_ite_t hc hf
      refine lv_iload hx hb dL_isSo_194 (lv_at hl 10 rfl) ?_
      refine lv_iconst (v := (5 : Int32)) hx hb dL_isSo_196 (by decide) ?_
      refine lv_irem hx hb dL_isSo_197 (by decide) ?_
      refine lv_istore (lv' := [(15, .int (x10 - x10 / (5 : Int32) * (5 : Int32))), (14, .int t0), (0, .ref (ad x0)), (1, .ref (ad x1)), (2, .ref (ad x2)), (3, .ref (ad x3)), (4, .ref (ad x4)), (6, .ref (ad x6)), (7, .ref (ad x7)), (8, .int x8), (9, .int x9), (10, .int x10), (11, .ref (ad x11)), (12, .ref (ad x12)), (13, .int x13)]) hx hb dL_isSo_198 hl (by decide) rfl (fun ls hl => ?_)
      refine lv_aload_n hx hb dL_isSo_200 rfl (lv_at hl 2 rfl) ?_
      refine lv_iload hx hb dL_isSo_201 (lv_at hl 9 rfl) ?_
      refine lv_iload hx hb dL_isSo_203 (lv_at hl 0 rfl) ?_
      obtain ⟨hc_51, hf⟩ := aw_chk_some hf
      obtain ⟨z_52, hz_53, hf⟩ := aw_bind_some hf
      obtain ⟨v_54, hv_55, hf⟩ := aw_nt_some hf
      refine aw_CXI (As := [.int x8, .int (x10 - x10 / (5 : Int32) * (5 : Int32))]) (rest := []) X G hl.1 cr_L_49 (c_X10_errors l hst hz_53) rfl rfl rfl (by decide) hc_51 rfl ⟨(Nat.le_of_ble_eq_true rfl), (Nat.le_of_ble_eq_true rfl)⟩ (Nat.le_of_ble_eq_true rfl) dL_isSo_205 2 12 ⟨(Nat.le_of_ble_eq_true rfl), (Nat.le_of_ble_eq_true rfl)⟩ ⟨by show cells + 2 ≤ 604; omega, by show slots + 12 ≤ 38656; omega⟩ hv_55 (fun H locs G => ?_)
      refine lv_aload hx hb dL_isSo_208 (lv_at hl 6 rfl) ?_
      refine lv_aload hx hb dL_isSo_210 (lv_at hl 7 rfl) ?_
      refine lv_aload hx hb dL_isSo_212 (lv_at hl 12 rfl) ?_
      refine lv_aload_n hx hb dL_isSo_214 rfl (lv_at hl 4 rfl) ?_
      refine lv_aload hx hb dL_isSo_215 (lv_at hl 8 rfl) ?_
      refine lv_iload hx hb dL_isSo_217 (lv_at hl 0 rfl) ?_
      obtain ⟨z_56, hz_57, hf⟩ := aw_bind_some hf
      refine aw_SI (As := [.ref (ad x4), .ref (ad x6), .ref (ad x11), .ref (ad x2), .ref (ad x7), .int (x10 - x10 / (5 : Int32) * (5 : Int32))]) (rest := [.int v_54]) X G hl.1 cr_L_156 (c_L_errors l hz_57) ⟨rfl, rfl⟩ rfl rfl rfl ⟨(Nat.le_of_ble_eq_true rfl), (Nat.le_of_ble_eq_true rfl)⟩ (Nat.le_of_ble_eq_true rfl) dL_isSo_219 ⟨by show cells + 2 + 0 ≤ 604; omega, by show slots + 12 + 0 ≤ 38656; omega⟩ (fun H locs G => ?_)
      refine lv_icmp_ne (tgt := 243) hx hb dL_isSo_222 (by decide) (fun hc => ?_) (fun hc => ?_)
      · have hf := aw_ite_f hc hf
        exact w_L_isSo_J243 X hst hwf hf ⟨by omega, by omega⟩  (lv_sub hl [2, 3, 4, 5, 6, 8, 9, 10, 11, 12, 13, 14] rfl) G
      · have hf := aw_ite_t hc hf
        refine lv_aload_n hx hb dL_isSo_225 rfl (lv_at hl 2 rfl) ?_
        refine lv_aload hx hb dL_isSo_226 (lv_at hl 12 rfl) ?_
        refine lv_aload_n hx hb dL_isSo_228 rfl (lv_at hl 4 rfl) ?_
        refine lv_aload hx hb dL_isSo_229 (lv_at hl 8 rfl) ?_
        refine lv_iload hx hb dL_isSo_231 (lv_at hl 9 rfl) ?_
        obtain ⟨z_58, hz_59, hf⟩ := aw_bind_some hf
        refine aw_TI (As := [.ref (ad x0), .ref (ad x11), .ref (ad x2), .ref (ad x7), .int x8]) (rest := []) X G hl.1 cr_L_159 (c_L_isPrimer l hst hz_59) rfl rfl rfl ⟨(Nat.le_of_ble_eq_true rfl), (Nat.le_of_ble_eq_true rfl)⟩ (Nat.le_of_ble_eq_true rfl) dL_isSo_233 109 6976 ⟨(Nat.le_of_ble_eq_true rfl), (Nat.le_of_ble_eq_true rfl)⟩ ⟨by show cells + 2 + 109 ≤ 604; omega, by show slots + 12 + 6976 ≤ 38656; omega⟩ (fun H locs G => ?_)
        refine lv_if_eq (tgt := 243) hx hb dL_isSo_236 (by decide) (fun hc => ?_) (fun hc => ?_)
        · have hf := aw_ite_t hc hf
          exact w_L_isSo_J243 X hst hwf hf ⟨by omega, by omega⟩  (lv_sub hl [2, 3, 4, 5, 6, 8, 9, 10, 11, 12, 13, 14] rfl) G
        · have hf := aw_ite_f hc hf
          refine lv_iconst (v := (1 : Int32)) hx hb dL_isSo_239 (by decide) ?_
          refine lv_goto (tgt := 244) hx hb dL_isSo_240 (by decide) ?_
          exact w_L_isSo_J244 X hst hwf hf ⟨by omega, by omega⟩  (lv_sub hl [2, 3, 4, 5, 6, 8, 9, 10, 11, 12, 13, 14] rfl) G
set_option maxHeartbeats 4000000 in
set_option maxRecDepth 100000 in
theorem w_L_isSo_J179 {z : Int32 × Dt} (X : aw_X p c cL_isSo 18 s RL m meth (some .boolean)) (hst : l.stackTraces = false) (hwf : aw_wf σ) {x0 : Nat} {x1 : Nat} {x2 : Nat} {x3 : Nat} {x4 : Nat} {x6 : Nat} {x7 : Nat} {x8 : Int32} {x9 : Int32} {x10 : Int32} {x11 : Nat} {x12 : Nat} {x13 : Int32} {d : Dt} (hf : f_L_isSo_J179 σ x0 x1 x2 x3 x4 x6 x7 x8 x9 x10 x11 x12 x13 d = some z) { cells slots : Nat} (hB : cells + (121) ≤ 604 ∧ slots + 64 * (121) ≤ 38656)  {H : Heap} {locs : List Loc} {ls : Array Slot} (hl : lv_has ls 18 [(0, .ref (ad x0)), (1, .ref (ad x1)), (2, .ref (ad x2)), (3, .ref (ad x3)), (4, .ref (ad x4)), (6, .ref (ad x6)), (7, .ref (ad x7)), (8, .int x8), (9, .int x9), (10, .int x10), (11, .ref (ad x11)), (12, .ref (ad x12)), (13, .int x13)]) (G : aw_G D cA base ad σ d s H locs) : W p l e rm_L_isSo s m args below meth c H locs cells slots (aw_Ej D cA base ad σ below args s 604 38656 z) (F0 m 179 ls []) := by
  have hx := X.1; have hb := X.2.1; have hml := X.2.2.1; have hown := X.2.2.2.1
  unfold f_L_isSo_J179 at hf
  refine lv_iconst (v := (0 : Int32)) hx hb dL_isSo_179 (by decide) ?_
  exact w_L_isSo_J180 X hst hwf hf ⟨by omega, by omega⟩  (lv_sub hl [0, 1, 2, 3, 4, 5, 6, 7, 8, 9, 10, 11, 12] rfl) G
set_option maxHeartbeats 4000000 in
set_option maxRecDepth 100000 in
theorem w_L_isSo_J118 {z : Int32 × Dt} (X : aw_X p c cL_isSo 18 s RL m meth (some .boolean)) (hst : l.stackTraces = false) (hwf : aw_wf σ) {x0 : Nat} {x1 : Nat} {x2 : Nat} {x3 : Nat} {x4 : Nat} {x5 : Nat} {x6 : Nat} {x7 : Nat} {x8 : Int32} {x9 : Int32} {x10 : Int32} {x11 : Nat} {x12 : Nat} {x13 : Int32} {x14 : Int32} {d : Dt} (hf : f_L_isSo_J118 σ x0 x1 x2 x3 x4 x5 x6 x7 x8 x9 x10 x11 x12 x13 x14 d = some z) { cells slots : Nat} (hB : cells + (124) ≤ 604 ∧ slots + 64 * (124) ≤ 38656)  {H : Heap} {locs : List Loc} {ls : Array Slot} (hl : lv_has ls 18 [(0, .ref (ad x0)), (1, .ref (ad x1)), (2, .ref (ad x2)), (3, .ref (ad x3)), (4, .ref (ad x4)), (5, .ref (ad x5)), (6, .ref (ad x6)), (7, .ref (ad x7)), (8, .int x8), (9, .int x9), (10, .int x10), (11, .ref (ad x11)), (12, .ref (ad x12)), (13, .int x13), (14, .int x14)]) (G : aw_G D cA base ad σ d s H locs) : W p l e rm_L_isSo s m args below meth c H locs cells slots (aw_Ej D cA base ad σ below args s 604 38656 z) (F0 m 118 ls []) := by
  have hx := X.1; have hb := X.2.1; have hml := X.2.2.1; have hown := X.2.2.2.1
  unfold f_L_isSo_J118 at hf
  refine lv_iload hx hb dL_isSo_118 (lv_at hl 14 rfl) ?_
  refine lv_if_eq (tgt := 179) hx hb dL_isSo_120 (by decide) (fun hc => ?_) (fun hc => ?_)
  · have hf := aw_ite_t hc hf
    exact w_L_isSo_J179 X hst hwf hf ⟨by omega, by omega⟩  (lv_sub hl [0, 1, 2, 3, 4, 6, 7, 8, 9, 10, 11, 12, 13] rfl) G
  · have hf := aw_ite_f hc hf
    refine lv_aload_n hx hb dL_isSo_123 rfl (lv_at hl 0 rfl) ?_
    refine lv_iload hx hb dL_isSo_124 (lv_at hl 8 rfl) ?_
    obtain ⟨hc_60, hf⟩ := aw_chk_some hf
    obtain ⟨z_61, hz_62, hf⟩ := aw_bind_some hf
    obtain ⟨v_63, hv_64, hf⟩ := aw_nt_some hf
    refine aw_CXI (As := [.int x8]) (rest := []) X G hl.1 cr_L_142 (c_X10_doubts l hst hz_62) rfl rfl rfl (by decide) hc_60 rfl ⟨(Nat.le_of_ble_eq_true rfl), (Nat.le_of_ble_eq_true rfl)⟩ (Nat.le_of_ble_eq_true rfl) dL_isSo_126 1 6 ⟨(Nat.le_of_ble_eq_true rfl), (Nat.le_of_ble_eq_true rfl)⟩ ⟨by show cells + 1 ≤ 604; omega, by show slots + 6 ≤ 38656; omega⟩ hv_64 (fun H locs G => ?_)
    refine lv_aload hx hb dL_isSo_129 (lv_at hl 11 rfl) ?_
    refine lv_aload hx hb dL_isSo_131 (lv_at hl 7 rfl) ?_
    obtain ⟨z_65, hz_66, hf⟩ := aw_bind_some hf
    refine aw_SI (As := [.ref (ad x11), .ref (ad x7)]) (rest := [.int v_63]) X G hl.1 cr_L_145 (c_L_doubts l hz_66) ⟨rfl, rfl⟩ rfl rfl rfl ⟨(Nat.le_of_ble_eq_true rfl), (Nat.le_of_ble_eq_true rfl)⟩ (Nat.le_of_ble_eq_true rfl) dL_isSo_133 ⟨by show cells + 1 + 0 ≤ 604; omega, by show slots + 6 + 0 ≤ 38656; omega⟩ (fun H locs G => ?_)
    refine lv_icmp_ne (tgt := 179) hx hb dL_isSo_136 (by decide) (fun hc => ?_) (fun hc => ?_)
    · have hf := aw_ite_f hc hf
      exact w_L_isSo_J179 X hst hwf hf ⟨by omega, by omega⟩  (lv_sub hl [0, 1, 2, 3, 4, 6, 7, 8, 9, 10, 11, 12, 13] rfl) G
    · have hf := aw_ite_t hc hf
      refine lv_aload_n hx hb dL_isSo_139 rfl (lv_at hl 0 rfl) ?_
      refine lv_iload hx hb dL_isSo_140 (lv_at hl 8 rfl) ?_
      obtain ⟨z_67, hz_68, hf⟩ := aw_bind_some hf
      obtain ⟨v_69, hv_70, hf⟩ := aw_nt_some hf
      refine aw_CXI (As := [.int x8]) (rest := []) X G hl.1 cr_L_148 (c_X10_load l hst hz_68) rfl rfl rfl (by decide) hc_60 rfl ⟨(Nat.le_of_ble_eq_true rfl), (Nat.le_of_ble_eq_true rfl)⟩ (Nat.le_of_ble_eq_true rfl) dL_isSo_142 1 6 ⟨(Nat.le_of_ble_eq_true rfl), (Nat.le_of_ble_eq_true rfl)⟩ ⟨by show cells + 1 + 1 ≤ 604; omega, by show slots + 6 + 6 ≤ 38656; omega⟩ hv_70 (fun H locs G => ?_)
      refine lv_aload hx hb dL_isSo_145 (lv_at hl 11 rfl) ?_
      refine lv_aload_n hx hb dL_isSo_147 rfl (lv_at hl 2 rfl) ?_
      refine lv_aload hx hb dL_isSo_148 (lv_at hl 7 rfl) ?_
      obtain ⟨z_71, hz_72, hf⟩ := aw_bind_some hf
      refine aw_SI (As := [.ref (ad x11), .ref (ad x2), .ref (ad x7)]) (rest := [.int v_69]) X G hl.1 cr_L_134 (c_L_load l hz_72) ⟨rfl, rfl⟩ rfl rfl rfl ⟨(Nat.le_of_ble_eq_true rfl), (Nat.le_of_ble_eq_true rfl)⟩ (Nat.le_of_ble_eq_true rfl) dL_isSo_150 ⟨by show cells + 1 + 1 + 0 ≤ 604; omega, by show slots + 6 + 6 + 0 ≤ 38656; omega⟩ (fun H locs G => ?_)
      refine lv_icmp_ne (tgt := 179) hx hb dL_isSo_153 (by decide) (fun hc => ?_) (fun hc => ?_)
      · have hf := aw_ite_f hc hf
        exact w_L_isSo_J179 X hst hwf hf ⟨by omega, by omega⟩  (lv_sub hl [0, 1, 2, 3, 4, 6, 7, 8, 9, 10, 11, 12, 13] rfl) G
      · have hf := aw_ite_t hc hf
        refine lv_aload_n hx hb dL_isSo_156 rfl (lv_at hl 0 rfl) ?_
        refine lv_iload hx hb dL_isSo_157 (lv_at hl 8 rfl) ?_
        obtain ⟨z_73, hz_74, hf⟩ := aw_bind_some hf
        obtain ⟨v_75, hv_76, hf⟩ := aw_nt_some hf
        refine aw_CXI (As := [.int x8]) (rest := []) X G hl.1 cr_L_150 (c_X10_travel l hst hz_74) rfl rfl rfl (by decide) hc_60 rfl ⟨(Nat.le_of_ble_eq_true rfl), (Nat.le_of_ble_eq_true rfl)⟩ (Nat.le_of_ble_eq_true rfl) dL_isSo_159 1 6 ⟨(Nat.le_of_ble_eq_true rfl), (Nat.le_of_ble_eq_true rfl)⟩ ⟨by show cells + 1 + 1 + 1 ≤ 604; omega, by show slots + 6 + 6 + 6 ≤ 38656; omega⟩ hv_76 (fun H locs G => ?_)
        refine lv_aload hx hb dL_isSo_162 (lv_at hl 5 rfl) ?_
        refine lv_aload hx hb dL_isSo_164 (lv_at hl 11 rfl) ?_
        refine lv_aload_n hx hb dL_isSo_166 rfl (lv_at hl 2 rfl) ?_
        refine lv_aload hx hb dL_isSo_167 (lv_at hl 7 rfl) ?_
        obtain ⟨z_77, hz_78, hf⟩ := aw_bind_some hf
        refine aw_SI (As := [.ref (ad x5), .ref (ad x11), .ref (ad x2), .ref (ad x7)]) (rest := [.int v_75]) X G hl.1 cr_L_153 (c_L_travel l hz_78) ⟨rfl, rfl⟩ rfl rfl rfl ⟨(Nat.le_of_ble_eq_true rfl), (Nat.le_of_ble_eq_true rfl)⟩ (Nat.le_of_ble_eq_true rfl) dL_isSo_169 ⟨by show cells + 1 + 1 + 1 + 0 ≤ 604; omega, by show slots + 6 + 6 + 6 + 0 ≤ 38656; omega⟩ (fun H locs G => ?_)
        refine lv_icmp_ne (tgt := 179) hx hb dL_isSo_172 (by decide) (fun hc => ?_) (fun hc => ?_)
        · have hf := aw_ite_f hc hf
          exact w_L_isSo_J179 X hst hwf hf ⟨by omega, by omega⟩  (lv_sub hl [0, 1, 2, 3, 4, 6, 7, 8, 9, 10, 11, 12, 13] rfl) G
        · have hf := aw_ite_t hc hf
          refine lv_iconst (v := (1 : Int32)) hx hb dL_isSo_175 (by decide) ?_
          refine lv_goto (tgt := 180) hx hb dL_isSo_176 (by decide) ?_
          exact w_L_isSo_J180 X hst hwf hf ⟨by omega, by omega⟩  (lv_sub hl [0, 1, 2, 3, 4, 6, 7, 8, 9, 10, 11, 12, 13] rfl) G
set_option maxHeartbeats 4000000 in
set_option maxRecDepth 100000 in
theorem w_L_isSo_J19 {z : Int32 × Dt} (X : aw_X p c cL_isSo 18 s RL m meth (some .boolean)) (hst : l.stackTraces = false) (hwf : aw_wf σ) {t0 : Int32} {x0 : Nat} {x1 : Nat} {x2 : Nat} {x3 : Nat} {x4 : Nat} {x5 : Nat} {x6 : Nat} {x7 : Nat} {x8 : Int32} {x9 : Int32} {x10 : Int32} {x11 : Nat} {x12 : Nat} {d : Dt} (hf : f_L_isSo_J19 σ t0 x0 x1 x2 x3 x4 x5 x6 x7 x8 x9 x10 x11 x12 d = some z) { cells slots : Nat} (hB : cells + (604) ≤ 604 ∧ slots + 64 * (604) ≤ 38656)  {H : Heap} {locs : List Loc} {ls : Array Slot} (hl : lv_has ls 18 [(0, .ref (ad x0)), (1, .ref (ad x1)), (2, .ref (ad x2)), (3, .ref (ad x3)), (4, .ref (ad x4)), (5, .ref (ad x5)), (6, .ref (ad x6)), (7, .ref (ad x7)), (8, .int x8), (9, .int x9), (10, .int x10), (11, .ref (ad x11)), (12, .ref (ad x12))]) (G : aw_G D cA base ad σ d s H locs) : W p l e rm_L_isSo s m args below meth c H locs cells slots (aw_Ej D cA base ad σ below args s 604 38656 z) (F0 m 19 ls [.int t0]) := by
  have hx := X.1; have hb := X.2.1; have hml := X.2.2.1; have hown := X.2.2.2.1
  unfold f_L_isSo_J19 at hf
  refine lv_istore (lv' := [(13, .int t0), (0, .ref (ad x0)), (1, .ref (ad x1)), (2, .ref (ad x2)), (3, .ref (ad x3)), (4, .ref (ad x4)), (5, .ref (ad x5)), (6, .ref (ad x6)), (7, .ref (ad x7)), (8, .int x8), (9, .int x9), (10, .int x10), (11, .ref (ad x11)), (12, .ref (ad x12))]) hx hb dL_isSo_19 hl (by decide) rfl (fun ls hl => ?_)
  refine lv_aload_n hx hb dL_isSo_21 rfl (lv_at hl 2 rfl) ?_
  refine lv_aload_n hx hb dL_isSo_22 rfl (lv_at hl 3 rfl) ?_
  refine lv_aload_n hx hb dL_isSo_23 rfl (lv_at hl 4 rfl) ?_
  refine lv_aload hx hb dL_isSo_24 (lv_at hl 5 rfl) ?_
  refine lv_aload hx hb dL_isSo_26 (lv_at hl 8 rfl) ?_
  refine lv_iload hx hb dL_isSo_28 (lv_at hl 0 rfl) ?_
  refine lv_aload hx hb dL_isSo_30 (lv_at hl 12 rfl) ?_
  obtain ⟨z_2, hz_3, hf⟩ := aw_bind_some hf
  refine aw_SV (As := [.ref (ad x1), .ref (ad x2), .ref (ad x3), .ref (ad x4), .ref (ad x7), .int t0, .ref (ad x11)]) (rest := []) X G hl.1 cr_L_130 (c_L_spellsAll l hz_3) ⟨rfl, rfl⟩ rfl rfl rfl ⟨(Nat.le_of_ble_eq_true rfl), (Nat.le_of_ble_eq_true rfl)⟩ (Nat.le_of_ble_eq_true rfl) dL_isSo_32 ⟨by show cells + 0 ≤ 604; omega, by show slots + 0 ≤ 38656; omega⟩ (fun H locs G => ?_)
  refine lv_iconst (v := (1 : Int32)) hx hb dL_isSo_35 (by decide) ?_
  refine lv_istore (lv' := [(14, .int ((1 : Int32))), (13, .int t0), (0, .ref (ad x0)), (1, .ref (ad x1)), (2, .ref (ad x2)), (3, .ref (ad x3)), (4, .ref (ad x4)), (5, .ref (ad x5)), (6, .ref (ad x6)), (7, .ref (ad x7)), (8, .int x8), (9, .int x9), (10, .int x10), (11, .ref (ad x11)), (12, .ref (ad x12))]) hx hb dL_isSo_36 hl (by decide) rfl (fun ls hl => ?_)
  refine lv_iconst (v := (0 : Int32)) hx hb dL_isSo_38 (by decide) ?_
  refine lv_istore (lv' := [(15, .int ((0 : Int32))), (14, .int ((1 : Int32))), (13, .int t0), (0, .ref (ad x0)), (1, .ref (ad x1)), (2, .ref (ad x2)), (3, .ref (ad x3)), (4, .ref (ad x4)), (5, .ref (ad x5)), (6, .ref (ad x6)), (7, .ref (ad x7)), (8, .int x8), (9, .int x9), (10, .int x10), (11, .ref (ad x11)), (12, .ref (ad x12))]) hx hb dL_isSo_39 hl (by decide) rfl (fun ls hl => ?_)
  refine w_L_isSo_L41 X hst hwf 8 hf ⟨by omega, by omega⟩  (fun x14_16 d_17 hf cells slots hB H locs ls hl G => ?_) (lv_sub hl [3, 4, 5, 6, 7, 8, 9, 10, 11, 12, 13, 14, 15, 2, 1, 0] rfl) G
  exact w_L_isSo_J118 X hst hwf hf ⟨by omega, by omega⟩  (lv_sub hl [0, 1, 2, 3, 4, 5, 6, 7, 8, 9, 10, 11, 12, 13, 14] rfl) G
end W_L_isSo
set_option maxHeartbeats 4000000 in
set_option maxRecDepth 100000 in
theorem c_L_isSo (l : Launch) (hst : l.stackTraces = false) {σ : Sg} (hwf : aw_wf σ) {x0 : Nat} {x1 : Nat} {x2 : Nat} {x3 : Nat} {x4 : Nat} {x5 : Nat} {x6 : Nat} {x7 : Nat} {x8 : Int32} {x9 : Int32} {x10 : Int32} {x11 : Nat} {x12 : Nat} {d : Dt} {z : Int32 × Dt} (hf : f_L_isSo σ x0 x1 x2 x3 x4 x5 x6 x7 x8 x9 x10 x11 x12 d = some z) : aw_Mi l yL_isSo (Cond.code yL_isSo cL_isSo 18 (some .boolean)) rm_L_isSo (fun ad => [.ref (ad x0), .ref (ad x1), .ref (ad x2), .ref (ad x3), .ref (ad x4), .ref (ad x5), .ref (ad x6), .ref (ad x7), .int x8, .int x9, .int x10, .ref (ad x11), .ref (ad x12)]) σ d z := by
  intro D cA base ad
  refine aw_ofW (own := RL) (cc := cL_isSo) (nL := 18) (ret := some .boolean) (by decide) rfl rfl ?_
  intro p e s m below meth c X hnm G
  have hx := X.1; have hb := X.2.1; have hml := X.2.2.1; have hown := X.2.2.2.1
  refine aw_ls (lv := [(0, .ref (ad x0)), (1, .ref (ad x1)), (2, .ref (ad x2)), (3, .ref (ad x3)), (4, .ref (ad x4)), (5, .ref (ad x5)), (6, .ref (ad x6)), (7, .ref (ad x7)), (8, .int x8), (9, .int x9), (10, .int x10), (11, .ref (ad x11)), (12, .ref (ad x12))]) (Nat.le_of_ble_eq_true rfl) rfl (fun ls hl => ?_)
  have hB : 0 + 604 ≤ 604 ∧ 0 + 64 * 604 ≤ 38656 := by decide
  unfold f_L_isSo at hf
  refine lv_aload hx hb dL_isSo_0 (lv_at hl 4 rfl) ?_
  refine lv_bipush (v := (48 : Int32)) hx hb dL_isSo_2 (by decide) ?_
  obtain ⟨hc_1, hf⟩ := aw_chk_some hf
  refine aw_ial hx hb G hc_1 dL_isSo_4 ?_
  refine lv_if_ne (tgt := 12) hx hb dL_isSo_5 (by decide) (fun hc => ?_) (fun hc => ?_)
  · have hf := aw_ite_f hc hf
    refine lv_aload hx hb dL_isSo_12 (lv_at hl 4 rfl) ?_
    refine lv_bipush (v := (48 : Int32)) hx hb dL_isSo_14 (by decide) ?_
    refine aw_ial hx hb G hc_1 dL_isSo_16 ?_
    refine lv_iconst (v := (1 : Int32)) hx hb dL_isSo_17 (by decide) ?_
    refine lv_isub hx hb dL_isSo_18 ?_
    exact w_L_isSo_J19 X hst hwf hf ⟨by omega, by omega⟩  (lv_sub hl [0, 1, 2, 3, 4, 5, 6, 7, 8, 9, 10, 11, 12] rfl) G
  · have hf := aw_ite_t hc hf
    refine lv_iconst (v := (3 : Int32)) hx hb dL_isSo_8 (by decide) ?_
    refine lv_goto (tgt := 19) hx hb dL_isSo_9 (by decide) ?_
    exact w_L_isSo_J19 X hst hwf hf ⟨by omega, by omega⟩  (lv_sub hl [0, 1, 2, 3, 4, 5, 6, 7, 8, 9, 10, 11, 12] rfl) G
