/-- no cell yet -/
def aw_s0 : Sg := (0, fun _ => (0, 0), fun _ _ => none)
def aw_d0 : Dt := (fun _ _ => 0, fun _ _ => 0)
def f_L_law_B80 (xs : Nat → Int32) (L : Nat) (kb80 : Int32 → Sg → Dt → Option (Int32)) (k80 : Sg → Dt → Option (Int32)) (x1 : Nat) (x2 : Nat) (x3 : Nat) (x4 : Nat) (x5 : Nat) (x6 : Nat) (x7 : Nat) (x8 : Nat) (x9 : Nat) (x10 : Nat) (x11 : Nat) (x12 : Nat) (x13 : Nat) (x14 : Int32) (σ : Sg) (d : Dt) : Option (Int32) :=
  if ((50 : Int32)) ≤ x14 then k80 σ d else aw_chk (aw_I σ 20 x7 x14) (aw_chk (aw_I σ 20 x8 x14) (aw_chk (aw_I σ 20 x9 x14) (kb80 (x14 + 1) σ (aw_sI (aw_sI (aw_sI d x7 x14.toNatClampNeg x14) x8 x14.toNatClampNeg x14) x9 x14.toNatClampNeg ((((((100 : Int32)) * (x14 / (16 : Int32))) + (((10 : Int32)) * ((x14 / (4 : Int32)) - (x14 / (4 : Int32)) / (4 : Int32) * (4 : Int32)))) + (x14 - x14 / (4 : Int32) * (4 : Int32))) + ((111 : Int32)))))))
def f_L_law_L80 (xs : Nat → Int32) (L : Nat) (n : Nat) (k80 : Sg → Dt → Option (Int32)) (x1 : Nat) (x2 : Nat) (x3 : Nat) (x4 : Nat) (x5 : Nat) (x6 : Nat) (x7 : Nat) (x8 : Nat) (x9 : Nat) (x10 : Nat) (x11 : Nat) (x12 : Nat) (x13 : Nat) : Int32 → Sg → Dt → Option (Int32) := match n with
  | 0 => fun _ _ _ => none
  | n + 1 => fun x14 σ d => f_L_law_B80 xs L (f_L_law_L80 xs L n k80 x1 x2 x3 x4 x5 x6 x7 x8 x9 x10 x11 x12 x13) k80 x1 x2 x3 x4 x5 x6 x7 x8 x9 x10 x11 x12 x13 x14 σ d
def f_L_law_J725 (xs : Nat → Int32) (L : Nat) (kb244 : Int32 → Int32 → Sg → Dt → Option (Int32)) (t0 : Int32) (x1 : Nat) (x2 : Nat) (x3 : Nat) (x4 : Nat) (x5 : Nat) (x6 : Nat) (x7 : Nat) (x8 : Nat) (x9 : Nat) (x10 : Nat) (x11 : Nat) (x12 : Nat) (x13 : Nat) (x15 : Int32) (σ : Sg) (d : Dt) : Option (Int32) :=
  kb244 t0 (x15 + 1) σ d
def f_L_law_J724 (xs : Nat → Int32) (L : Nat) (kb244 : Int32 → Int32 → Sg → Dt → Option (Int32)) (x1 : Nat) (x2 : Nat) (x3 : Nat) (x4 : Nat) (x5 : Nat) (x6 : Nat) (x7 : Nat) (x8 : Nat) (x9 : Nat) (x10 : Nat) (x11 : Nat) (x12 : Nat) (x13 : Nat) (x15 : Int32) (σ : Sg) (d : Dt) : Option (Int32) :=
  f_L_law_J725 xs L kb244 ((0 : Int32)) x1 x2 x3 x4 x5 x6 x7 x8 x9 x10 x11 x12 x13 x15 σ d
def f_L_law_J720 (xs : Nat → Int32) (L : Nat) (kb244 : Int32 → Int32 → Sg → Dt → Option (Int32)) (x1 : Nat) (x2 : Nat) (x3 : Nat) (x4 : Nat) (x5 : Nat) (x6 : Nat) (x7 : Nat) (x8 : Nat) (x9 : Nat) (x10 : Nat) (x11 : Nat) (x12 : Nat) (x13 : Nat) (x15 : Int32) (σ : Sg) (d : Dt) : Option (Int32) :=
  f_L_law_J725 xs L kb244 ((1 : Int32)) x1 x2 x3 x4 x5 x6 x7 x8 x9 x10 x11 x12 x13 x15 σ d
def f_L_law_J593 (xs : Nat → Int32) (L : Nat) (kb244 : Int32 → Int32 → Sg → Dt → Option (Int32)) (x1 : Nat) (x2 : Nat) (x3 : Nat) (x4 : Nat) (x5 : Nat) (x6 : Nat) (x7 : Nat) (x8 : Nat) (x9 : Nat) (x10 : Nat) (x11 : Nat) (x12 : Nat) (x13 : Nat) (x14 : Int32) (x15 : Int32) (x17 : Int32) (x18 : Int32) (σ : Sg) (d : Dt) : Option (Int32) :=
  if x14 = 0 then f_L_law_J724 xs L kb244 x1 x2 x3 x4 x5 x6 x7 x8 x9 x10 x11 x12 x13 x15 σ d else if (x15 - x15 / (2 : Int32) * (2 : Int32)) = 0 then (f_L_areSo σ x1 x2 x3 x4 x5 x6 x9 x10 x11 x17 x18 x12 x13 d).bind (fun z_263 => if z_263.1 = 0 then f_L_law_J724 xs L kb244 x1 x2 x3 x4 x5 x6 x7 x8 x9 x10 x11 x12 x13 x15 σ z_263.2 else f_L_law_J720 xs L kb244 x1 x2 x3 x4 x5 x6 x7 x8 x9 x10 x11 x12 x13 x15 σ z_263.2) else if (x15 - x15 / (4 : Int32) * (4 : Int32)) = ((1 : Int32)) then aw_chk (aw_I σ 20 x11 ((1 : Int32))) (if (d.1 x11 ((1 : Int32)).toNatClampNeg) < ((1 : Int32)) then f_L_law_J720 xs L kb244 x1 x2 x3 x4 x5 x6 x7 x8 x9 x10 x11 x12 x13 x15 σ d else (f_L_isSo σ x1 x2 x3 x4 x5 x7 x9 x11 ((0 : Int32)) x17 x18 x12 x13 d).bind (fun z_261 => if z_261.1 = 0 then f_L_law_J724 xs L kb244 x1 x2 x3 x4 x5 x6 x7 x8 x9 x10 x11 x12 x13 x15 σ z_261.2 else f_L_law_J720 xs L kb244 x1 x2 x3 x4 x5 x6 x7 x8 x9 x10 x11 x12 x13 x15 σ z_261.2)) else aw_chk (aw_I σ 20 x11 ((1 : Int32))) (if (d.1 x11 ((1 : Int32)).toNatClampNeg) < ((2 : Int32)) then f_L_law_J720 xs L kb244 x1 x2 x3 x4 x5 x6 x7 x8 x9 x10 x11 x12 x13 x15 σ d else (f_L_isSo σ x1 x2 x3 x4 x6 x8 x9 x11 ((1 : Int32)) x18 x17 x12 x13 d).bind (fun z_258 => if z_258.1 = 0 then f_L_law_J724 xs L kb244 x1 x2 x3 x4 x5 x6 x7 x8 x9 x10 x11 x12 x13 x15 σ z_258.2 else f_L_law_J720 xs L kb244 x1 x2 x3 x4 x5 x6 x7 x8 x9 x10 x11 x12 x13 x15 σ z_258.2))
def f_L_law_J591 (xs : Nat → Int32) (L : Nat) (kb244 : Int32 → Int32 → Sg → Dt → Option (Int32)) (t0 : Int32) (x1 : Nat) (x2 : Nat) (x3 : Nat) (x4 : Nat) (x5 : Nat) (x6 : Nat) (x7 : Nat) (x8 : Nat) (x9 : Nat) (x10 : Nat) (x11 : Nat) (x12 : Nat) (x13 : Nat) (x15 : Int32) (x17 : Int32) (x18 : Int32) (σ : Sg) (d : Dt) : Option (Int32) :=
  f_L_law_J593 xs L kb244 x1 x2 x3 x4 x5 x6 x7 x8 x9 x10 x11 x12 x13 t0 x15 x17 x18 σ d
def f_L_law_J584 (xs : Nat → Int32) (L : Nat) (kb244 : Int32 → Int32 → Sg → Dt → Option (Int32)) (t5 : Int32) (t4 : Int32) (t3 : Nat) (t2 : Nat) (t1 : Nat) (t0 : Nat) (x1 : Nat) (x2 : Nat) (x3 : Nat) (x4 : Nat) (x5 : Nat) (x6 : Nat) (x7 : Nat) (x8 : Nat) (x9 : Nat) (x10 : Nat) (x11 : Nat) (x12 : Nat) (x13 : Nat) (x15 : Int32) (x17 : Int32) (x18 : Int32) (σ : Sg) (d : Dt) : Option (Int32) :=
  (f_L_isDesign σ t0 t1 t2 t3 t4 t5 x17 x18 d).bind (fun z_255 => f_L_law_J591 xs L kb244 z_255.1 x1 x2 x3 x4 x5 x6 x7 x8 x9 x10 x11 x12 x13 x15 x17 x18 σ z_255.2)
def f_L_law_J542 (xs : Nat → Int32) (L : Nat) (kb244 : Int32 → Int32 → Sg → Dt → Option (Int32)) (t5 : Int32) (t4 : Int32) (t3 : Nat) (t2 : Nat) (t1 : Nat) (t0 : Nat) (x1 : Nat) (x2 : Nat) (x3 : Nat) (x4 : Nat) (x5 : Nat) (x6 : Nat) (x7 : Nat) (x8 : Nat) (x9 : Nat) (x10 : Nat) (x11 : Nat) (x12 : Nat) (x13 : Nat) (x15 : Int32) (x17 : Int32) (x18 : Int32) (σ : Sg) (d : Dt) : Option (Int32) :=
  (f_L_isDesign σ t0 t1 t2 t3 t4 t5 x17 x18 d).bind (fun z_265 => f_L_law_J591 xs L kb244 z_265.1 x1 x2 x3 x4 x5 x6 x7 x8 x9 x10 x11 x12 x13 x15 x17 x18 σ z_265.2)
def f_L_law_J503 (xs : Nat → Int32) (L : Nat) (kb244 : Int32 → Int32 → Sg → Dt → Option (Int32)) (t0 : Int32) (x1 : Nat) (x2 : Nat) (x3 : Nat) (x4 : Nat) (x5 : Nat) (x6 : Nat) (x7 : Nat) (x8 : Nat) (x9 : Nat) (x10 : Nat) (x11 : Nat) (x12 : Nat) (x13 : Nat) (x15 : Int32) (x16 : Int32) (x17 : Int32) (x18 : Int32) (σ : Sg) (d : Dt) : Option (Int32) :=
  if t0 = ((1 : Int32)) then if ((34 : Int32)) ≤ x16 then if ((38 : Int32)) ≤ x16 then f_L_law_J542 xs L kb244 ((2 : Int32)) ((1 : Int32)) x11 x8 x6 x1 x1 x2 x3 x4 x5 x6 x7 x8 x9 x10 x11 x12 x13 x15 x17 x18 σ d else f_L_law_J542 xs L kb244 ((1 : Int32)) ((1 : Int32)) x11 x8 x6 x1 x1 x2 x3 x4 x5 x6 x7 x8 x9 x10 x11 x12 x13 x15 x17 x18 σ d else f_L_law_J542 xs L kb244 ((0 : Int32)) ((1 : Int32)) x11 x8 x6 x1 x1 x2 x3 x4 x5 x6 x7 x8 x9 x10 x11 x12 x13 x15 x17 x18 σ d else if ((34 : Int32)) ≤ x16 then if ((38 : Int32)) ≤ x16 then f_L_law_J584 xs L kb244 ((2 : Int32)) t0 x11 x7 x5 x1 x1 x2 x3 x4 x5 x6 x7 x8 x9 x10 x11 x12 x13 x15 x17 x18 σ d else f_L_law_J584 xs L kb244 ((1 : Int32)) t0 x11 x7 x5 x1 x1 x2 x3 x4 x5 x6 x7 x8 x9 x10 x11 x12 x13 x15 x17 x18 σ d else f_L_law_J584 xs L kb244 ((0 : Int32)) t0 x11 x7 x5 x1 x1 x2 x3 x4 x5 x6 x7 x8 x9 x10 x11 x12 x13 x15 x17 x18 σ d
def f_L_law_J433 (xs : Nat → Int32) (L : Nat) (kb244 : Int32 → Int32 → Sg → Dt → Option (Int32)) (t6 : Int32) (t5 : Nat) (t4 : Nat) (t3 : Nat) (t2 : Nat) (t1 : Nat) (t0 : Nat) (x1 : Nat) (x2 : Nat) (x3 : Nat) (x4 : Nat) (x5 : Nat) (x6 : Nat) (x7 : Nat) (x8 : Nat) (x9 : Nat) (x10 : Nat) (x11 : Nat) (x12 : Nat) (x13 : Nat) (x15 : Int32) (x17 : Int32) (x18 : Int32) (σ : Sg) (d : Dt) : Option (Int32) :=
  aw_chk (x1 < σ.1) (aw_chk (x2 < σ.1) (aw_chk (x3 < σ.1) (aw_chk (x4 < σ.1) (aw_chk (x5 < σ.1) (aw_chk (x6 < σ.1) (aw_chk (x7 < σ.1) (aw_chk (x8 < σ.1) (aw_chk (x9 < σ.1) (aw_chk (x10 < σ.1) (aw_chk (x11 < σ.1) (aw_chk (x12 < σ.1) (aw_chk (x13 < σ.1) ((f_L_isTold t0 t1 t2 t3 t4 t5 t6 x17 x18 σ d).bind (fun z_299 => f_L_law_J593 xs L kb244 x1 x2 x3 x4 x5 x6 x7 x8 x9 x10 x11 x12 x13 z_299.1 x15 x17 x18 z_299.2.1 z_299.2.2))))))))))))))
def f_L_law_J391 (xs : Nat → Int32) (L : Nat) (kb244 : Int32 → Int32 → Sg → Dt → Option (Int32)) (t5 : Int32) (t4 : Nat) (t3 : Nat) (t2 : Nat) (t1 : Nat) (t0 : Nat) (x1 : Nat) (x2 : Nat) (x3 : Nat) (x4 : Nat) (x5 : Nat) (x6 : Nat) (x7 : Nat) (x8 : Nat) (x9 : Nat) (x10 : Nat) (x11 : Nat) (x12 : Nat) (x13 : Nat) (x15 : Int32) (x17 : Int32) (x18 : Int32) (σ : Sg) (d : Dt) : Option (Int32) :=
  (f_L_isWord σ t0 t1 t2 t3 t4 t5 x17 x18 d).bind (fun z_330 => f_L_law_J593 xs L kb244 x1 x2 x3 x4 x5 x6 x7 x8 x9 x10 x11 x12 x13 z_330.1 x15 x17 x18 σ z_330.2)
def f_L_law_J324 (xs : Nat → Int32) (L : Nat) (kb244 : Int32 → Int32 → Sg → Dt → Option (Int32)) (t0 : Int32) (x1 : Nat) (x2 : Nat) (x3 : Nat) (x4 : Nat) (x5 : Nat) (x6 : Nat) (x7 : Nat) (x8 : Nat) (x9 : Nat) (x10 : Nat) (x11 : Nat) (x12 : Nat) (x13 : Nat) (x15 : Int32) (σ : Sg) (d : Dt) : Option (Int32) :=
  (f_L_part xs L σ ((((3 : Int32)) * x15) + ((1 : Int32))) ((60000 : Int32)) d).bind (fun z_251 => (f_L_part xs L σ ((((3 : Int32)) * x15) + ((2 : Int32))) ((60000 : Int32)) z_251.2).bind (fun z_253 => if ((19 : Int32)) ≤ t0 then if ((24 : Int32)) ≤ t0 then if ((26 : Int32)) ≤ t0 then if ((z_251.1 / (60 : Int32)) - (z_251.1 / (60 : Int32)) / (9 : Int32) * (9 : Int32)) = ((8 : Int32)) then aw_chk (aw_I σ 20 x11 ((1 : Int32))) (f_L_law_J503 xs L kb244 (z_253.2.1 x11 ((1 : Int32)).toNatClampNeg) x1 x2 x3 x4 x5 x6 x7 x8 x9 x10 x11 x12 x13 x15 t0 z_251.1 z_253.1 σ z_253.2) else f_L_law_J503 xs L kb244 ((z_251.1 / (60 : Int32)) - (z_251.1 / (60 : Int32)) / (2 : Int32) * (2 : Int32)) x1 x2 x3 x4 x5 x6 x7 x8 x9 x10 x11 x12 x13 x15 t0 z_251.1 z_253.1 σ z_253.2 else aw_chk (x1 < σ.1) (aw_chk (x2 < σ.1) (aw_chk (x3 < σ.1) (aw_chk (x4 < σ.1) (aw_chk (x5 < σ.1) (aw_chk (x6 < σ.1) (aw_chk (x7 < σ.1) (aw_chk (x8 < σ.1) (aw_chk (x9 < σ.1) (aw_chk (x10 < σ.1) (aw_chk (x11 < σ.1) (aw_chk (x12 < σ.1) (aw_chk (x13 < σ.1) ((f_L_isTold x1 x5 x6 x9 x10 x11 ((0 : Int32)) z_251.1 z_253.1 σ z_253.2).bind (fun z_268 => f_L_law_J593 xs L kb244 x1 x2 x3 x4 x5 x6 x7 x8 x9 x10 x11 x12 x13 z_268.1 x15 z_251.1 z_253.1 z_268.2.1 z_268.2.2)))))))))))))) else if ((21 : Int32)) ≤ t0 then f_L_law_J433 xs L kb244 ((2 : Int32)) x11 x10 x9 x6 x5 x1 x1 x2 x3 x4 x5 x6 x7 x8 x9 x10 x11 x12 x13 x15 z_251.1 z_253.1 σ z_253.2 else f_L_law_J433 xs L kb244 ((1 : Int32)) x11 x10 x9 x6 x5 x1 x1 x2 x3 x4 x5 x6 x7 x8 x9 x10 x11 x12 x13 x15 z_251.1 z_253.1 σ z_253.2 else if ((10 : Int32)) ≤ t0 then if ((15 : Int32)) ≤ t0 then f_L_law_J391 xs L kb244 ((2 : Int32)) x11 x4 x3 x2 x1 x1 x2 x3 x4 x5 x6 x7 x8 x9 x10 x11 x12 x13 x15 z_251.1 z_253.1 σ z_253.2 else f_L_law_J391 xs L kb244 ((1 : Int32)) x11 x4 x3 x2 x1 x1 x2 x3 x4 x5 x6 x7 x8 x9 x10 x11 x12 x13 x15 z_251.1 z_253.1 σ z_253.2 else f_L_law_J391 xs L kb244 ((0 : Int32)) x11 x4 x3 x2 x1 x1 x2 x3 x4 x5 x6 x7 x8 x9 x10 x11 x12 x13 x15 z_251.1 z_253.1 σ z_253.2))
def f_L_law_J286 (xs : Nat → Int32) (L : Nat) (kb244 : Int32 → Int32 → Sg → Dt → Option (Int32)) (x1 : Nat) (x2 : Nat) (x3 : Nat) (x4 : Nat) (x5 : Nat) (x6 : Nat) (x7 : Nat) (x8 : Nat) (x9 : Nat) (x10 : Nat) (x11 : Nat) (x12 : Nat) (x13 : Nat) (x15 : Int32) (σ : Sg) (d : Dt) : Option (Int32) :=
  f_L_law_J324 xs L kb244 ((0 : Int32)) x1 x2 x3 x4 x5 x6 x7 x8 x9 x10 x11 x12 x13 x15 σ d
def f_L_law_J309 (xs : Nat → Int32) (L : Nat) (kb244 : Int32 → Int32 → Sg → Dt → Option (Int32)) (x1 : Nat) (x2 : Nat) (x3 : Nat) (x4 : Nat) (x5 : Nat) (x6 : Nat) (x7 : Nat) (x8 : Nat) (x9 : Nat) (x10 : Nat) (x11 : Nat) (x12 : Nat) (x13 : Nat) (x15 : Int32) (σ : Sg) (d : Dt) : Option (Int32) :=
  f_L_law_J324 xs L kb244 ((10 : Int32)) x1 x2 x3 x4 x5 x6 x7 x8 x9 x10 x11 x12 x13 x15 σ d
def f_L_law_B244 (xs : Nat → Int32) (L : Nat) (kb244 : Int32 → Int32 → Sg → Dt → Option (Int32)) (k244 : Int32 → Sg → Dt → Option (Int32)) (x1 : Nat) (x2 : Nat) (x3 : Nat) (x4 : Nat) (x5 : Nat) (x6 : Nat) (x7 : Nat) (x8 : Nat) (x9 : Nat) (x10 : Nat) (x11 : Nat) (x12 : Nat) (x13 : Nat) (x14 : Int32) (x15 : Int32) (σ : Sg) (d : Dt) : Option (Int32) :=
  if ((60 : Int32)) ≤ x15 then k244 x14 σ d else if x14 = 0 then k244 x14 σ d else if ((2 : Int32)) ≤ x15 then if x15 = ((2 : Int32)) then f_L_law_J286 xs L kb244 x1 x2 x3 x4 x5 x6 x7 x8 x9 x10 x11 x12 x13 x15 σ d else if x15 = ((4 : Int32)) then f_L_law_J286 xs L kb244 x1 x2 x3 x4 x5 x6 x7 x8 x9 x10 x11 x12 x13 x15 σ d else if x15 = ((6 : Int32)) then f_L_law_J286 xs L kb244 x1 x2 x3 x4 x5 x6 x7 x8 x9 x10 x11 x12 x13 x15 σ d else if x15 = ((3 : Int32)) then f_L_law_J309 xs L kb244 x1 x2 x3 x4 x5 x6 x7 x8 x9 x10 x11 x12 x13 x15 σ d else if x15 = ((5 : Int32)) then f_L_law_J309 xs L kb244 x1 x2 x3 x4 x5 x6 x7 x8 x9 x10 x11 x12 x13 x15 σ d else if x15 = ((7 : Int32)) then f_L_law_J309 xs L kb244 x1 x2 x3 x4 x5 x6 x7 x8 x9 x10 x11 x12 x13 x15 σ d else (f_L_part xs L σ (((3 : Int32)) * x15) ((40 : Int32)) d).bind (fun z_332 => f_L_law_J324 xs L kb244 z_332.1 x1 x2 x3 x4 x5 x6 x7 x8 x9 x10 x11 x12 x13 x15 σ z_332.2) else f_L_law_J324 xs L kb244 ((24 : Int32)) x1 x2 x3 x4 x5 x6 x7 x8 x9 x10 x11 x12 x13 x15 σ d
def f_L_law_L244 (xs : Nat → Int32) (L : Nat) (n : Nat) (k244 : Int32 → Sg → Dt → Option (Int32)) (x1 : Nat) (x2 : Nat) (x3 : Nat) (x4 : Nat) (x5 : Nat) (x6 : Nat) (x7 : Nat) (x8 : Nat) (x9 : Nat) (x10 : Nat) (x11 : Nat) (x12 : Nat) (x13 : Nat) : Int32 → Int32 → Sg → Dt → Option (Int32) := match n with
  | 0 => fun _ _ _ _ => none
  | n + 1 => fun x14 x15 σ d => f_L_law_B244 xs L (f_L_law_L244 xs L n k244 x1 x2 x3 x4 x5 x6 x7 x8 x9 x10 x11 x12 x13) k244 x1 x2 x3 x4 x5 x6 x7 x8 x9 x10 x11 x12 x13 x14 x15 σ d
def f_L_law_J733 (xs : Nat → Int32) (L : Nat) (x14 : Int32) (σ : Sg) (d : Dt) : Option (Int32) :=
  some x14
def f_L_law_J239 (xs : Nat → Int32) (L : Nat) (t0 : Int32) (x1 : Nat) (x2 : Nat) (x3 : Nat) (x4 : Nat) (x5 : Nat) (x6 : Nat) (x7 : Nat) (x8 : Nat) (x9 : Nat) (x10 : Nat) (x11 : Nat) (x12 : Nat) (x13 : Nat) (σ : Sg) (d : Dt) : Option (Int32) :=
  f_L_law_L244 xs L 62 (fun x14_334 σ_336 d_335 => f_L_law_J733 xs L x14_334 σ_336 d_335) x1 x2 x3 x4 x5 x6 x7 x8 x9 x10 x11 x12 x13 t0 ((0 : Int32)) σ d
def f_L_law_J238 (xs : Nat → Int32) (L : Nat) (x1 : Nat) (x2 : Nat) (x3 : Nat) (x4 : Nat) (x5 : Nat) (x6 : Nat) (x7 : Nat) (x8 : Nat) (x9 : Nat) (x10 : Nat) (x11 : Nat) (x12 : Nat) (x13 : Nat) (σ : Sg) (d : Dt) : Option (Int32) :=
  f_L_law_J239 xs L ((0 : Int32)) x1 x2 x3 x4 x5 x6 x7 x8 x9 x10 x11 x12 x13 σ d
def f_law (xs : Nat → Int32) (L : Nat) (σ : Sg) (d : Dt) : Option Int32 :=
  aw_new σ d 10 13 (fun q_1 σ_2 d_3 => aw_chk (q_1 < σ_2.1) ((f_X10_init q_1 σ_2 d_3).bind (fun z_8 => aw_chk (q_1 < z_8.1.1) (aw_new z_8.1 z_8.2 20 28 (fun q_15 σ_16 d_17 => aw_chk (q_15 < σ_16.1) (aw_chk (q_1 < σ_16.1) (aw_new σ_16 d_17 20 64 (fun q_24 σ_25 d_26 => aw_chk (q_24 < σ_25.1) (aw_chk (q_15 < σ_25.1) (aw_chk (q_1 < σ_25.1) (aw_new σ_25 d_26 20 21 (fun q_35 σ_36 d_37 => aw_chk (q_35 < σ_36.1) (aw_chk (q_24 < σ_36.1) (aw_chk (q_15 < σ_36.1) (aw_chk (q_1 < σ_36.1) (aw_new σ_36 d_37 20 50 (fun q_48 σ_49 d_50 => aw_chk (q_48 < σ_49.1) (aw_chk (q_35 < σ_49.1) (aw_chk (q_24 < σ_49.1) (aw_chk (q_15 < σ_49.1) (aw_chk (q_1 < σ_49.1) (aw_new σ_49 d_50 20 50 (fun q_63 σ_64 d_65 => aw_chk (q_63 < σ_64.1) (aw_chk (q_48 < σ_64.1) (aw_chk (q_35 < σ_64.1) (aw_chk (q_24 < σ_64.1) (aw_chk (q_15 < σ_64.1) (aw_chk (q_1 < σ_64.1) (aw_new σ_64 d_65 20 50 (fun q_80 σ_81 d_82 => aw_chk (q_80 < σ_81.1) (aw_chk (q_63 < σ_81.1) (aw_chk (q_48 < σ_81.1) (aw_chk (q_35 < σ_81.1) (aw_chk (q_24 < σ_81.1) (aw_chk (q_15 < σ_81.1) (aw_chk (q_1 < σ_81.1) (aw_new σ_81 d_82 20 50 (fun q_99 σ_100 d_101 => aw_chk (q_99 < σ_100.1) (aw_chk (q_80 < σ_100.1) (aw_chk (q_63 < σ_100.1) (aw_chk (q_48 < σ_100.1) (aw_chk (q_35 < σ_100.1) (aw_chk (q_24 < σ_100.1) (aw_chk (q_15 < σ_100.1) (aw_chk (q_1 < σ_100.1) (aw_new σ_100 d_101 20 50 (fun q_120 σ_121 d_122 => aw_chk (q_120 < σ_121.1) (aw_chk (q_99 < σ_121.1) (aw_chk (q_80 < σ_121.1) (aw_chk (q_63 < σ_121.1) (aw_chk (q_48 < σ_121.1) (aw_chk (q_35 < σ_121.1) (aw_chk (q_24 < σ_121.1) (aw_chk (q_15 < σ_121.1) (aw_chk (q_1 < σ_121.1) (aw_new σ_121 d_122 20 12 (fun q_143 σ_144 d_145 => aw_chk (q_143 < σ_144.1) (aw_chk (q_120 < σ_144.1) (aw_chk (q_99 < σ_144.1) (aw_chk (q_80 < σ_144.1) (aw_chk (q_63 < σ_144.1) (aw_chk (q_48 < σ_144.1) (aw_chk (q_35 < σ_144.1) (aw_chk (q_24 < σ_144.1) (aw_chk (q_15 < σ_144.1) (aw_chk (q_1 < σ_144.1) (aw_new σ_144 d_145 20 2 (fun q_168 σ_169 d_170 => aw_chk (q_168 < σ_169.1) (aw_chk (q_143 < σ_169.1) (aw_chk (q_120 < σ_169.1) (aw_chk (q_99 < σ_169.1) (aw_chk (q_80 < σ_169.1) (aw_chk (q_63 < σ_169.1) (aw_chk (q_48 < σ_169.1) (aw_chk (q_35 < σ_169.1) (aw_chk (q_24 < σ_169.1) (aw_chk (q_15 < σ_169.1) (aw_chk (q_1 < σ_169.1) (aw_new σ_169 d_170 21 12 (fun q_195 σ_196 d_197 => aw_chk (q_195 < σ_196.1) (aw_chk (q_168 < σ_196.1) (aw_chk (q_143 < σ_196.1) (aw_chk (q_120 < σ_196.1) (aw_chk (q_99 < σ_196.1) (aw_chk (q_80 < σ_196.1) (aw_chk (q_63 < σ_196.1) (aw_chk (q_48 < σ_196.1) (aw_chk (q_35 < σ_196.1) (aw_chk (q_24 < σ_196.1) (aw_chk (q_15 < σ_196.1) (aw_chk (q_1 < σ_196.1) (aw_new σ_196 d_197 21 12 (fun q_224 σ_225 d_226 => f_L_law_L80 xs L aw_FU (fun σ_246 d_245 => (f_L_does_12 σ_246 q_1 ((0 : Int32)) ((0 : Int32)) ((0 : Int32)) ((0 : Int32)) ((0 : Int32)) d_245).bind (fun z_249 => if z_249.1 = ((-1000000 : Int32)) then (f_L_does_1 σ_246 q_1 ((1000 : Int32)) ((0 : Int32)) ((0 : Int32)) ((0 : Int32)) ((0 : Int32)) z_249.2).bind (fun z_339 => if z_339.1 = ((-2000000 : Int32)) then (f_L_does_1 σ_246 q_1 ((1 : Int32)) ((0 : Int32)) ((0 : Int32)) ((0 : Int32)) ((0 : Int32)) z_339.2).bind (fun z_341 => if z_341.1 = ((-1000000 : Int32)) then (f_L_does_10 σ_246 q_1 ((0 : Int32)) ((0 : Int32)) ((0 : Int32)) ((0 : Int32)) ((0 : Int32)) z_341.2).bind (fun z_343 => if z_343.1 = ((-3000000 : Int32)) then (f_L_does_11 σ_246 q_1 ((0 : Int32)) ((5 : Int32)) ((0 : Int32)) ((0 : Int32)) ((0 : Int32)) z_343.2).bind (fun z_345 => if z_345.1 = ((-3000000 : Int32)) then (f_L_does_13 σ_246 q_1 ((0 : Int32)) ((-1 : Int32)) ((0 : Int32)) ((0 : Int32)) ((0 : Int32)) z_345.2).bind (fun z_347 => if z_347.1 = ((-3000000 : Int32)) then f_L_law_J239 xs L ((1 : Int32)) q_1 q_15 q_24 q_35 q_48 q_63 q_80 q_99 q_120 q_143 q_168 q_195 q_224 σ_246 z_347.2 else f_L_law_J238 xs L q_1 q_15 q_24 q_35 q_48 q_63 q_80 q_99 q_120 q_143 q_168 q_195 q_224 σ_246 z_347.2) else f_L_law_J238 xs L q_1 q_15 q_24 q_35 q_48 q_63 q_80 q_99 q_120 q_143 q_168 q_195 q_224 σ_246 z_345.2) else f_L_law_J238 xs L q_1 q_15 q_24 q_35 q_48 q_63 q_80 q_99 q_120 q_143 q_168 q_195 q_224 σ_246 z_343.2) else f_L_law_J238 xs L q_1 q_15 q_24 q_35 q_48 q_63 q_80 q_99 q_120 q_143 q_168 q_195 q_224 σ_246 z_341.2) else f_L_law_J238 xs L q_1 q_15 q_24 q_35 q_48 q_63 q_80 q_99 q_120 q_143 q_168 q_195 q_224 σ_246 z_339.2) else f_L_law_J238 xs L q_1 q_15 q_24 q_35 q_48 q_63 q_80 q_99 q_120 q_143 q_168 q_195 q_224 σ_246 z_249.2)) q_1 q_15 q_24 q_35 q_48 q_63 q_80 q_99 q_120 q_143 q_168 q_195 q_224 ((0 : Int32)) σ_225 d_226)))))))))))))))))))))))))))))))))))))))))))))))))))))))))))))))))))))))))))))))))))))))))))))
section W_law
variable {p : Program} {l : Launch} {e : Env} {s : State} {m : MethodId} {args : Array Value} {below : List Frame} {meth : Method} {c : Code}
variable {D : va_G} {cA : Nat → ClassId} {ad0 : Nat → Nat} {σ0 : Sg}
set_option maxHeartbeats 4000000 in
set_option maxRecDepth 100000 in
theorem w_L_law_B80  (X : aw_X p c cL_law 20 s RL m meth (ret)) (hst : l.stackTraces = false) {b L : Nat} {xs : Nat → Int32} (hX : va_X b L xs s s.heap) (hbl : b < s.heap.size) {kb80 : Int32 → Sg → Dt → Option (Int32)} {k80 : Sg → Dt → Option (Int32)} {x1 : Nat} {x2 : Nat} {x3 : Nat} {x4 : Nat} {x5 : Nat} {x6 : Nat} {x7 : Nat} {x8 : Nat} {x9 : Nat} {x10 : Nat} {x11 : Nat} {x12 : Nat} {x13 : Nat} {x14 : Int32} {σ : Sg} {d : Dt} {ad : Nat → Nat} (hf : f_L_law_B80 xs L kb80 k80 x1 x2 x3 x4 x5 x6 x7 x8 x9 x10 x11 x12 x13 x14 σ d = some 1) { cells slots : Nat} (hB : cells + (37705) ≤ 37982 ∧ slots + 64 * (37705) ≤ 2430848) (hkb80 : ∀ (y14 : Int32) (σ : Sg) (d : Dt), kb80 y14 σ d = some 1 → ∀ (ad : Nat → Nat), aw_ext σ0 ad0 σ ad → ∀ (cells slots : Nat), cells + (37705) ≤ 37982 ∧ slots + 64 * (37705) ≤ 2430848 → ∀ (H : Heap) (locs : List Loc) (ls : Array Slot), lv_has ls 20 [(0, .ref b), (1, .ref (ad x1)), (2, .ref (ad x2)), (3, .ref (ad x3)), (4, .ref (ad x4)), (5, .ref (ad x5)), (6, .ref (ad x6)), (7, .ref (ad x7)), (8, .ref (ad x8)), (9, .ref (ad x9)), (10, .ref (ad x10)), (11, .ref (ad x11)), (12, .ref (ad x12)), (13, .ref (ad x13)), (14, .int y14)] → aw_G D cA s.heap.size ad σ d s H locs → W p l e room_1 s m #[Value.ref b] below meth c H locs cells slots (lw_Z below #[Value.ref b] s) (F0 m 80 ls [])) (hk80 : ∀ (σ : Sg) (d : Dt), k80 σ d = some 1 → ∀ (ad : Nat → Nat), aw_ext σ0 ad0 σ ad → ∀ (cells slots : Nat), cells + (37705) ≤ 37982 ∧ slots + 64 * (37705) ≤ 2430848 → ∀ (H : Heap) (locs : List Loc) (ls : Array Slot), lv_has ls 20 [(0, .ref b), (1, .ref (ad x1)), (2, .ref (ad x2)), (3, .ref (ad x3)), (4, .ref (ad x4)), (5, .ref (ad x5)), (6, .ref (ad x6)), (7, .ref (ad x7)), (8, .ref (ad x8)), (9, .ref (ad x9)), (10, .ref (ad x10)), (11, .ref (ad x11)), (12, .ref (ad x12)), (13, .ref (ad x13))] → aw_G D cA s.heap.size ad σ d s H locs → W p l e room_1 s m #[Value.ref b] below meth c H locs cells slots (lw_Z below #[Value.ref b] s) (F0 m 138 ls [])) (E : aw_ext σ0 ad0 σ ad) {H : Heap} {locs : List Loc} {ls : Array Slot} (hl : lv_has ls 20 [(0, .ref b), (1, .ref (ad x1)), (2, .ref (ad x2)), (3, .ref (ad x3)), (4, .ref (ad x4)), (5, .ref (ad x5)), (6, .ref (ad x6)), (7, .ref (ad x7)), (8, .ref (ad x8)), (9, .ref (ad x9)), (10, .ref (ad x10)), (11, .ref (ad x11)), (12, .ref (ad x12)), (13, .ref (ad x13)), (14, .int x14)]) (G : aw_G D cA s.heap.size ad σ d s H locs) : W p l e room_1 s m #[Value.ref b] below meth c H locs cells slots (lw_Z below #[Value.ref b] s) (F0 m 80 ls []) := by
  have hx := X.1; have hb := X.2.1; have hml := X.2.2.1; have hown := X.2.2.2.1
  have hbA : ¬ (fun q => s.heap.size ≤ q) b := Nat.not_le.mpr hbl
  unfold f_L_law_B80 at hf
  refine lv_iload hx hb dL_law_80 (lv_at hl 14 rfl) ?_
  refine lv_bipush (v := (50 : Int32)) hx hb dL_law_82 (by decide) ?_
  refine lv_icmp_ge (tgt := 138) hx hb dL_law_84 (by decide) (fun hc => ?_) (fun hc => ?_)
  · have hf := aw_ite_t hc hf
    exact hk80 _ _ hf _ E _ _ ⟨by omega, by omega⟩ _ _ _ (lv_sub hl [0, 1, 2, 3, 4, 5, 6, 7, 8, 9, 10, 11, 12, 13] rfl) G
  · have hf := aw_ite_f hc hf
    refine lv_aload hx hb dL_law_87 (lv_at hl 7 rfl) ?_
    refine lv_iload hx hb dL_law_89 (lv_at hl 14 rfl) ?_
    refine lv_iload hx hb dL_law_91 (lv_at hl 14 rfl) ?_
    obtain ⟨hc_242, hf⟩ := aw_chk_some hf
    refine aw_ias hx hb G hc_242 dL_law_93 (fun H locs G => ?_)
    refine lv_aload hx hb dL_law_94 (lv_at hl 8 rfl) ?_
    refine lv_iload hx hb dL_law_96 (lv_at hl 14 rfl) ?_
    refine lv_iload hx hb dL_law_98 (lv_at hl 14 rfl) ?_
    obtain ⟨hc_243, hf⟩ := aw_chk_some hf
    refine aw_ias hx hb G hc_243 dL_law_100 (fun H locs G => ?_)
    refine lv_aload hx hb dL_law_101 (lv_at hl 9 rfl) ?_
    refine lv_iload hx hb dL_law_103 (lv_at hl 14 rfl) ?_
    refine lv_bipush (v := (100 : Int32)) hx hb dL_law_105 (by decide) ?_
    refine lv_iload hx hb dL_law_107 (lv_at hl 14 rfl) ?_
    refine lv_bipush (v := (16 : Int32)) hx hb dL_law_109 (by decide) ?_
    refine lv_idiv hx hb dL_law_111 (by decide) ?_
    refine lv_imul hx hb dL_law_112 ?_
    refine lv_bipush (v := (10 : Int32)) hx hb dL_law_113 (by decide) ?_
    refine lv_iload hx hb dL_law_115 (lv_at hl 14 rfl) ?_
    refine lv_iconst (v := (4 : Int32)) hx hb dL_law_117 (by decide) ?_
    refine lv_idiv hx hb dL_law_118 (by decide) ?_
    refine lv_iconst (v := (4 : Int32)) hx hb dL_law_119 (by decide) ?_
    refine lv_irem hx hb dL_law_120 (by decide) ?_
    refine lv_imul hx hb dL_law_121 ?_
    refine lv_iadd hx hb dL_law_122 ?_
    refine lv_iload hx hb dL_law_123 (lv_at hl 14 rfl) ?_
    refine lv_iconst (v := (4 : Int32)) hx hb dL_law_125 (by decide) ?_
    refine lv_irem hx hb dL_law_126 (by decide) ?_
    refine lv_iadd hx hb dL_law_127 ?_
    refine lv_bipush (v := (111 : Int32)) hx hb dL_law_128 (by decide) ?_
    refine lv_iadd hx hb dL_law_130 ?_
    obtain ⟨hc_244, hf⟩ := aw_chk_some hf
    refine aw_ias hx hb G hc_244 dL_law_131 (fun H locs G => ?_)
    refine lv_iinc (v := x14 + 1) (lv' := [(14, .int (x14 + 1)), (0, .ref b), (1, .ref (ad x1)), (2, .ref (ad x2)), (3, .ref (ad x3)), (4, .ref (ad x4)), (5, .ref (ad x5)), (6, .ref (ad x6)), (7, .ref (ad x7)), (8, .ref (ad x8)), (9, .ref (ad x9)), (10, .ref (ad x10)), (11, .ref (ad x11)), (12, .ref (ad x12)), (13, .ref (ad x13))]) hx hb dL_law_132 hl (k := 14) rfl rfl (by decide) rfl (fun ls hl => ?_)
    refine lv_goto (tgt := 80) hx hb dL_law_135 (by decide) ?_
    exact hkb80 _ _ _ hf _ E _ _ ⟨by omega, by omega⟩ _ _ _ (lv_sub hl [1, 2, 3, 4, 5, 6, 7, 8, 9, 10, 11, 12, 13, 14, 0] rfl) G
theorem w_L_law_L80  (X : aw_X p c cL_law 20 s RL m meth (ret)) (hst : l.stackTraces = false) {b L : Nat} {xs : Nat → Int32} (hX : va_X b L xs s s.heap) (hbl : b < s.heap.size) {k80 : Sg → Dt → Option (Int32)} {x1 : Nat} {x2 : Nat} {x3 : Nat} {x4 : Nat} {x5 : Nat} {x6 : Nat} {x7 : Nat} {x8 : Nat} {x9 : Nat} {x10 : Nat} {x11 : Nat} {x12 : Nat} {x13 : Nat} (n : Nat) {x14 : Int32} {σ : Sg} {d : Dt} {ad : Nat → Nat} (hf : f_L_law_L80 xs L n k80 x1 x2 x3 x4 x5 x6 x7 x8 x9 x10 x11 x12 x13 x14 σ d = some 1) { cells slots : Nat} (hB : cells + (37705) ≤ 37982 ∧ slots + 64 * (37705) ≤ 2430848) (hk80 : ∀ (σ : Sg) (d : Dt), k80 σ d = some 1 → ∀ (ad : Nat → Nat), aw_ext σ0 ad0 σ ad → ∀ (cells slots : Nat), cells + (37705) ≤ 37982 ∧ slots + 64 * (37705) ≤ 2430848 → ∀ (H : Heap) (locs : List Loc) (ls : Array Slot), lv_has ls 20 [(0, .ref b), (1, .ref (ad x1)), (2, .ref (ad x2)), (3, .ref (ad x3)), (4, .ref (ad x4)), (5, .ref (ad x5)), (6, .ref (ad x6)), (7, .ref (ad x7)), (8, .ref (ad x8)), (9, .ref (ad x9)), (10, .ref (ad x10)), (11, .ref (ad x11)), (12, .ref (ad x12)), (13, .ref (ad x13))] → aw_G D cA s.heap.size ad σ d s H locs → W p l e room_1 s m #[Value.ref b] below meth c H locs cells slots (lw_Z below #[Value.ref b] s) (F0 m 138 ls [])) (E : aw_ext σ0 ad0 σ ad) {H : Heap} {locs : List Loc} {ls : Array Slot} (hl : lv_has ls 20 [(0, .ref b), (1, .ref (ad x1)), (2, .ref (ad x2)), (3, .ref (ad x3)), (4, .ref (ad x4)), (5, .ref (ad x5)), (6, .ref (ad x6)), (7, .ref (ad x7)), (8, .ref (ad x8)), (9, .ref (ad x9)), (10, .ref (ad x10)), (11, .ref (ad x11)), (12, .ref (ad x12)), (13, .ref (ad x13)), (14, .int x14)]) (G : aw_G D cA s.heap.size ad σ d s H locs) : W p l e room_1 s m #[Value.ref b] below meth c H locs cells slots (lw_Z below #[Value.ref b] s) (F0 m 80 ls []) := by
  induction n generalizing x14 σ d ad cells slots H locs ls with
  | zero => exact absurd (show (none : Option (Int32)) = some 1 from hf) (by simp)
  | succ n ih => exact w_L_law_B80 X hst hX hbl (kb80 := f_L_law_L80 xs L n k80 x1 x2 x3 x4 x5 x6 x7 x8 x9 x10 x11 x12 x13) hf ⟨by omega, by omega⟩  (fun x14 σ d hf ad E cells slots hB H locs ls hl G => ih hf hB E hl G) hk80 E hl G
set_option maxHeartbeats 4000000 in
set_option maxRecDepth 100000 in
theorem w_L_law_J725  (X : aw_X p c cL_law 20 s RL m meth (ret)) (hst : l.stackTraces = false) {b L : Nat} {xs : Nat → Int32} (hX : va_X b L xs s s.heap) (hbl : b < s.heap.size) {kb244 : Int32 → Int32 → Sg → Dt → Option (Int32)} {t0 : Int32} {x1 : Nat} {x2 : Nat} {x3 : Nat} {x4 : Nat} {x5 : Nat} {x6 : Nat} {x7 : Nat} {x8 : Nat} {x9 : Nat} {x10 : Nat} {x11 : Nat} {x12 : Nat} {x13 : Nat} {x15 : Int32} {σ : Sg} {d : Dt} {ad : Nat → Nat} (hf : f_L_law_J725 xs L kb244 t0 x1 x2 x3 x4 x5 x6 x7 x8 x9 x10 x11 x12 x13 x15 σ d = some 1) {nb244 cells slots : Nat} (hB : cells + (0 + nb244 * 608) ≤ 37982 ∧ slots + 64 * (0 + nb244 * 608) ≤ 2430848) (hkb244 : ∀ (y14 : Int32) (y15 : Int32) (σ : Sg) (d : Dt), kb244 y14 y15 σ d = some 1 → ∀ (ad : Nat → Nat), aw_ext σ0 ad0 σ ad → ∀ (cells slots : Nat), cells + (0 + nb244 * 608) ≤ 37982 ∧ slots + 64 * (0 + nb244 * 608) ≤ 2430848 → ∀ (H : Heap) (locs : List Loc) (ls : Array Slot), lv_has ls 20 [(0, .ref b), (1, .ref (ad x1)), (2, .ref (ad x2)), (3, .ref (ad x3)), (4, .ref (ad x4)), (5, .ref (ad x5)), (6, .ref (ad x6)), (7, .ref (ad x7)), (8, .ref (ad x8)), (9, .ref (ad x9)), (10, .ref (ad x10)), (11, .ref (ad x11)), (12, .ref (ad x12)), (13, .ref (ad x13)), (14, .int y14), (15, .int y15)] → aw_G D cA s.heap.size ad σ d s H locs → W p l e room_1 s m #[Value.ref b] below meth c H locs cells slots (lw_Z below #[Value.ref b] s) (F0 m 244 ls [])) (E : aw_ext σ0 ad0 σ ad) {H : Heap} {locs : List Loc} {ls : Array Slot} (hl : lv_has ls 20 [(0, .ref b), (1, .ref (ad x1)), (2, .ref (ad x2)), (3, .ref (ad x3)), (4, .ref (ad x4)), (5, .ref (ad x5)), (6, .ref (ad x6)), (7, .ref (ad x7)), (8, .ref (ad x8)), (9, .ref (ad x9)), (10, .ref (ad x10)), (11, .ref (ad x11)), (12, .ref (ad x12)), (13, .ref (ad x13)), (15, .int x15)]) (G : aw_G D cA s.heap.size ad σ d s H locs) : W p l e room_1 s m #[Value.ref b] below meth c H locs cells slots (lw_Z below #[Value.ref b] s) (F0 m 725 ls [.int t0]) := by
  have hx := X.1; have hb := X.2.1; have hml := X.2.2.1; have hown := X.2.2.2.1
  have hbA : ¬ (fun q => s.heap.size ≤ q) b := Nat.not_le.mpr hbl
  unfold f_L_law_J725 at hf
  refine lv_istore (lv' := [(14, .int t0), (0, .ref b), (1, .ref (ad x1)), (2, .ref (ad x2)), (3, .ref (ad x3)), (4, .ref (ad x4)), (5, .ref (ad x5)), (6, .ref (ad x6)), (7, .ref (ad x7)), (8, .ref (ad x8)), (9, .ref (ad x9)), (10, .ref (ad x10)), (11, .ref (ad x11)), (12, .ref (ad x12)), (13, .ref (ad x13)), (15, .int x15)]) hx hb dL_law_725 hl (by decide) rfl (fun ls hl => ?_)
  refine lv_iinc (v := x15 + 1) (lv' := [(15, .int (x15 + 1)), (14, .int t0), (0, .ref b), (1, .ref (ad x1)), (2, .ref (ad x2)), (3, .ref (ad x3)), (4, .ref (ad x4)), (5, .ref (ad x5)), (6, .ref (ad x6)), (7, .ref (ad x7)), (8, .ref (ad x8)), (9, .ref (ad x9)), (10, .ref (ad x10)), (11, .ref (ad x11)), (12, .ref (ad x12)), (13, .ref (ad x13))]) hx hb dL_law_727 hl (k := 15) rfl rfl (by decide) rfl (fun ls hl => ?_)
  refine lv_goto (tgt := 244) hx hb dL_law_730 (by decide) ?_
  exact hkb244 _ _ _ _ hf _ E _ _ ⟨by omega, by omega⟩ _ _ _ (lv_sub hl [2, 3, 4, 5, 6, 7, 8, 9, 10, 11, 12, 13, 14, 15, 1, 0] rfl) G
set_option maxHeartbeats 4000000 in
set_option maxRecDepth 100000 in
theorem w_L_law_J724  (X : aw_X p c cL_law 20 s RL m meth (ret)) (hst : l.stackTraces = false) {b L : Nat} {xs : Nat → Int32} (hX : va_X b L xs s s.heap) (hbl : b < s.heap.size) {kb244 : Int32 → Int32 → Sg → Dt → Option (Int32)} {x1 : Nat} {x2 : Nat} {x3 : Nat} {x4 : Nat} {x5 : Nat} {x6 : Nat} {x7 : Nat} {x8 : Nat} {x9 : Nat} {x10 : Nat} {x11 : Nat} {x12 : Nat} {x13 : Nat} {x15 : Int32} {σ : Sg} {d : Dt} {ad : Nat → Nat} (hf : f_L_law_J724 xs L kb244 x1 x2 x3 x4 x5 x6 x7 x8 x9 x10 x11 x12 x13 x15 σ d = some 1) {nb244 cells slots : Nat} (hB : cells + (0 + nb244 * 608) ≤ 37982 ∧ slots + 64 * (0 + nb244 * 608) ≤ 2430848) (hkb244 : ∀ (y14 : Int32) (y15 : Int32) (σ : Sg) (d : Dt), kb244 y14 y15 σ d = some 1 → ∀ (ad : Nat → Nat), aw_ext σ0 ad0 σ ad → ∀ (cells slots : Nat), cells + (0 + nb244 * 608) ≤ 37982 ∧ slots + 64 * (0 + nb244 * 608) ≤ 2430848 → ∀ (H : Heap) (locs : List Loc) (ls : Array Slot), lv_has ls 20 [(0, .ref b), (1, .ref (ad x1)), (2, .ref (ad x2)), (3, .ref (ad x3)), (4, .ref (ad x4)), (5, .ref (ad x5)), (6, .ref (ad x6)), (7, .ref (ad x7)), (8, .ref (ad x8)), (9, .ref (ad x9)), (10, .ref (ad x10)), (11, .ref (ad x11)), (12, .ref (ad x12)), (13, .ref (ad x13)), (14, .int y14), (15, .int y15)] → aw_G D cA s.heap.size ad σ d s H locs → W p l e room_1 s m #[Value.ref b] below meth c H locs cells slots (lw_Z below #[Value.ref b] s) (F0 m 244 ls [])) (E : aw_ext σ0 ad0 σ ad) {H : Heap} {locs : List Loc} {ls : Array Slot} (hl : lv_has ls 20 [(0, .ref b), (1, .ref (ad x1)), (2, .ref (ad x2)), (3, .ref (ad x3)), (4, .ref (ad x4)), (5, .ref (ad x5)), (6, .ref (ad x6)), (7, .ref (ad x7)), (8, .ref (ad x8)), (9, .ref (ad x9)), (10, .ref (ad x10)), (11, .ref (ad x11)), (12, .ref (ad x12)), (13, .ref (ad x13)), (15, .int x15)]) (G : aw_G D cA s.heap.size ad σ d s H locs) : W p l e room_1 s m #[Value.ref b] below meth c H locs cells slots (lw_Z below #[Value.ref b] s) (F0 m 724 ls []) := by
  have hx := X.1; have hb := X.2.1; have hml := X.2.2.1; have hown := X.2.2.2.1
  have hbA : ¬ (fun q => s.heap.size ≤ q) b := Nat.not_le.mpr hbl
  unfold f_L_law_J724 at hf
  refine lv_iconst (v := (0 : Int32)) hx hb dL_law_724 (by decide) ?_
  exact w_L_law_J725 X hst hX hbl (nb244 := nb244) hf ⟨by omega, by omega⟩ hkb244 E (lv_sub hl [0, 1, 2, 3, 4, 5, 6, 7, 8, 9, 10, 11, 12, 13, 14] rfl) G
set_option maxHeartbeats 4000000 in
set_option maxRecDepth 100000 in
theorem w_L_law_J720  (X : aw_X p c cL_law 20 s RL m meth (ret)) (hst : l.stackTraces = false) {b L : Nat} {xs : Nat → Int32} (hX : va_X b L xs s s.heap) (hbl : b < s.heap.size) {kb244 : Int32 → Int32 → Sg → Dt → Option (Int32)} {x1 : Nat} {x2 : Nat} {x3 : Nat} {x4 : Nat} {x5 : Nat} {x6 : Nat} {x7 : Nat} {x8 : Nat} {x9 : Nat} {x10 : Nat} {x11 : Nat} {x12 : Nat} {x13 : Nat} {x15 : Int32} {σ : Sg} {d : Dt} {ad : Nat → Nat} (hf : f_L_law_J720 xs L kb244 x1 x2 x3 x4 x5 x6 x7 x8 x9 x10 x11 x12 x13 x15 σ d = some 1) {nb244 cells slots : Nat} (hB : cells + (0 + nb244 * 608) ≤ 37982 ∧ slots + 64 * (0 + nb244 * 608) ≤ 2430848) (hkb244 : ∀ (y14 : Int32) (y15 : Int32) (σ : Sg) (d : Dt), kb244 y14 y15 σ d = some 1 → ∀ (ad : Nat → Nat), aw_ext σ0 ad0 σ ad → ∀ (cells slots : Nat), cells + (0 + nb244 * 608) ≤ 37982 ∧ slots + 64 * (0 + nb244 * 608) ≤ 2430848 → ∀ (H : Heap) (locs : List Loc) (ls : Array Slot), lv_has ls 20 [(0, .ref b), (1, .ref (ad x1)), (2, .ref (ad x2)), (3, .ref (ad x3)), (4, .ref (ad x4)), (5, .ref (ad x5)), (6, .ref (ad x6)), (7, .ref (ad x7)), (8, .ref (ad x8)), (9, .ref (ad x9)), (10, .ref (ad x10)), (11, .ref (ad x11)), (12, .ref (ad x12)), (13, .ref (ad x13)), (14, .int y14), (15, .int y15)] → aw_G D cA s.heap.size ad σ d s H locs → W p l e room_1 s m #[Value.ref b] below meth c H locs cells slots (lw_Z below #[Value.ref b] s) (F0 m 244 ls [])) (E : aw_ext σ0 ad0 σ ad) {H : Heap} {locs : List Loc} {ls : Array Slot} (hl : lv_has ls 20 [(0, .ref b), (1, .ref (ad x1)), (2, .ref (ad x2)), (3, .ref (ad x3)), (4, .ref (ad x4)), (5, .ref (ad x5)), (6, .ref (ad x6)), (7, .ref (ad x7)), (8, .ref (ad x8)), (9, .ref (ad x9)), (10, .ref (ad x10)), (11, .ref (ad x11)), (12, .ref (ad x12)), (13, .ref (ad x13)), (15, .int x15)]) (G : aw_G D cA s.heap.size ad σ d s H locs) : W p l e room_1 s m #[Value.ref b] below meth c H locs cells slots (lw_Z below #[Value.ref b] s) (F0 m 720 ls []) := by
  have hx := X.1; have hb := X.2.1; have hml := X.2.2.1; have hown := X.2.2.2.1
  have hbA : ¬ (fun q => s.heap.size ≤ q) b := Nat.not_le.mpr hbl
  unfold f_L_law_J720 at hf
  refine lv_iconst (v := (1 : Int32)) hx hb dL_law_720 (by decide) ?_
  refine lv_goto (tgt := 725) hx hb dL_law_721 (by decide) ?_
  exact w_L_law_J725 X hst hX hbl (nb244 := nb244) hf ⟨by omega, by omega⟩ hkb244 E (lv_sub hl [0, 1, 2, 3, 4, 5, 6, 7, 8, 9, 10, 11, 12, 13, 14] rfl) G
set_option maxHeartbeats 4000000 in
set_option maxRecDepth 100000 in
theorem w_L_law_J593  (X : aw_X p c cL_law 20 s RL m meth (ret)) (hst : l.stackTraces = false) {b L : Nat} {xs : Nat → Int32} (hX : va_X b L xs s s.heap) (hbl : b < s.heap.size) {kb244 : Int32 → Int32 → Sg → Dt → Option (Int32)} {x1 : Nat} {x2 : Nat} {x3 : Nat} {x4 : Nat} {x5 : Nat} {x6 : Nat} {x7 : Nat} {x8 : Nat} {x9 : Nat} {x10 : Nat} {x11 : Nat} {x12 : Nat} {x13 : Nat} {x14 : Int32} {x15 : Int32} {x17 : Int32} {x18 : Int32} {σ : Sg} {d : Dt} {ad : Nat → Nat} (hf : f_L_law_J593 xs L kb244 x1 x2 x3 x4 x5 x6 x7 x8 x9 x10 x11 x12 x13 x14 x15 x17 x18 σ d = some 1) {nb244 cells slots : Nat} (hB : cells + (604 + nb244 * 608) ≤ 37982 ∧ slots + 64 * (604 + nb244 * 608) ≤ 2430848) (hkb244 : ∀ (y14 : Int32) (y15 : Int32) (σ : Sg) (d : Dt), kb244 y14 y15 σ d = some 1 → ∀ (ad : Nat → Nat), aw_ext σ0 ad0 σ ad → ∀ (cells slots : Nat), cells + (0 + nb244 * 608) ≤ 37982 ∧ slots + 64 * (0 + nb244 * 608) ≤ 2430848 → ∀ (H : Heap) (locs : List Loc) (ls : Array Slot), lv_has ls 20 [(0, .ref b), (1, .ref (ad x1)), (2, .ref (ad x2)), (3, .ref (ad x3)), (4, .ref (ad x4)), (5, .ref (ad x5)), (6, .ref (ad x6)), (7, .ref (ad x7)), (8, .ref (ad x8)), (9, .ref (ad x9)), (10, .ref (ad x10)), (11, .ref (ad x11)), (12, .ref (ad x12)), (13, .ref (ad x13)), (14, .int y14), (15, .int y15)] → aw_G D cA s.heap.size ad σ d s H locs → W p l e room_1 s m #[Value.ref b] below meth c H locs cells slots (lw_Z below #[Value.ref b] s) (F0 m 244 ls [])) (E : aw_ext σ0 ad0 σ ad) {H : Heap} {locs : List Loc} {ls : Array Slot} (hl : lv_has ls 20 [(0, .ref b), (1, .ref (ad x1)), (2, .ref (ad x2)), (3, .ref (ad x3)), (4, .ref (ad x4)), (5, .ref (ad x5)), (6, .ref (ad x6)), (7, .ref (ad x7)), (8, .ref (ad x8)), (9, .ref (ad x9)), (10, .ref (ad x10)), (11, .ref (ad x11)), (12, .ref (ad x12)), (13, .ref (ad x13)), (14, .int x14), (15, .int x15), (17, .int x17), (18, .int x18)]) (G : aw_G D cA s.heap.size ad σ d s H locs) : W p l e room_1 s m #[Value.ref b] below meth c H locs cells slots (lw_Z below #[Value.ref b] s) (F0 m 593 ls []) := by
  have hx := X.1; have hb := X.2.1; have hml := X.2.2.1; have hown := X.2.2.2.1
  have hbA : ¬ (fun q => s.heap.size ≤ q) b := Nat.not_le.mpr hbl
  unfold f_L_law_J593 at hf
  refine lv_iload hx hb dL_law_593 (lv_at hl 14 rfl) ?_
  refine lv_if_eq (tgt := 724) hx hb dL_law_595 (by decide) (fun hc => ?_) (fun hc => ?_)
  · have hf := aw_ite_t hc hf
    exact w_L_law_J724 X hst hX hbl (nb244 := nb244) hf ⟨by omega, by omega⟩ hkb244 E (lv_sub hl [0, 1, 2, 3, 4, 5, 6, 7, 8, 9, 10, 11, 12, 13, 15] rfl) G
  · have hf := aw_ite_f hc hf
    refine lv_iload hx hb dL_law_598 (lv_at hl 15 rfl) ?_
    refine lv_iconst (v := (2 : Int32)) hx hb dL_law_600 (by decide) ?_
    refine lv_irem hx hb dL_law_601 (by decide) ?_
    refine lv_if_ne (tgt := 637) hx hb dL_law_602 (by decide) (fun hc => ?_) (fun hc => ?_)
    · have hf := aw_ite_f hc hf
      refine lv_iload hx hb dL_law_637 (lv_at hl 15 rfl) ?_
      refine lv_iconst (v := (4 : Int32)) hx hb dL_law_639 (by decide) ?_
      refine lv_irem hx hb dL_law_640 (by decide) ?_
      refine lv_iconst (v := (1 : Int32)) hx hb dL_law_641 (by decide) ?_
      refine lv_icmp_ne (tgt := 684) hx hb dL_law_642 (by decide) (fun hc => ?_) (fun hc => ?_)
      · have hf := aw_ite_f hc hf
        refine lv_aload hx hb dL_law_684 (lv_at hl 11 rfl) ?_
        refine lv_iconst (v := (1 : Int32)) hx hb dL_law_686 (by decide) ?_
        obtain ⟨hc_257, hf⟩ := aw_chk_some hf
        refine aw_ial hx hb G hc_257 dL_law_687 ?_
        refine lv_iconst (v := (2 : Int32)) hx hb dL_law_688 (by decide) ?_
        refine lv_icmp_lt (tgt := 720) hx hb dL_law_689 (by decide) (fun hc => ?_) (fun hc => ?_)
        · have hf := aw_ite_t hc hf
          exact w_L_law_J720 X hst hX hbl (nb244 := nb244) hf ⟨by omega, by omega⟩ hkb244 E (lv_sub hl [0, 1, 2, 3, 4, 5, 6, 7, 8, 9, 10, 11, 12, 13, 15] rfl) G
        · have hf := aw_ite_f hc hf
          refine lv_aload_n hx hb dL_law_692 rfl (lv_at hl 1 rfl) ?_
          refine lv_aload_n hx hb dL_law_693 rfl (lv_at hl 2 rfl) ?_
          refine lv_aload_n hx hb dL_law_694 rfl (lv_at hl 3 rfl) ?_
          refine lv_aload hx hb dL_law_695 (lv_at hl 4 rfl) ?_
          refine lv_aload hx hb dL_law_697 (lv_at hl 6 rfl) ?_
          refine lv_aload hx hb dL_law_699 (lv_at hl 8 rfl) ?_
          refine lv_aload hx hb dL_law_701 (lv_at hl 9 rfl) ?_
          refine lv_aload hx hb dL_law_703 (lv_at hl 11 rfl) ?_
          refine lv_iconst (v := (1 : Int32)) hx hb dL_law_705 (by decide) ?_
          refine lv_iload hx hb dL_law_706 (lv_at hl 17 rfl) ?_
          refine lv_iload hx hb dL_law_708 (lv_at hl 16 rfl) ?_
          refine lv_aload hx hb dL_law_710 (lv_at hl 12 rfl) ?_
          refine lv_aload hx hb dL_law_712 (lv_at hl 13 rfl) ?_
          obtain ⟨z_258, hz_259, hf⟩ := aw_bind_some hf
          refine aw_TI (As := [.ref (ad x1), .ref (ad x2), .ref (ad x3), .ref (ad x4), .ref (ad x6), .ref (ad x8), .ref (ad x9), .ref (ad x11), .int ((1 : Int32)), .int x18, .int x17, .ref (ad x12), .ref (ad x13)]) (rest := []) X G hl.1 cr_L_224 (c_L_isSo l hst E.2.2 hz_259) rfl rfl rfl ⟨(Nat.le_of_ble_eq_true rfl), (Nat.le_of_ble_eq_true rfl)⟩ (Nat.le_of_ble_eq_true rfl) dL_law_714 604 38656 ⟨(Nat.le_of_ble_eq_true rfl), (Nat.le_of_ble_eq_true rfl)⟩ ⟨by show cells + 604 ≤ 600086; omega, by show slots + 38656 ≤ 7301442; omega⟩ (fun H locs G => ?_)
          refine lv_if_eq (tgt := 724) hx hb dL_law_717 (by decide) (fun hc => ?_) (fun hc => ?_)
          · have hf := aw_ite_t hc hf
            exact w_L_law_J724 X hst hX hbl (nb244 := nb244) hf ⟨by omega, by omega⟩ hkb244 E (lv_sub hl [0, 1, 2, 3, 4, 5, 6, 7, 8, 9, 10, 11, 12, 13, 15] rfl) G
          · have hf := aw_ite_f hc hf
            exact w_L_law_J720 X hst hX hbl (nb244 := nb244) hf ⟨by omega, by omega⟩ hkb244 E (lv_sub hl [0, 1, 2, 3, 4, 5, 6, 7, 8, 9, 10, 11, 12, 13, 15] rfl) G
      · have hf := aw_ite_t hc hf
        refine lv_aload hx hb dL_law_645 (lv_at hl 11 rfl) ?_
        refine lv_iconst (v := (1 : Int32)) hx hb dL_law_647 (by decide) ?_
        obtain ⟨hc_260, hf⟩ := aw_chk_some hf
        refine aw_ial hx hb G hc_260 dL_law_648 ?_
        refine lv_iconst (v := (1 : Int32)) hx hb dL_law_649 (by decide) ?_
        refine lv_icmp_lt (tgt := 720) hx hb dL_law_650 (by decide) (fun hc => ?_) (fun hc => ?_)
        · have hf := aw_ite_t hc hf
          exact w_L_law_J720 X hst hX hbl (nb244 := nb244) hf ⟨by omega, by omega⟩ hkb244 E (lv_sub hl [0, 1, 2, 3, 4, 5, 6, 7, 8, 9, 10, 11, 12, 13, 15] rfl) G
        · have hf := aw_ite_f hc hf
          refine lv_aload_n hx hb dL_law_653 rfl (lv_at hl 1 rfl) ?_
          refine lv_aload_n hx hb dL_law_654 rfl (lv_at hl 2 rfl) ?_
          refine lv_aload_n hx hb dL_law_655 rfl (lv_at hl 3 rfl) ?_
          refine lv_aload hx hb dL_law_656 (lv_at hl 4 rfl) ?_
          refine lv_aload hx hb dL_law_658 (lv_at hl 5 rfl) ?_
          refine lv_aload hx hb dL_law_660 (lv_at hl 7 rfl) ?_
          refine lv_aload hx hb dL_law_662 (lv_at hl 9 rfl) ?_
          refine lv_aload hx hb dL_law_664 (lv_at hl 11 rfl) ?_
          refine lv_iconst (v := (0 : Int32)) hx hb dL_law_666 (by decide) ?_
          refine lv_iload hx hb dL_law_667 (lv_at hl 16 rfl) ?_
          refine lv_iload hx hb dL_law_669 (lv_at hl 17 rfl) ?_
          refine lv_aload hx hb dL_law_671 (lv_at hl 12 rfl) ?_
          refine lv_aload hx hb dL_law_673 (lv_at hl 13 rfl) ?_
          obtain ⟨z_261, hz_262, hf⟩ := aw_bind_some hf
          refine aw_TI (As := [.ref (ad x1), .ref (ad x2), .ref (ad x3), .ref (ad x4), .ref (ad x5), .ref (ad x7), .ref (ad x9), .ref (ad x11), .int ((0 : Int32)), .int x17, .int x18, .ref (ad x12), .ref (ad x13)]) (rest := []) X G hl.1 cr_L_224 (c_L_isSo l hst E.2.2 hz_262) rfl rfl rfl ⟨(Nat.le_of_ble_eq_true rfl), (Nat.le_of_ble_eq_true rfl)⟩ (Nat.le_of_ble_eq_true rfl) dL_law_675 604 38656 ⟨(Nat.le_of_ble_eq_true rfl), (Nat.le_of_ble_eq_true rfl)⟩ ⟨by show cells + 604 ≤ 600086; omega, by show slots + 38656 ≤ 7301442; omega⟩ (fun H locs G => ?_)
          refine lv_if_eq (tgt := 724) hx hb dL_law_678 (by decide) (fun hc => ?_) (fun hc => ?_)
          · have hf := aw_ite_t hc hf
            exact w_L_law_J724 X hst hX hbl (nb244 := nb244) hf ⟨by omega, by omega⟩ hkb244 E (lv_sub hl [0, 1, 2, 3, 4, 5, 6, 7, 8, 9, 10, 11, 12, 13, 15] rfl) G
          · have hf := aw_ite_f hc hf
            refine lv_goto (tgt := 720) hx hb dL_law_681 (by decide) ?_
            exact w_L_law_J720 X hst hX hbl (nb244 := nb244) hf ⟨by omega, by omega⟩ hkb244 E (lv_sub hl [0, 1, 2, 3, 4, 5, 6, 7, 8, 9, 10, 11, 12, 13, 15] rfl) G
    · have hf := aw_ite_t hc hf
      refine lv_aload_n hx hb dL_law_605 rfl (lv_at hl 1 rfl) ?_
      refine lv_aload_n hx hb dL_law_606 rfl (lv_at hl 2 rfl) ?_
      refine lv_aload_n hx hb dL_law_607 rfl (lv_at hl 3 rfl) ?_
      refine lv_aload hx hb dL_law_608 (lv_at hl 4 rfl) ?_
      refine lv_aload hx hb dL_law_610 (lv_at hl 5 rfl) ?_
      refine lv_aload hx hb dL_law_612 (lv_at hl 6 rfl) ?_
      refine lv_aload hx hb dL_law_614 (lv_at hl 9 rfl) ?_
      refine lv_aload hx hb dL_law_616 (lv_at hl 10 rfl) ?_
      refine lv_aload hx hb dL_law_618 (lv_at hl 11 rfl) ?_
      refine lv_iload hx hb dL_law_620 (lv_at hl 16 rfl) ?_
      refine lv_iload hx hb dL_law_622 (lv_at hl 17 rfl) ?_
      refine lv_aload hx hb dL_law_624 (lv_at hl 12 rfl) ?_
      refine lv_aload hx hb dL_law_626 (lv_at hl 13 rfl) ?_
      obtain ⟨z_263, hz_264, hf⟩ := aw_bind_some hf
      refine aw_TI (As := [.ref (ad x1), .ref (ad x2), .ref (ad x3), .ref (ad x4), .ref (ad x5), .ref (ad x6), .ref (ad x9), .ref (ad x10), .ref (ad x11), .int x17, .int x18, .ref (ad x12), .ref (ad x13)]) (rest := []) X G hl.1 cr_L_220 (c_L_areSo l hst hz_264) rfl rfl rfl ⟨(Nat.le_of_ble_eq_true rfl), (Nat.le_of_ble_eq_true rfl)⟩ (Nat.le_of_ble_eq_true rfl) dL_law_628 66 4224 ⟨(Nat.le_of_ble_eq_true rfl), (Nat.le_of_ble_eq_true rfl)⟩ ⟨by show cells + 66 ≤ 600086; omega, by show slots + 4224 ≤ 7301442; omega⟩ (fun H locs G => ?_)
      refine lv_if_eq (tgt := 724) hx hb dL_law_631 (by decide) (fun hc => ?_) (fun hc => ?_)
      · have hf := aw_ite_t hc hf
        exact w_L_law_J724 X hst hX hbl (nb244 := nb244) hf ⟨by omega, by omega⟩ hkb244 E (lv_sub hl [0, 1, 2, 3, 4, 5, 6, 7, 8, 9, 10, 11, 12, 13, 15] rfl) G
      · have hf := aw_ite_f hc hf
        refine lv_goto (tgt := 720) hx hb dL_law_634 (by decide) ?_
        exact w_L_law_J720 X hst hX hbl (nb244 := nb244) hf ⟨by omega, by omega⟩ hkb244 E (lv_sub hl [0, 1, 2, 3, 4, 5, 6, 7, 8, 9, 10, 11, 12, 13, 15] rfl) G
set_option maxHeartbeats 4000000 in
set_option maxRecDepth 100000 in
theorem w_L_law_J591  (X : aw_X p c cL_law 20 s RL m meth (ret)) (hst : l.stackTraces = false) {b L : Nat} {xs : Nat → Int32} (hX : va_X b L xs s s.heap) (hbl : b < s.heap.size) {kb244 : Int32 → Int32 → Sg → Dt → Option (Int32)} {t0 : Int32} {x1 : Nat} {x2 : Nat} {x3 : Nat} {x4 : Nat} {x5 : Nat} {x6 : Nat} {x7 : Nat} {x8 : Nat} {x9 : Nat} {x10 : Nat} {x11 : Nat} {x12 : Nat} {x13 : Nat} {x15 : Int32} {x17 : Int32} {x18 : Int32} {σ : Sg} {d : Dt} {ad : Nat → Nat} (hf : f_L_law_J591 xs L kb244 t0 x1 x2 x3 x4 x5 x6 x7 x8 x9 x10 x11 x12 x13 x15 x17 x18 σ d = some 1) {nb244 cells slots : Nat} (hB : cells + (604 + nb244 * 608) ≤ 37982 ∧ slots + 64 * (604 + nb244 * 608) ≤ 2430848) (hkb244 : ∀ (y14 : Int32) (y15 : Int32) (σ : Sg) (d : Dt), kb244 y14 y15 σ d = some 1 → ∀ (ad : Nat → Nat), aw_ext σ0 ad0 σ ad → ∀ (cells slots : Nat), cells + (0 + nb244 * 608) ≤ 37982 ∧ slots + 64 * (0 + nb244 * 608) ≤ 2430848 → ∀ (H : Heap) (locs : List Loc) (ls : Array Slot), lv_has ls 20 [(0, .ref b), (1, .ref (ad x1)), (2, .ref (ad x2)), (3, .ref (ad x3)), (4, .ref (ad x4)), (5, .ref (ad x5)), (6, .ref (ad x6)), (7, .ref (ad x7)), (8, .ref (ad x8)), (9, .ref (ad x9)), (10, .ref (ad x10)), (11, .ref (ad x11)), (12, .ref (ad x12)), (13, .ref (ad x13)), (14, .int y14), (15, .int y15)] → aw_G D cA s.heap.size ad σ d s H locs → W p l e room_1 s m #[Value.ref b] below meth c H locs cells slots (lw_Z below #[Value.ref b] s) (F0 m 244 ls [])) (E : aw_ext σ0 ad0 σ ad) {H : Heap} {locs : List Loc} {ls : Array Slot} (hl : lv_has ls 20 [(0, .ref b), (1, .ref (ad x1)), (2, .ref (ad x2)), (3, .ref (ad x3)), (4, .ref (ad x4)), (5, .ref (ad x5)), (6, .ref (ad x6)), (7, .ref (ad x7)), (8, .ref (ad x8)), (9, .ref (ad x9)), (10, .ref (ad x10)), (11, .ref (ad x11)), (12, .ref (ad x12)), (13, .ref (ad x13)), (15, .int x15), (17, .int x17), (18, .int x18)]) (G : aw_G D cA s.heap.size ad σ d s H locs) : W p l e room_1 s m #[Value.ref b] below meth c H locs cells slots (lw_Z below #[Value.ref b] s) (F0 m 591 ls [.int t0]) := by
  have hx := X.1; have hb := X.2.1; have hml := X.2.2.1; have hown := X.2.2.2.1
  have hbA : ¬ (fun q => s.heap.size ≤ q) b := Nat.not_le.mpr hbl
  unfold f_L_law_J591 at hf
  refine lv_istore (lv' := [(14, .int t0), (0, .ref b), (1, .ref (ad x1)), (2, .ref (ad x2)), (3, .ref (ad x3)), (4, .ref (ad x4)), (5, .ref (ad x5)), (6, .ref (ad x6)), (7, .ref (ad x7)), (8, .ref (ad x8)), (9, .ref (ad x9)), (10, .ref (ad x10)), (11, .ref (ad x11)), (12, .ref (ad x12)), (13, .ref (ad x13)), (15, .int x15), (17, .int x17), (18, .int x18)]) hx hb dL_law_591 hl (by decide) rfl (fun ls hl => ?_)
  exact w_L_law_J593 X hst hX hbl (nb244 := nb244) hf ⟨by omega, by omega⟩ hkb244 E (lv_sub hl [1, 2, 3, 4, 5, 6, 7, 8, 9, 10, 11, 12, 13, 14, 0, 15, 16, 17] rfl) G
set_option maxHeartbeats 4000000 in
set_option maxRecDepth 100000 in
theorem w_L_law_J584  (X : aw_X p c cL_law 20 s RL m meth (ret)) (hst : l.stackTraces = false) {b L : Nat} {xs : Nat → Int32} (hX : va_X b L xs s s.heap) (hbl : b < s.heap.size) {kb244 : Int32 → Int32 → Sg → Dt → Option (Int32)} {t5 : Int32} {t4 : Int32} {t3 : Nat} {t2 : Nat} {t1 : Nat} {t0 : Nat} {x1 : Nat} {x2 : Nat} {x3 : Nat} {x4 : Nat} {x5 : Nat} {x6 : Nat} {x7 : Nat} {x8 : Nat} {x9 : Nat} {x10 : Nat} {x11 : Nat} {x12 : Nat} {x13 : Nat} {x15 : Int32} {x17 : Int32} {x18 : Int32} {σ : Sg} {d : Dt} {ad : Nat → Nat} (hf : f_L_law_J584 xs L kb244 t5 t4 t3 t2 t1 t0 x1 x2 x3 x4 x5 x6 x7 x8 x9 x10 x11 x12 x13 x15 x17 x18 σ d = some 1) {nb244 cells slots : Nat} (hB : cells + (607 + nb244 * 608) ≤ 37982 ∧ slots + 64 * (607 + nb244 * 608) ≤ 2430848) (hkb244 : ∀ (y14 : Int32) (y15 : Int32) (σ : Sg) (d : Dt), kb244 y14 y15 σ d = some 1 → ∀ (ad : Nat → Nat), aw_ext σ0 ad0 σ ad → ∀ (cells slots : Nat), cells + (0 + nb244 * 608) ≤ 37982 ∧ slots + 64 * (0 + nb244 * 608) ≤ 2430848 → ∀ (H : Heap) (locs : List Loc) (ls : Array Slot), lv_has ls 20 [(0, .ref b), (1, .ref (ad x1)), (2, .ref (ad x2)), (3, .ref (ad x3)), (4, .ref (ad x4)), (5, .ref (ad x5)), (6, .ref (ad x6)), (7, .ref (ad x7)), (8, .ref (ad x8)), (9, .ref (ad x9)), (10, .ref (ad x10)), (11, .ref (ad x11)), (12, .ref (ad x12)), (13, .ref (ad x13)), (14, .int y14), (15, .int y15)] → aw_G D cA s.heap.size ad σ d s H locs → W p l e room_1 s m #[Value.ref b] below meth c H locs cells slots (lw_Z below #[Value.ref b] s) (F0 m 244 ls [])) (E : aw_ext σ0 ad0 σ ad) {H : Heap} {locs : List Loc} {ls : Array Slot} (hl : lv_has ls 20 [(0, .ref b), (1, .ref (ad x1)), (2, .ref (ad x2)), (3, .ref (ad x3)), (4, .ref (ad x4)), (5, .ref (ad x5)), (6, .ref (ad x6)), (7, .ref (ad x7)), (8, .ref (ad x8)), (9, .ref (ad x9)), (10, .ref (ad x10)), (11, .ref (ad x11)), (12, .ref (ad x12)), (13, .ref (ad x13)), (15, .int x15), (17, .int x17), (18, .int x18)]) (G : aw_G D cA s.heap.size ad σ d s H locs) : W p l e room_1 s m #[Value.ref b] below meth c H locs cells slots (lw_Z below #[Value.ref b] s) (F0 m 584 ls [.int t5, .int t4, .ref (ad t3), .ref (ad t2), .ref (ad t1), .ref (ad t0)]) := by
  have hx := X.1; have hb := X.2.1; have hml := X.2.2.1; have hown := X.2.2.2.1
  have hbA : ¬ (fun q => s.heap.size ≤ q) b := Nat.not_le.mpr hbl
  unfold f_L_law_J584 at hf
  refine lv_iload hx hb dL_law_584 (lv_at hl 15 rfl) ?_
  refine lv_iload hx hb dL_law_586 (lv_at hl 16 rfl) ?_
  obtain ⟨z_255, hz_256, hf⟩ := aw_bind_some hf
  refine aw_TI (As := [.ref (ad t0), .ref (ad t1), .ref (ad t2), .ref (ad t3), .int t4, .int t5, .int x17, .int x18]) (rest := []) X G hl.1 cr_L_216 (c_L_isDesign l hst hz_256) rfl rfl rfl ⟨(Nat.le_of_ble_eq_true rfl), (Nat.le_of_ble_eq_true rfl)⟩ (Nat.le_of_ble_eq_true rfl) dL_law_588 3 192 ⟨(Nat.le_of_ble_eq_true rfl), (Nat.le_of_ble_eq_true rfl)⟩ ⟨by show cells + 3 ≤ 600086; omega, by show slots + 192 ≤ 7301442; omega⟩ (fun H locs G => ?_)
  exact w_L_law_J591 X hst hX hbl (nb244 := nb244) hf ⟨by omega, by omega⟩ hkb244 E (lv_sub hl [0, 1, 2, 3, 4, 5, 6, 7, 8, 9, 10, 11, 12, 13, 14, 15, 16] rfl) G
set_option maxHeartbeats 4000000 in
set_option maxRecDepth 100000 in
theorem w_L_law_J542  (X : aw_X p c cL_law 20 s RL m meth (ret)) (hst : l.stackTraces = false) {b L : Nat} {xs : Nat → Int32} (hX : va_X b L xs s s.heap) (hbl : b < s.heap.size) {kb244 : Int32 → Int32 → Sg → Dt → Option (Int32)} {t5 : Int32} {t4 : Int32} {t3 : Nat} {t2 : Nat} {t1 : Nat} {t0 : Nat} {x1 : Nat} {x2 : Nat} {x3 : Nat} {x4 : Nat} {x5 : Nat} {x6 : Nat} {x7 : Nat} {x8 : Nat} {x9 : Nat} {x10 : Nat} {x11 : Nat} {x12 : Nat} {x13 : Nat} {x15 : Int32} {x17 : Int32} {x18 : Int32} {σ : Sg} {d : Dt} {ad : Nat → Nat} (hf : f_L_law_J542 xs L kb244 t5 t4 t3 t2 t1 t0 x1 x2 x3 x4 x5 x6 x7 x8 x9 x10 x11 x12 x13 x15 x17 x18 σ d = some 1) {nb244 cells slots : Nat} (hB : cells + (607 + nb244 * 608) ≤ 37982 ∧ slots + 64 * (607 + nb244 * 608) ≤ 2430848) (hkb244 : ∀ (y14 : Int32) (y15 : Int32) (σ : Sg) (d : Dt), kb244 y14 y15 σ d = some 1 → ∀ (ad : Nat → Nat), aw_ext σ0 ad0 σ ad → ∀ (cells slots : Nat), cells + (0 + nb244 * 608) ≤ 37982 ∧ slots + 64 * (0 + nb244 * 608) ≤ 2430848 → ∀ (H : Heap) (locs : List Loc) (ls : Array Slot), lv_has ls 20 [(0, .ref b), (1, .ref (ad x1)), (2, .ref (ad x2)), (3, .ref (ad x3)), (4, .ref (ad x4)), (5, .ref (ad x5)), (6, .ref (ad x6)), (7, .ref (ad x7)), (8, .ref (ad x8)), (9, .ref (ad x9)), (10, .ref (ad x10)), (11, .ref (ad x11)), (12, .ref (ad x12)), (13, .ref (ad x13)), (14, .int y14), (15, .int y15)] → aw_G D cA s.heap.size ad σ d s H locs → W p l e room_1 s m #[Value.ref b] below meth c H locs cells slots (lw_Z below #[Value.ref b] s) (F0 m 244 ls [])) (E : aw_ext σ0 ad0 σ ad) {H : Heap} {locs : List Loc} {ls : Array Slot} (hl : lv_has ls 20 [(0, .ref b), (1, .ref (ad x1)), (2, .ref (ad x2)), (3, .ref (ad x3)), (4, .ref (ad x4)), (5, .ref (ad x5)), (6, .ref (ad x6)), (7, .ref (ad x7)), (8, .ref (ad x8)), (9, .ref (ad x9)), (10, .ref (ad x10)), (11, .ref (ad x11)), (12, .ref (ad x12)), (13, .ref (ad x13)), (15, .int x15), (17, .int x17), (18, .int x18)]) (G : aw_G D cA s.heap.size ad σ d s H locs) : W p l e room_1 s m #[Value.ref b] below meth c H locs cells slots (lw_Z below #[Value.ref b] s) (F0 m 542 ls [.int t5, .int t4, .ref (ad t3), .ref (ad t2), .ref (ad t1), .ref (ad t0)]) := by
  have hx := X.1; have hb := X.2.1; have hml := X.2.2.1; have hown := X.2.2.2.1
  have hbA : ¬ (fun q => s.heap.size ≤ q) b := Nat.not_le.mpr hbl
  unfold f_L_law_J542 at hf
  refine lv_iload hx hb dL_law_542 (lv_at hl 15 rfl) ?_
  refine lv_iload hx hb dL_law_544 (lv_at hl 16 rfl) ?_
  obtain ⟨z_265, hz_266, hf⟩ := aw_bind_some hf
  refine aw_TI (As := [.ref (ad t0), .ref (ad t1), .ref (ad t2), .ref (ad t3), .int t4, .int t5, .int x17, .int x18]) (rest := []) X G hl.1 cr_L_216 (c_L_isDesign l hst hz_266) rfl rfl rfl ⟨(Nat.le_of_ble_eq_true rfl), (Nat.le_of_ble_eq_true rfl)⟩ (Nat.le_of_ble_eq_true rfl) dL_law_546 3 192 ⟨(Nat.le_of_ble_eq_true rfl), (Nat.le_of_ble_eq_true rfl)⟩ ⟨by show cells + 3 ≤ 600086; omega, by show slots + 192 ≤ 7301442; omega⟩ (fun H locs G => ?_)
  refine lv_goto (tgt := 591) hx hb dL_law_549 (by decide) ?_
  exact w_L_law_J591 X hst hX hbl (nb244 := nb244) hf ⟨by omega, by omega⟩ hkb244 E (lv_sub hl [0, 1, 2, 3, 4, 5, 6, 7, 8, 9, 10, 11, 12, 13, 14, 15, 16] rfl) G
set_option maxHeartbeats 4000000 in
set_option maxRecDepth 100000 in
theorem w_L_law_J503  (X : aw_X p c cL_law 20 s RL m meth (ret)) (hst : l.stackTraces = false) {b L : Nat} {xs : Nat → Int32} (hX : va_X b L xs s s.heap) (hbl : b < s.heap.size) {kb244 : Int32 → Int32 → Sg → Dt → Option (Int32)} {t0 : Int32} {x1 : Nat} {x2 : Nat} {x3 : Nat} {x4 : Nat} {x5 : Nat} {x6 : Nat} {x7 : Nat} {x8 : Nat} {x9 : Nat} {x10 : Nat} {x11 : Nat} {x12 : Nat} {x13 : Nat} {x15 : Int32} {x16 : Int32} {x17 : Int32} {x18 : Int32} {σ : Sg} {d : Dt} {ad : Nat → Nat} (hf : f_L_law_J503 xs L kb244 t0 x1 x2 x3 x4 x5 x6 x7 x8 x9 x10 x11 x12 x13 x15 x16 x17 x18 σ d = some 1) {nb244 cells slots : Nat} (hB : cells + (607 + nb244 * 608) ≤ 37982 ∧ slots + 64 * (607 + nb244 * 608) ≤ 2430848) (hkb244 : ∀ (y14 : Int32) (y15 : Int32) (σ : Sg) (d : Dt), kb244 y14 y15 σ d = some 1 → ∀ (ad : Nat → Nat), aw_ext σ0 ad0 σ ad → ∀ (cells slots : Nat), cells + (0 + nb244 * 608) ≤ 37982 ∧ slots + 64 * (0 + nb244 * 608) ≤ 2430848 → ∀ (H : Heap) (locs : List Loc) (ls : Array Slot), lv_has ls 20 [(0, .ref b), (1, .ref (ad x1)), (2, .ref (ad x2)), (3, .ref (ad x3)), (4, .ref (ad x4)), (5, .ref (ad x5)), (6, .ref (ad x6)), (7, .ref (ad x7)), (8, .ref (ad x8)), (9, .ref (ad x9)), (10, .ref (ad x10)), (11, .ref (ad x11)), (12, .ref (ad x12)), (13, .ref (ad x13)), (14, .int y14), (15, .int y15)] → aw_G D cA s.heap.size ad σ d s H locs → W p l e room_1 s m #[Value.ref b] below meth c H locs cells slots (lw_Z below #[Value.ref b] s) (F0 m 244 ls [])) (E : aw_ext σ0 ad0 σ ad) {H : Heap} {locs : List Loc} {ls : Array Slot} (hl : lv_has ls 20 [(0, .ref b), (1, .ref (ad x1)), (2, .ref (ad x2)), (3, .ref (ad x3)), (4, .ref (ad x4)), (5, .ref (ad x5)), (6, .ref (ad x6)), (7, .ref (ad x7)), (8, .ref (ad x8)), (9, .ref (ad x9)), (10, .ref (ad x10)), (11, .ref (ad x11)), (12, .ref (ad x12)), (13, .ref (ad x13)), (15, .int x15), (16, .int x16), (17, .int x17), (18, .int x18)]) (G : aw_G D cA s.heap.size ad σ d s H locs) : W p l e room_1 s m #[Value.ref b] below meth c H locs cells slots (lw_Z below #[Value.ref b] s) (F0 m 503 ls [.int t0]) := by
  have hx := X.1; have hb := X.2.1; have hml := X.2.2.1; have hown := X.2.2.2.1
  have hbA : ¬ (fun q => s.heap.size ≤ q) b := Nat.not_le.mpr hbl
  unfold f_L_law_J503 at hf
  refine lv_istore (lv' := [(19, .int t0), (0, .ref b), (1, .ref (ad x1)), (2, .ref (ad x2)), (3, .ref (ad x3)), (4, .ref (ad x4)), (5, .ref (ad x5)), (6, .ref (ad x6)), (7, .ref (ad x7)), (8, .ref (ad x8)), (9, .ref (ad x9)), (10, .ref (ad x10)), (11, .ref (ad x11)), (12, .ref (ad x12)), (13, .ref (ad x13)), (15, .int x15), (16, .int x16), (17, .int x17), (18, .int x18)]) hx hb dL_law_503 hl (by decide) rfl (fun ls hl => ?_)
  refine lv_iload hx hb dL_law_505 (lv_at hl 0 rfl) ?_
  refine lv_iconst (v := (1 : Int32)) hx hb dL_law_507 (by decide) ?_
  refine lv_icmp_ne (tgt := 552) hx hb dL_law_508 (by decide) (fun hc => ?_) (fun hc => ?_)
  · have hf := aw_ite_f hc hf
    refine lv_aload_n hx hb dL_law_552 rfl (lv_at hl 2 rfl) ?_
    refine lv_aload hx hb dL_law_553 (lv_at hl 6 rfl) ?_
    refine lv_aload hx hb dL_law_555 (lv_at hl 8 rfl) ?_
    refine lv_aload hx hb dL_law_557 (lv_at hl 12 rfl) ?_
    refine lv_iload hx hb dL_law_559 (lv_at hl 0 rfl) ?_
    refine lv_iload hx hb dL_law_561 (lv_at hl 16 rfl) ?_
    refine lv_bipush (v := (34 : Int32)) hx hb dL_law_563 (by decide) ?_
    refine lv_icmp_ge (tgt := 572) hx hb dL_law_565 (by decide) (fun hc => ?_) (fun hc => ?_)
    · have hf := aw_ite_t hc hf
      refine lv_iload hx hb dL_law_572 (lv_at hl 16 rfl) ?_
      refine lv_bipush (v := (38 : Int32)) hx hb dL_law_574 (by decide) ?_
      refine lv_icmp_ge (tgt := 583) hx hb dL_law_576 (by decide) (fun hc => ?_) (fun hc => ?_)
      · have hf := aw_ite_t hc hf
        refine lv_iconst (v := (2 : Int32)) hx hb dL_law_583 (by decide) ?_
        exact w_L_law_J584 X hst hX hbl (nb244 := nb244) hf ⟨by omega, by omega⟩ hkb244 E (lv_sub hl [1, 2, 3, 4, 5, 6, 7, 8, 9, 10, 11, 12, 13, 14, 15, 17, 18] rfl) G
      · have hf := aw_ite_f hc hf
        refine lv_iconst (v := (1 : Int32)) hx hb dL_law_579 (by decide) ?_
        refine lv_goto (tgt := 584) hx hb dL_law_580 (by decide) ?_
        exact w_L_law_J584 X hst hX hbl (nb244 := nb244) hf ⟨by omega, by omega⟩ hkb244 E (lv_sub hl [1, 2, 3, 4, 5, 6, 7, 8, 9, 10, 11, 12, 13, 14, 15, 17, 18] rfl) G
    · have hf := aw_ite_f hc hf
      refine lv_iconst (v := (0 : Int32)) hx hb dL_law_568 (by decide) ?_
      refine lv_goto (tgt := 584) hx hb dL_law_569 (by decide) ?_
      exact w_L_law_J584 X hst hX hbl (nb244 := nb244) hf ⟨by omega, by omega⟩ hkb244 E (lv_sub hl [1, 2, 3, 4, 5, 6, 7, 8, 9, 10, 11, 12, 13, 14, 15, 17, 18] rfl) G
  · have hf := aw_ite_t hc hf
    refine lv_aload_n hx hb dL_law_511 rfl (lv_at hl 2 rfl) ?_
    refine lv_aload hx hb dL_law_512 (lv_at hl 7 rfl) ?_
    refine lv_aload hx hb dL_law_514 (lv_at hl 9 rfl) ?_
    refine lv_aload hx hb dL_law_516 (lv_at hl 12 rfl) ?_
    refine lv_iconst (v := (1 : Int32)) hx hb dL_law_518 (by decide) ?_
    refine lv_iload hx hb dL_law_519 (lv_at hl 16 rfl) ?_
    refine lv_bipush (v := (34 : Int32)) hx hb dL_law_521 (by decide) ?_
    refine lv_icmp_ge (tgt := 530) hx hb dL_law_523 (by decide) (fun hc => ?_) (fun hc => ?_)
    · have hf := aw_ite_t hc hf
      refine lv_iload hx hb dL_law_530 (lv_at hl 16 rfl) ?_
      refine lv_bipush (v := (38 : Int32)) hx hb dL_law_532 (by decide) ?_
      refine lv_icmp_ge (tgt := 541) hx hb dL_law_534 (by decide) (fun hc => ?_) (fun hc => ?_)
      · have hf := aw_ite_t hc hf
        refine lv_iconst (v := (2 : Int32)) hx hb dL_law_541 (by decide) ?_
        exact w_L_law_J542 X hst hX hbl (nb244 := nb244) hf ⟨by omega, by omega⟩ hkb244 E (lv_sub hl [1, 2, 3, 4, 5, 6, 7, 8, 9, 10, 11, 12, 13, 14, 15, 17, 18] rfl) G
      · have hf := aw_ite_f hc hf
        refine lv_iconst (v := (1 : Int32)) hx hb dL_law_537 (by decide) ?_
        refine lv_goto (tgt := 542) hx hb dL_law_538 (by decide) ?_
        exact w_L_law_J542 X hst hX hbl (nb244 := nb244) hf ⟨by omega, by omega⟩ hkb244 E (lv_sub hl [1, 2, 3, 4, 5, 6, 7, 8, 9, 10, 11, 12, 13, 14, 15, 17, 18] rfl) G
    · have hf := aw_ite_f hc hf
      refine lv_iconst (v := (0 : Int32)) hx hb dL_law_526 (by decide) ?_
      refine lv_goto (tgt := 542) hx hb dL_law_527 (by decide) ?_
      exact w_L_law_J542 X hst hX hbl (nb244 := nb244) hf ⟨by omega, by omega⟩ hkb244 E (lv_sub hl [1, 2, 3, 4, 5, 6, 7, 8, 9, 10, 11, 12, 13, 14, 15, 17, 18] rfl) G
set_option maxHeartbeats 4000000 in
set_option maxRecDepth 100000 in
theorem w_L_law_J433  (X : aw_X p c cL_law 20 s RL m meth (ret)) (hst : l.stackTraces = false) {b L : Nat} {xs : Nat → Int32} (hX : va_X b L xs s s.heap) (hbl : b < s.heap.size) {kb244 : Int32 → Int32 → Sg → Dt → Option (Int32)} {t6 : Int32} {t5 : Nat} {t4 : Nat} {t3 : Nat} {t2 : Nat} {t1 : Nat} {t0 : Nat} {x1 : Nat} {x2 : Nat} {x3 : Nat} {x4 : Nat} {x5 : Nat} {x6 : Nat} {x7 : Nat} {x8 : Nat} {x9 : Nat} {x10 : Nat} {x11 : Nat} {x12 : Nat} {x13 : Nat} {x15 : Int32} {x17 : Int32} {x18 : Int32} {σ : Sg} {d : Dt} {ad : Nat → Nat} (hf : f_L_law_J433 xs L kb244 t6 t5 t4 t3 t2 t1 t0 x1 x2 x3 x4 x5 x6 x7 x8 x9 x10 x11 x12 x13 x15 x17 x18 σ d = some 1) {nb244 cells slots : Nat} (hB : cells + (608 + nb244 * 608) ≤ 37982 ∧ slots + 64 * (608 + nb244 * 608) ≤ 2430848) (hkb244 : ∀ (y14 : Int32) (y15 : Int32) (σ : Sg) (d : Dt), kb244 y14 y15 σ d = some 1 → ∀ (ad : Nat → Nat), aw_ext σ0 ad0 σ ad → ∀ (cells slots : Nat), cells + (0 + nb244 * 608) ≤ 37982 ∧ slots + 64 * (0 + nb244 * 608) ≤ 2430848 → ∀ (H : Heap) (locs : List Loc) (ls : Array Slot), lv_has ls 20 [(0, .ref b), (1, .ref (ad x1)), (2, .ref (ad x2)), (3, .ref (ad x3)), (4, .ref (ad x4)), (5, .ref (ad x5)), (6, .ref (ad x6)), (7, .ref (ad x7)), (8, .ref (ad x8)), (9, .ref (ad x9)), (10, .ref (ad x10)), (11, .ref (ad x11)), (12, .ref (ad x12)), (13, .ref (ad x13)), (14, .int y14), (15, .int y15)] → aw_G D cA s.heap.size ad σ d s H locs → W p l e room_1 s m #[Value.ref b] below meth c H locs cells slots (lw_Z below #[Value.ref b] s) (F0 m 244 ls [])) (E : aw_ext σ0 ad0 σ ad) {H : Heap} {locs : List Loc} {ls : Array Slot} (hl : lv_has ls 20 [(0, .ref b), (1, .ref (ad x1)), (2, .ref (ad x2)), (3, .ref (ad x3)), (4, .ref (ad x4)), (5, .ref (ad x5)), (6, .ref (ad x6)), (7, .ref (ad x7)), (8, .ref (ad x8)), (9, .ref (ad x9)), (10, .ref (ad x10)), (11, .ref (ad x11)), (12, .ref (ad x12)), (13, .ref (ad x13)), (15, .int x15), (17, .int x17), (18, .int x18)]) (G : aw_G D cA s.heap.size ad σ d s H locs) : W p l e room_1 s m #[Value.ref b] below meth c H locs cells slots (lw_Z below #[Value.ref b] s) (F0 m 433 ls [.int t6, .ref (ad t5), .ref (ad t4), .ref (ad t3), .ref (ad t2), .ref (ad t1), .ref (ad t0)]) := by
  have hx := X.1; have hb := X.2.1; have hml := X.2.2.1; have hown := X.2.2.2.1
  have hbA : ¬ (fun q => s.heap.size ≤ q) b := Nat.not_le.mpr hbl
  unfold f_L_law_J433 at hf
  refine lv_iload hx hb dL_law_433 (lv_at hl 15 rfl) ?_
  refine lv_iload hx hb dL_law_435 (lv_at hl 16 rfl) ?_
  obtain ⟨hc_301, hf⟩ := aw_chk_some hf
  obtain ⟨hc_302, hf⟩ := aw_chk_some hf
  obtain ⟨hc_303, hf⟩ := aw_chk_some hf
  obtain ⟨hc_304, hf⟩ := aw_chk_some hf
  obtain ⟨hc_305, hf⟩ := aw_chk_some hf
  obtain ⟨hc_306, hf⟩ := aw_chk_some hf
  obtain ⟨hc_307, hf⟩ := aw_chk_some hf
  obtain ⟨hc_308, hf⟩ := aw_chk_some hf
  obtain ⟨hc_309, hf⟩ := aw_chk_some hf
  obtain ⟨hc_310, hf⟩ := aw_chk_some hf
  obtain ⟨hc_311, hf⟩ := aw_chk_some hf
  obtain ⟨hc_312, hf⟩ := aw_chk_some hf
  obtain ⟨hc_313, hf⟩ := aw_chk_some hf
  obtain ⟨z_299, hz_300, hf⟩ := aw_bind_some hf
  refine aw_TD (As := [.ref (ad t0), .ref (ad t1), .ref (ad t2), .ref (ad t3), .ref (ad t4), .ref (ad t5), .int t6, .int x17, .int x18]) (rest := []) X G E hl.1 cr_L_212 (c_L_isTold l hst hz_300) rfl rfl rfl ⟨(Nat.le_of_ble_eq_true rfl), (Nat.le_of_ble_eq_true rfl)⟩ (Nat.le_of_ble_eq_true rfl) dL_law_437 4 256 ⟨(Nat.le_of_ble_eq_true rfl), (Nat.le_of_ble_eq_true rfl)⟩ ⟨by show cells + 4 ≤ 600086; omega, by show slots + 256 ≤ 7301442; omega⟩ (fun ad_314 H locs hext_316 E_315 G => ?_)
  have ha_317 := (hext_316 _ hc_301).symm
  rw [ha_317] at hl
  have ha_318 := (hext_316 _ hc_302).symm
  rw [ha_318] at hl
  have ha_319 := (hext_316 _ hc_303).symm
  rw [ha_319] at hl
  have ha_320 := (hext_316 _ hc_304).symm
  rw [ha_320] at hl
  have ha_321 := (hext_316 _ hc_305).symm
  rw [ha_321] at hl
  have ha_322 := (hext_316 _ hc_306).symm
  rw [ha_322] at hl
  have ha_323 := (hext_316 _ hc_307).symm
  rw [ha_323] at hl
  have ha_324 := (hext_316 _ hc_308).symm
  rw [ha_324] at hl
  have ha_325 := (hext_316 _ hc_309).symm
  rw [ha_325] at hl
  have ha_326 := (hext_316 _ hc_310).symm
  rw [ha_326] at hl
  have ha_327 := (hext_316 _ hc_311).symm
  rw [ha_327] at hl
  have ha_328 := (hext_316 _ hc_312).symm
  rw [ha_328] at hl
  have ha_329 := (hext_316 _ hc_313).symm
  rw [ha_329] at hl
  refine lv_istore (lv' := [(14, .int z_299.1), (0, .ref b), (1, .ref (ad_314 x1)), (2, .ref (ad_314 x2)), (3, .ref (ad_314 x3)), (4, .ref (ad_314 x4)), (5, .ref (ad_314 x5)), (6, .ref (ad_314 x6)), (7, .ref (ad_314 x7)), (8, .ref (ad_314 x8)), (9, .ref (ad_314 x9)), (10, .ref (ad_314 x10)), (11, .ref (ad_314 x11)), (12, .ref (ad_314 x12)), (13, .ref (ad_314 x13)), (15, .int x15), (17, .int x17), (18, .int x18)]) hx hb dL_law_440 hl (by decide) rfl (fun ls hl => ?_)
  refine lv_goto (tgt := 593) hx hb dL_law_442 (by decide) ?_
  exact w_L_law_J593 X hst hX hbl (nb244 := nb244) hf ⟨by omega, by omega⟩ hkb244 E_315 (lv_sub hl [1, 2, 3, 4, 5, 6, 7, 8, 9, 10, 11, 12, 13, 14, 0, 15, 16, 17] rfl) G
set_option maxHeartbeats 4000000 in
set_option maxRecDepth 100000 in
theorem w_L_law_J391  (X : aw_X p c cL_law 20 s RL m meth (ret)) (hst : l.stackTraces = false) {b L : Nat} {xs : Nat → Int32} (hX : va_X b L xs s s.heap) (hbl : b < s.heap.size) {kb244 : Int32 → Int32 → Sg → Dt → Option (Int32)} {t5 : Int32} {t4 : Nat} {t3 : Nat} {t2 : Nat} {t1 : Nat} {t0 : Nat} {x1 : Nat} {x2 : Nat} {x3 : Nat} {x4 : Nat} {x5 : Nat} {x6 : Nat} {x7 : Nat} {x8 : Nat} {x9 : Nat} {x10 : Nat} {x11 : Nat} {x12 : Nat} {x13 : Nat} {x15 : Int32} {x17 : Int32} {x18 : Int32} {σ : Sg} {d : Dt} {ad : Nat → Nat} (hf : f_L_law_J391 xs L kb244 t5 t4 t3 t2 t1 t0 x1 x2 x3 x4 x5 x6 x7 x8 x9 x10 x11 x12 x13 x15 x17 x18 σ d = some 1) {nb244 cells slots : Nat} (hB : cells + (606 + nb244 * 608) ≤ 37982 ∧ slots + 64 * (606 + nb244 * 608) ≤ 2430848) (hkb244 : ∀ (y14 : Int32) (y15 : Int32) (σ : Sg) (d : Dt), kb244 y14 y15 σ d = some 1 → ∀ (ad : Nat → Nat), aw_ext σ0 ad0 σ ad → ∀ (cells slots : Nat), cells + (0 + nb244 * 608) ≤ 37982 ∧ slots + 64 * (0 + nb244 * 608) ≤ 2430848 → ∀ (H : Heap) (locs : List Loc) (ls : Array Slot), lv_has ls 20 [(0, .ref b), (1, .ref (ad x1)), (2, .ref (ad x2)), (3, .ref (ad x3)), (4, .ref (ad x4)), (5, .ref (ad x5)), (6, .ref (ad x6)), (7, .ref (ad x7)), (8, .ref (ad x8)), (9, .ref (ad x9)), (10, .ref (ad x10)), (11, .ref (ad x11)), (12, .ref (ad x12)), (13, .ref (ad x13)), (14, .int y14), (15, .int y15)] → aw_G D cA s.heap.size ad σ d s H locs → W p l e room_1 s m #[Value.ref b] below meth c H locs cells slots (lw_Z below #[Value.ref b] s) (F0 m 244 ls [])) (E : aw_ext σ0 ad0 σ ad) {H : Heap} {locs : List Loc} {ls : Array Slot} (hl : lv_has ls 20 [(0, .ref b), (1, .ref (ad x1)), (2, .ref (ad x2)), (3, .ref (ad x3)), (4, .ref (ad x4)), (5, .ref (ad x5)), (6, .ref (ad x6)), (7, .ref (ad x7)), (8, .ref (ad x8)), (9, .ref (ad x9)), (10, .ref (ad x10)), (11, .ref (ad x11)), (12, .ref (ad x12)), (13, .ref (ad x13)), (15, .int x15), (17, .int x17), (18, .int x18)]) (G : aw_G D cA s.heap.size ad σ d s H locs) : W p l e room_1 s m #[Value.ref b] below meth c H locs cells slots (lw_Z below #[Value.ref b] s) (F0 m 391 ls [.int t5, .ref (ad t4), .ref (ad t3), .ref (ad t2), .ref (ad t1), .ref (ad t0)]) := by
  have hx := X.1; have hb := X.2.1; have hml := X.2.2.1; have hown := X.2.2.2.1
  have hbA : ¬ (fun q => s.heap.size ≤ q) b := Nat.not_le.mpr hbl
  unfold f_L_law_J391 at hf
  refine lv_iload hx hb dL_law_391 (lv_at hl 15 rfl) ?_
  refine lv_iload hx hb dL_law_393 (lv_at hl 16 rfl) ?_
  obtain ⟨z_330, hz_331, hf⟩ := aw_bind_some hf
  refine aw_TI (As := [.ref (ad t0), .ref (ad t1), .ref (ad t2), .ref (ad t3), .ref (ad t4), .int t5, .int x17, .int x18]) (rest := []) X G hl.1 cr_L_208 (c_L_isWord l hst hz_331) rfl rfl rfl ⟨(Nat.le_of_ble_eq_true rfl), (Nat.le_of_ble_eq_true rfl)⟩ (Nat.le_of_ble_eq_true rfl) dL_law_395 2 128 ⟨(Nat.le_of_ble_eq_true rfl), (Nat.le_of_ble_eq_true rfl)⟩ ⟨by show cells + 2 ≤ 600086; omega, by show slots + 128 ≤ 7301442; omega⟩ (fun H locs G => ?_)
  refine lv_istore (lv' := [(14, .int z_330.1), (0, .ref b), (1, .ref (ad x1)), (2, .ref (ad x2)), (3, .ref (ad x3)), (4, .ref (ad x4)), (5, .ref (ad x5)), (6, .ref (ad x6)), (7, .ref (ad x7)), (8, .ref (ad x8)), (9, .ref (ad x9)), (10, .ref (ad x10)), (11, .ref (ad x11)), (12, .ref (ad x12)), (13, .ref (ad x13)), (15, .int x15), (17, .int x17), (18, .int x18)]) hx hb dL_law_398 hl (by decide) rfl (fun ls hl => ?_)
  refine lv_goto (tgt := 593) hx hb dL_law_400 (by decide) ?_
  exact w_L_law_J593 X hst hX hbl (nb244 := nb244) hf ⟨by omega, by omega⟩ hkb244 E (lv_sub hl [1, 2, 3, 4, 5, 6, 7, 8, 9, 10, 11, 12, 13, 14, 0, 15, 16, 17] rfl) G
set_option maxHeartbeats 4000000 in
set_option maxRecDepth 100000 in
theorem w_L_law_J324  (X : aw_X p c cL_law 20 s RL m meth (ret)) (hst : l.stackTraces = false) {b L : Nat} {xs : Nat → Int32} (hX : va_X b L xs s s.heap) (hbl : b < s.heap.size) {kb244 : Int32 → Int32 → Sg → Dt → Option (Int32)} {t0 : Int32} {x1 : Nat} {x2 : Nat} {x3 : Nat} {x4 : Nat} {x5 : Nat} {x6 : Nat} {x7 : Nat} {x8 : Nat} {x9 : Nat} {x10 : Nat} {x11 : Nat} {x12 : Nat} {x13 : Nat} {x15 : Int32} {σ : Sg} {d : Dt} {ad : Nat → Nat} (hf : f_L_law_J324 xs L kb244 t0 x1 x2 x3 x4 x5 x6 x7 x8 x9 x10 x11 x12 x13 x15 σ d = some 1) {nb244 cells slots : Nat} (hB : cells + (608 + nb244 * 608) ≤ 37982 ∧ slots + 64 * (608 + nb244 * 608) ≤ 2430848) (hkb244 : ∀ (y14 : Int32) (y15 : Int32) (σ : Sg) (d : Dt), kb244 y14 y15 σ d = some 1 → ∀ (ad : Nat → Nat), aw_ext σ0 ad0 σ ad → ∀ (cells slots : Nat), cells + (0 + nb244 * 608) ≤ 37982 ∧ slots + 64 * (0 + nb244 * 608) ≤ 2430848 → ∀ (H : Heap) (locs : List Loc) (ls : Array Slot), lv_has ls 20 [(0, .ref b), (1, .ref (ad x1)), (2, .ref (ad x2)), (3, .ref (ad x3)), (4, .ref (ad x4)), (5, .ref (ad x5)), (6, .ref (ad x6)), (7, .ref (ad x7)), (8, .ref (ad x8)), (9, .ref (ad x9)), (10, .ref (ad x10)), (11, .ref (ad x11)), (12, .ref (ad x12)), (13, .ref (ad x13)), (14, .int y14), (15, .int y15)] → aw_G D cA s.heap.size ad σ d s H locs → W p l e room_1 s m #[Value.ref b] below meth c H locs cells slots (lw_Z below #[Value.ref b] s) (F0 m 244 ls [])) (E : aw_ext σ0 ad0 σ ad) {H : Heap} {locs : List Loc} {ls : Array Slot} (hl : lv_has ls 20 [(0, .ref b), (1, .ref (ad x1)), (2, .ref (ad x2)), (3, .ref (ad x3)), (4, .ref (ad x4)), (5, .ref (ad x5)), (6, .ref (ad x6)), (7, .ref (ad x7)), (8, .ref (ad x8)), (9, .ref (ad x9)), (10, .ref (ad x10)), (11, .ref (ad x11)), (12, .ref (ad x12)), (13, .ref (ad x13)), (15, .int x15)]) (G : aw_G D cA s.heap.size ad σ d s H locs) : W p l e room_1 s m #[Value.ref b] below meth c H locs cells slots (lw_Z below #[Value.ref b] s) (F0 m 324 ls [.int t0]) := by
  have hx := X.1; have hb := X.2.1; have hml := X.2.2.1; have hown := X.2.2.2.1
  have hbA : ¬ (fun q => s.heap.size ≤ q) b := Nat.not_le.mpr hbl
  unfold f_L_law_J324 at hf
  refine lv_istore (lv' := [(16, .int t0), (0, .ref b), (1, .ref (ad x1)), (2, .ref (ad x2)), (3, .ref (ad x3)), (4, .ref (ad x4)), (5, .ref (ad x5)), (6, .ref (ad x6)), (7, .ref (ad x7)), (8, .ref (ad x8)), (9, .ref (ad x9)), (10, .ref (ad x10)), (11, .ref (ad x11)), (12, .ref (ad x12)), (13, .ref (ad x13)), (15, .int x15)]) hx hb dL_law_324 hl (by decide) rfl (fun ls hl => ?_)
  refine lv_aload_n hx hb dL_law_326 rfl (lv_at hl 1 rfl) ?_
  refine lv_iconst (v := (3 : Int32)) hx hb dL_law_327 (by decide) ?_
  refine lv_iload hx hb dL_law_328 (lv_at hl 15 rfl) ?_
  refine lv_imul hx hb dL_law_330 ?_
  refine lv_iconst (v := (1 : Int32)) hx hb dL_law_331 (by decide) ?_
  refine lv_iadd hx hb dL_law_332 ?_
  refine lv_ldc (v := (60000 : Int32)) hx hb hown (G.1.hts _ m_982) dL_law_333 ?_
  obtain ⟨z_251, hz_252, hf⟩ := aw_bind_some hf
  refine aw_PI (As := [.ref b, .int ((((3 : Int32)) * x15) + ((1 : Int32))), .int ((60000 : Int32))]) (rest := []) X G hl.1 cr_L_204 (c_L_part l hz_252) hX hbl rfl rfl rfl ⟨(Nat.le_of_ble_eq_true rfl), (Nat.le_of_ble_eq_true rfl)⟩ (Nat.le_of_ble_eq_true rfl) dL_law_335 ⟨by show cells + 0 ≤ 600086; omega, by show slots + 0 ≤ 7301442; omega⟩ rfl (fun H locs G => ?_)
  refine lv_istore (lv' := [(17, .int z_251.1), (16, .int t0), (0, .ref b), (1, .ref (ad x1)), (2, .ref (ad x2)), (3, .ref (ad x3)), (4, .ref (ad x4)), (5, .ref (ad x5)), (6, .ref (ad x6)), (7, .ref (ad x7)), (8, .ref (ad x8)), (9, .ref (ad x9)), (10, .ref (ad x10)), (11, .ref (ad x11)), (12, .ref (ad x12)), (13, .ref (ad x13)), (15, .int x15)]) hx hb dL_law_338 hl (by decide) rfl (fun ls hl => ?_)
  refine lv_aload_n hx hb dL_law_340 rfl (lv_at hl 2 rfl) ?_
  refine lv_iconst (v := (3 : Int32)) hx hb dL_law_341 (by decide) ?_
  refine lv_iload hx hb dL_law_342 (lv_at hl 16 rfl) ?_
  refine lv_imul hx hb dL_law_344 ?_
  refine lv_iconst (v := (2 : Int32)) hx hb dL_law_345 (by decide) ?_
  refine lv_iadd hx hb dL_law_346 ?_
  refine lv_ldc (v := (60000 : Int32)) hx hb hown (G.1.hts _ m_982) dL_law_347 ?_
  obtain ⟨z_253, hz_254, hf⟩ := aw_bind_some hf
  refine aw_PI (As := [.ref b, .int ((((3 : Int32)) * x15) + ((2 : Int32))), .int ((60000 : Int32))]) (rest := []) X G hl.1 cr_L_204 (c_L_part l hz_254) hX hbl rfl rfl rfl ⟨(Nat.le_of_ble_eq_true rfl), (Nat.le_of_ble_eq_true rfl)⟩ (Nat.le_of_ble_eq_true rfl) dL_law_349 ⟨by show cells + 0 ≤ 600086; omega, by show slots + 0 ≤ 7301442; omega⟩ rfl (fun H locs G => ?_)
  refine lv_istore (lv' := [(18, .int z_253.1), (17, .int z_251.1), (16, .int t0), (0, .ref b), (1, .ref (ad x1)), (2, .ref (ad x2)), (3, .ref (ad x3)), (4, .ref (ad x4)), (5, .ref (ad x5)), (6, .ref (ad x6)), (7, .ref (ad x7)), (8, .ref (ad x8)), (9, .ref (ad x9)), (10, .ref (ad x10)), (11, .ref (ad x11)), (12, .ref (ad x12)), (13, .ref (ad x13)), (15, .int x15)]) hx hb dL_law_352 hl (by decide) rfl (fun ls hl => ?_)
  refine lv_iload hx hb dL_law_354 (lv_at hl 2 rfl) ?_
  refine lv_bipush (v := (19 : Int32)) hx hb dL_law_356 (by decide) ?_
  refine lv_icmp_ge (tgt := 403) hx hb dL_law_358 (by decide) (fun hc => ?_) (fun hc => ?_)
  · have hf := aw_ite_t hc hf
    refine lv_iload hx hb dL_law_403 (lv_at hl 2 rfl) ?_
    refine lv_bipush (v := (24 : Int32)) hx hb dL_law_405 (by decide) ?_
    refine lv_icmp_ge (tgt := 445) hx hb dL_law_407 (by decide) (fun hc => ?_) (fun hc => ?_)
    · have hf := aw_ite_t hc hf
      refine lv_iload hx hb dL_law_445 (lv_at hl 2 rfl) ?_
      refine lv_bipush (v := (26 : Int32)) hx hb dL_law_447 (by decide) ?_
      refine lv_icmp_ge (tgt := 476) hx hb dL_law_449 (by decide) (fun hc => ?_) (fun hc => ?_)
      · have hf := aw_ite_t hc hf
        refine lv_iload hx hb dL_law_476 (lv_at hl 1 rfl) ?_
        refine lv_bipush (v := (60 : Int32)) hx hb dL_law_478 (by decide) ?_
        refine lv_idiv hx hb dL_law_480 (by decide) ?_
        refine lv_bipush (v := (9 : Int32)) hx hb dL_law_481 (by decide) ?_
        refine lv_irem hx hb dL_law_483 (by decide) ?_
        refine lv_bipush (v := (8 : Int32)) hx hb dL_law_484 (by decide) ?_
        refine lv_icmp_ne (tgt := 496) hx hb dL_law_486 (by decide) (fun hc => ?_) (fun hc => ?_)
        · have hf := aw_ite_f hc hf
          refine lv_iload hx hb dL_law_496 (lv_at hl 1 rfl) ?_
          refine lv_bipush (v := (60 : Int32)) hx hb dL_law_498 (by decide) ?_
          refine lv_idiv hx hb dL_law_500 (by decide) ?_
          refine lv_iconst (v := (2 : Int32)) hx hb dL_law_501 (by decide) ?_
          refine lv_irem hx hb dL_law_502 (by decide) ?_
          exact w_L_law_J503 X hst hX hbl (nb244 := nb244) hf ⟨by omega, by omega⟩ hkb244 E (lv_sub hl [3, 4, 5, 6, 7, 8, 9, 10, 11, 12, 13, 14, 15, 16, 17, 2, 1, 0] rfl) G
        · have hf := aw_ite_t hc hf
          refine lv_aload hx hb dL_law_489 (lv_at hl 14 rfl) ?_
          refine lv_iconst (v := (1 : Int32)) hx hb dL_law_491 (by decide) ?_
          obtain ⟨hc_267, hf⟩ := aw_chk_some hf
          refine aw_ial hx hb G hc_267 dL_law_492 ?_
          refine lv_goto (tgt := 503) hx hb dL_law_493 (by decide) ?_
          exact w_L_law_J503 X hst hX hbl (nb244 := nb244) hf ⟨by omega, by omega⟩ hkb244 E (lv_sub hl [3, 4, 5, 6, 7, 8, 9, 10, 11, 12, 13, 14, 15, 16, 17, 2, 1, 0] rfl) G
      · have hf := aw_ite_f hc hf
        refine lv_aload_n hx hb dL_law_452 rfl (lv_at hl 4 rfl) ?_
        refine lv_aload hx hb dL_law_453 (lv_at hl 8 rfl) ?_
        refine lv_aload hx hb dL_law_455 (lv_at hl 9 rfl) ?_
        refine lv_aload hx hb dL_law_457 (lv_at hl 12 rfl) ?_
        refine lv_aload hx hb dL_law_459 (lv_at hl 13 rfl) ?_
        refine lv_aload hx hb dL_law_461 (lv_at hl 14 rfl) ?_
        refine lv_iconst (v := (0 : Int32)) hx hb dL_law_463 (by decide) ?_
        refine lv_iload hx hb dL_law_464 (lv_at hl 1 rfl) ?_
        refine lv_iload hx hb dL_law_466 (lv_at hl 0 rfl) ?_
        obtain ⟨hc_270, hf⟩ := aw_chk_some hf
        obtain ⟨hc_271, hf⟩ := aw_chk_some hf
        obtain ⟨hc_272, hf⟩ := aw_chk_some hf
        obtain ⟨hc_273, hf⟩ := aw_chk_some hf
        obtain ⟨hc_274, hf⟩ := aw_chk_some hf
        obtain ⟨hc_275, hf⟩ := aw_chk_some hf
        obtain ⟨hc_276, hf⟩ := aw_chk_some hf
        obtain ⟨hc_277, hf⟩ := aw_chk_some hf
        obtain ⟨hc_278, hf⟩ := aw_chk_some hf
        obtain ⟨hc_279, hf⟩ := aw_chk_some hf
        obtain ⟨hc_280, hf⟩ := aw_chk_some hf
        obtain ⟨hc_281, hf⟩ := aw_chk_some hf
        obtain ⟨hc_282, hf⟩ := aw_chk_some hf
        obtain ⟨z_268, hz_269, hf⟩ := aw_bind_some hf
        refine aw_TD (As := [.ref (ad x1), .ref (ad x5), .ref (ad x6), .ref (ad x9), .ref (ad x10), .ref (ad x11), .int ((0 : Int32)), .int z_251.1, .int z_253.1]) (rest := []) X G E hl.1 cr_L_212 (c_L_isTold l hst hz_269) rfl rfl rfl ⟨(Nat.le_of_ble_eq_true rfl), (Nat.le_of_ble_eq_true rfl)⟩ (Nat.le_of_ble_eq_true rfl) dL_law_468 4 256 ⟨(Nat.le_of_ble_eq_true rfl), (Nat.le_of_ble_eq_true rfl)⟩ ⟨by show cells + 4 ≤ 600086; omega, by show slots + 256 ≤ 7301442; omega⟩ (fun ad_283 H locs hext_285 E_284 G => ?_)
        have ha_286 := (hext_285 _ hc_270).symm
        rw [ha_286] at hl
        have ha_287 := (hext_285 _ hc_271).symm
        rw [ha_287] at hl
        have ha_288 := (hext_285 _ hc_272).symm
        rw [ha_288] at hl
        have ha_289 := (hext_285 _ hc_273).symm
        rw [ha_289] at hl
        have ha_290 := (hext_285 _ hc_274).symm
        rw [ha_290] at hl
        have ha_291 := (hext_285 _ hc_275).symm
        rw [ha_291] at hl
        have ha_292 := (hext_285 _ hc_276).symm
        rw [ha_292] at hl
        have ha_293 := (hext_285 _ hc_277).symm
        rw [ha_293] at hl
        have ha_294 := (hext_285 _ hc_278).symm
        rw [ha_294] at hl
        have ha_295 := (hext_285 _ hc_279).symm
        rw [ha_295] at hl
        have ha_296 := (hext_285 _ hc_280).symm
        rw [ha_296] at hl
        have ha_297 := (hext_285 _ hc_281).symm
        rw [ha_297] at hl
        have ha_298 := (hext_285 _ hc_282).symm
        rw [ha_298] at hl
        refine lv_istore (lv' := [(14, .int z_268.1), (18, .int z_253.1), (17, .int z_251.1), (16, .int t0), (0, .ref b), (1, .ref (ad_283 x1)), (2, .ref (ad_283 x2)), (3, .ref (ad_283 x3)), (4, .ref (ad_283 x4)), (5, .ref (ad_283 x5)), (6, .ref (ad_283 x6)), (7, .ref (ad_283 x7)), (8, .ref (ad_283 x8)), (9, .ref (ad_283 x9)), (10, .ref (ad_283 x10)), (11, .ref (ad_283 x11)), (12, .ref (ad_283 x12)), (13, .ref (ad_283 x13)), (15, .int x15)]) hx hb dL_law_471 hl (by decide) rfl (fun ls hl => ?_)
        refine lv_goto (tgt := 593) hx hb dL_law_473 (by decide) ?_
        exact w_L_law_J593 X hst hX hbl (nb244 := nb244) hf ⟨by omega, by omega⟩ hkb244 E_284 (lv_sub hl [4, 5, 6, 7, 8, 9, 10, 11, 12, 13, 14, 15, 16, 17, 0, 18, 2, 1] rfl) G
    · have hf := aw_ite_f hc hf
      refine lv_aload_n hx hb dL_law_410 rfl (lv_at hl 4 rfl) ?_
      refine lv_aload hx hb dL_law_411 (lv_at hl 8 rfl) ?_
      refine lv_aload hx hb dL_law_413 (lv_at hl 9 rfl) ?_
      refine lv_aload hx hb dL_law_415 (lv_at hl 12 rfl) ?_
      refine lv_aload hx hb dL_law_417 (lv_at hl 13 rfl) ?_
      refine lv_aload hx hb dL_law_419 (lv_at hl 14 rfl) ?_
      refine lv_iload hx hb dL_law_421 (lv_at hl 2 rfl) ?_
      refine lv_bipush (v := (21 : Int32)) hx hb dL_law_423 (by decide) ?_
      refine lv_icmp_ge (tgt := 432) hx hb dL_law_425 (by decide) (fun hc => ?_) (fun hc => ?_)
      · have hf := aw_ite_t hc hf
        refine lv_iconst (v := (2 : Int32)) hx hb dL_law_432 (by decide) ?_
        exact w_L_law_J433 X hst hX hbl (nb244 := nb244) hf ⟨by omega, by omega⟩ hkb244 E (lv_sub hl [3, 4, 5, 6, 7, 8, 9, 10, 11, 12, 13, 14, 15, 16, 17, 1, 0] rfl) G
      · have hf := aw_ite_f hc hf
        refine lv_iconst (v := (1 : Int32)) hx hb dL_law_428 (by decide) ?_
        refine lv_goto (tgt := 433) hx hb dL_law_429 (by decide) ?_
        exact w_L_law_J433 X hst hX hbl (nb244 := nb244) hf ⟨by omega, by omega⟩ hkb244 E (lv_sub hl [3, 4, 5, 6, 7, 8, 9, 10, 11, 12, 13, 14, 15, 16, 17, 1, 0] rfl) G
  · have hf := aw_ite_f hc hf
    refine lv_aload_n hx hb dL_law_361 rfl (lv_at hl 4 rfl) ?_
    refine lv_aload_n hx hb dL_law_362 rfl (lv_at hl 5 rfl) ?_
    refine lv_aload_n hx hb dL_law_363 rfl (lv_at hl 6 rfl) ?_
    refine lv_aload hx hb dL_law_364 (lv_at hl 7 rfl) ?_
    refine lv_aload hx hb dL_law_366 (lv_at hl 14 rfl) ?_
    refine lv_iload hx hb dL_law_368 (lv_at hl 2 rfl) ?_
    refine lv_bipush (v := (10 : Int32)) hx hb dL_law_370 (by decide) ?_
    refine lv_icmp_ge (tgt := 379) hx hb dL_law_372 (by decide) (fun hc => ?_) (fun hc => ?_)
    · have hf := aw_ite_t hc hf
      refine lv_iload hx hb dL_law_379 (lv_at hl 2 rfl) ?_
      refine lv_bipush (v := (15 : Int32)) hx hb dL_law_381 (by decide) ?_
      refine lv_icmp_ge (tgt := 390) hx hb dL_law_383 (by decide) (fun hc => ?_) (fun hc => ?_)
      · have hf := aw_ite_t hc hf
        refine lv_iconst (v := (2 : Int32)) hx hb dL_law_390 (by decide) ?_
        exact w_L_law_J391 X hst hX hbl (nb244 := nb244) hf ⟨by omega, by omega⟩ hkb244 E (lv_sub hl [3, 4, 5, 6, 7, 8, 9, 10, 11, 12, 13, 14, 15, 16, 17, 1, 0] rfl) G
      · have hf := aw_ite_f hc hf
        refine lv_iconst (v := (1 : Int32)) hx hb dL_law_386 (by decide) ?_
        refine lv_goto (tgt := 391) hx hb dL_law_387 (by decide) ?_
        exact w_L_law_J391 X hst hX hbl (nb244 := nb244) hf ⟨by omega, by omega⟩ hkb244 E (lv_sub hl [3, 4, 5, 6, 7, 8, 9, 10, 11, 12, 13, 14, 15, 16, 17, 1, 0] rfl) G
    · have hf := aw_ite_f hc hf
      refine lv_iconst (v := (0 : Int32)) hx hb dL_law_375 (by decide) ?_
      refine lv_goto (tgt := 391) hx hb dL_law_376 (by decide) ?_
      exact w_L_law_J391 X hst hX hbl (nb244 := nb244) hf ⟨by omega, by omega⟩ hkb244 E (lv_sub hl [3, 4, 5, 6, 7, 8, 9, 10, 11, 12, 13, 14, 15, 16, 17, 1, 0] rfl) G
set_option maxHeartbeats 4000000 in
set_option maxRecDepth 100000 in
theorem w_L_law_J286  (X : aw_X p c cL_law 20 s RL m meth (ret)) (hst : l.stackTraces = false) {b L : Nat} {xs : Nat → Int32} (hX : va_X b L xs s s.heap) (hbl : b < s.heap.size) {kb244 : Int32 → Int32 → Sg → Dt → Option (Int32)} {x1 : Nat} {x2 : Nat} {x3 : Nat} {x4 : Nat} {x5 : Nat} {x6 : Nat} {x7 : Nat} {x8 : Nat} {x9 : Nat} {x10 : Nat} {x11 : Nat} {x12 : Nat} {x13 : Nat} {x15 : Int32} {σ : Sg} {d : Dt} {ad : Nat → Nat} (hf : f_L_law_J286 xs L kb244 x1 x2 x3 x4 x5 x6 x7 x8 x9 x10 x11 x12 x13 x15 σ d = some 1) {nb244 cells slots : Nat} (hB : cells + (608 + nb244 * 608) ≤ 37982 ∧ slots + 64 * (608 + nb244 * 608) ≤ 2430848) (hkb244 : ∀ (y14 : Int32) (y15 : Int32) (σ : Sg) (d : Dt), kb244 y14 y15 σ d = some 1 → ∀ (ad : Nat → Nat), aw_ext σ0 ad0 σ ad → ∀ (cells slots : Nat), cells + (0 + nb244 * 608) ≤ 37982 ∧ slots + 64 * (0 + nb244 * 608) ≤ 2430848 → ∀ (H : Heap) (locs : List Loc) (ls : Array Slot), lv_has ls 20 [(0, .ref b), (1, .ref (ad x1)), (2, .ref (ad x2)), (3, .ref (ad x3)), (4, .ref (ad x4)), (5, .ref (ad x5)), (6, .ref (ad x6)), (7, .ref (ad x7)), (8, .ref (ad x8)), (9, .ref (ad x9)), (10, .ref (ad x10)), (11, .ref (ad x11)), (12, .ref (ad x12)), (13, .ref (ad x13)), (14, .int y14), (15, .int y15)] → aw_G D cA s.heap.size ad σ d s H locs → W p l e room_1 s m #[Value.ref b] below meth c H locs cells slots (lw_Z below #[Value.ref b] s) (F0 m 244 ls [])) (E : aw_ext σ0 ad0 σ ad) {H : Heap} {locs : List Loc} {ls : Array Slot} (hl : lv_has ls 20 [(0, .ref b), (1, .ref (ad x1)), (2, .ref (ad x2)), (3, .ref (ad x3)), (4, .ref (ad x4)), (5, .ref (ad x5)), (6, .ref (ad x6)), (7, .ref (ad x7)), (8, .ref (ad x8)), (9, .ref (ad x9)), (10, .ref (ad x10)), (11, .ref (ad x11)), (12, .ref (ad x12)), (13, .ref (ad x13)), (15, .int x15)]) (G : aw_G D cA s.heap.size ad σ d s H locs) : W p l e room_1 s m #[Value.ref b] below meth c H locs cells slots (lw_Z below #[Value.ref b] s) (F0 m 286 ls []) := by
  have hx := X.1; have hb := X.2.1; have hml := X.2.2.1; have hown := X.2.2.2.1
  have hbA : ¬ (fun q => s.heap.size ≤ q) b := Nat.not_le.mpr hbl
  unfold f_L_law_J286 at hf
  refine lv_iconst (v := (0 : Int32)) hx hb dL_law_286 (by decide) ?_
  refine lv_goto (tgt := 324) hx hb dL_law_287 (by decide) ?_
  exact w_L_law_J324 X hst hX hbl (nb244 := nb244) hf ⟨by omega, by omega⟩ hkb244 E (lv_sub hl [0, 1, 2, 3, 4, 5, 6, 7, 8, 9, 10, 11, 12, 13, 14] rfl) G
set_option maxHeartbeats 4000000 in
set_option maxRecDepth 100000 in
theorem w_L_law_J309  (X : aw_X p c cL_law 20 s RL m meth (ret)) (hst : l.stackTraces = false) {b L : Nat} {xs : Nat → Int32} (hX : va_X b L xs s s.heap) (hbl : b < s.heap.size) {kb244 : Int32 → Int32 → Sg → Dt → Option (Int32)} {x1 : Nat} {x2 : Nat} {x3 : Nat} {x4 : Nat} {x5 : Nat} {x6 : Nat} {x7 : Nat} {x8 : Nat} {x9 : Nat} {x10 : Nat} {x11 : Nat} {x12 : Nat} {x13 : Nat} {x15 : Int32} {σ : Sg} {d : Dt} {ad : Nat → Nat} (hf : f_L_law_J309 xs L kb244 x1 x2 x3 x4 x5 x6 x7 x8 x9 x10 x11 x12 x13 x15 σ d = some 1) {nb244 cells slots : Nat} (hB : cells + (608 + nb244 * 608) ≤ 37982 ∧ slots + 64 * (608 + nb244 * 608) ≤ 2430848) (hkb244 : ∀ (y14 : Int32) (y15 : Int32) (σ : Sg) (d : Dt), kb244 y14 y15 σ d = some 1 → ∀ (ad : Nat → Nat), aw_ext σ0 ad0 σ ad → ∀ (cells slots : Nat), cells + (0 + nb244 * 608) ≤ 37982 ∧ slots + 64 * (0 + nb244 * 608) ≤ 2430848 → ∀ (H : Heap) (locs : List Loc) (ls : Array Slot), lv_has ls 20 [(0, .ref b), (1, .ref (ad x1)), (2, .ref (ad x2)), (3, .ref (ad x3)), (4, .ref (ad x4)), (5, .ref (ad x5)), (6, .ref (ad x6)), (7, .ref (ad x7)), (8, .ref (ad x8)), (9, .ref (ad x9)), (10, .ref (ad x10)), (11, .ref (ad x11)), (12, .ref (ad x12)), (13, .ref (ad x13)), (14, .int y14), (15, .int y15)] → aw_G D cA s.heap.size ad σ d s H locs → W p l e room_1 s m #[Value.ref b] below meth c H locs cells slots (lw_Z below #[Value.ref b] s) (F0 m 244 ls [])) (E : aw_ext σ0 ad0 σ ad) {H : Heap} {locs : List Loc} {ls : Array Slot} (hl : lv_has ls 20 [(0, .ref b), (1, .ref (ad x1)), (2, .ref (ad x2)), (3, .ref (ad x3)), (4, .ref (ad x4)), (5, .ref (ad x5)), (6, .ref (ad x6)), (7, .ref (ad x7)), (8, .ref (ad x8)), (9, .ref (ad x9)), (10, .ref (ad x10)), (11, .ref (ad x11)), (12, .ref (ad x12)), (13, .ref (ad x13)), (15, .int x15)]) (G : aw_G D cA s.heap.size ad σ d s H locs) : W p l e room_1 s m #[Value.ref b] below meth c H locs cells slots (lw_Z below #[Value.ref b] s) (F0 m 309 ls []) := by
  have hx := X.1; have hb := X.2.1; have hml := X.2.2.1; have hown := X.2.2.2.1
  have hbA : ¬ (fun q => s.heap.size ≤ q) b := Nat.not_le.mpr hbl
  unfold f_L_law_J309 at hf
  refine lv_bipush (v := (10 : Int32)) hx hb dL_law_309 (by decide) ?_
  refine lv_goto (tgt := 324) hx hb dL_law_311 (by decide) ?_
  exact w_L_law_J324 X hst hX hbl (nb244 := nb244) hf ⟨by omega, by omega⟩ hkb244 E (lv_sub hl [0, 1, 2, 3, 4, 5, 6, 7, 8, 9, 10, 11, 12, 13, 14] rfl) G
set_option maxHeartbeats 4000000 in
set_option maxRecDepth 100000 in
theorem w_L_law_B244  (X : aw_X p c cL_law 20 s RL m meth (ret)) (hst : l.stackTraces = false) {b L : Nat} {xs : Nat → Int32} (hX : va_X b L xs s s.heap) (hbl : b < s.heap.size) {kb244 : Int32 → Int32 → Sg → Dt → Option (Int32)} {k244 : Int32 → Sg → Dt → Option (Int32)} {x1 : Nat} {x2 : Nat} {x3 : Nat} {x4 : Nat} {x5 : Nat} {x6 : Nat} {x7 : Nat} {x8 : Nat} {x9 : Nat} {x10 : Nat} {x11 : Nat} {x12 : Nat} {x13 : Nat} {x14 : Int32} {x15 : Int32} {σ : Sg} {d : Dt} {ad : Nat → Nat} (hf : f_L_law_B244 xs L kb244 k244 x1 x2 x3 x4 x5 x6 x7 x8 x9 x10 x11 x12 x13 x14 x15 σ d = some 1) {nb244 cells slots : Nat} (hB : cells + (608 + nb244 * 608) ≤ 37982 ∧ slots + 64 * (608 + nb244 * 608) ≤ 2430848) (hkb244 : ∀ (y14 : Int32) (y15 : Int32) (σ : Sg) (d : Dt), kb244 y14 y15 σ d = some 1 → ∀ (ad : Nat → Nat), aw_ext σ0 ad0 σ ad → ∀ (cells slots : Nat), cells + (0 + nb244 * 608) ≤ 37982 ∧ slots + 64 * (0 + nb244 * 608) ≤ 2430848 → ∀ (H : Heap) (locs : List Loc) (ls : Array Slot), lv_has ls 20 [(0, .ref b), (1, .ref (ad x1)), (2, .ref (ad x2)), (3, .ref (ad x3)), (4, .ref (ad x4)), (5, .ref (ad x5)), (6, .ref (ad x6)), (7, .ref (ad x7)), (8, .ref (ad x8)), (9, .ref (ad x9)), (10, .ref (ad x10)), (11, .ref (ad x11)), (12, .ref (ad x12)), (13, .ref (ad x13)), (14, .int y14), (15, .int y15)] → aw_G D cA s.heap.size ad σ d s H locs → W p l e room_1 s m #[Value.ref b] below meth c H locs cells slots (lw_Z below #[Value.ref b] s) (F0 m 244 ls [])) (hk244 : ∀ (y14 : Int32) (σ : Sg) (d : Dt), k244 y14 σ d = some 1 → ∀ (ad : Nat → Nat), aw_ext σ0 ad0 σ ad → ∀ (cells slots : Nat), cells + (0) ≤ 37982 ∧ slots + 64 * (0) ≤ 2430848 → ∀ (H : Heap) (locs : List Loc) (ls : Array Slot), lv_has ls 20 [(14, .int y14)] → aw_G D cA s.heap.size ad σ d s H locs → W p l e room_1 s m #[Value.ref b] below meth c H locs cells slots (lw_Z below #[Value.ref b] s) (F0 m 733 ls [])) (E : aw_ext σ0 ad0 σ ad) {H : Heap} {locs : List Loc} {ls : Array Slot} (hl : lv_has ls 20 [(0, .ref b), (1, .ref (ad x1)), (2, .ref (ad x2)), (3, .ref (ad x3)), (4, .ref (ad x4)), (5, .ref (ad x5)), (6, .ref (ad x6)), (7, .ref (ad x7)), (8, .ref (ad x8)), (9, .ref (ad x9)), (10, .ref (ad x10)), (11, .ref (ad x11)), (12, .ref (ad x12)), (13, .ref (ad x13)), (14, .int x14), (15, .int x15)]) (G : aw_G D cA s.heap.size ad σ d s H locs) : W p l e room_1 s m #[Value.ref b] below meth c H locs cells slots (lw_Z below #[Value.ref b] s) (F0 m 244 ls []) := by
  have hx := X.1; have hb := X.2.1; have hml := X.2.2.1; have hown := X.2.2.2.1
  have hbA : ¬ (fun q => s.heap.size ≤ q) b := Nat.not_le.mpr hbl
  unfold f_L_law_B244 at hf
  refine lv_iload hx hb dL_law_244 (lv_at hl 15 rfl) ?_
  refine lv_bipush (v := (60 : Int32)) hx hb dL_law_246 (by decide) ?_
  refine lv_icmp_ge (tgt := 733) hx hb dL_law_248 (by decide) (fun hc => ?_) (fun hc => ?_)
  · have hf := aw_ite_t hc hf
    exact hk244 _ _ _ hf _ E _ _ ⟨by omega, by omega⟩ _ _ _ (lv_sub hl [14] rfl) G
  · have hf := aw_ite_f hc hf
    refine lv_iload hx hb dL_law_251 (lv_at hl 14 rfl) ?_
    refine lv_if_eq (tgt := 733) hx hb dL_law_253 (by decide) (fun hc => ?_) (fun hc => ?_)
    · have hf := aw_ite_t hc hf
      exact hk244 _ _ _ hf _ E _ _ ⟨by omega, by omega⟩ _ _ _ (lv_sub hl [14] rfl) G
    · have hf := aw_ite_f hc hf
      refine lv_iload hx hb dL_law_256 (lv_at hl 15 rfl) ?_
      refine lv_iconst (v := (2 : Int32)) hx hb dL_law_258 (by decide) ?_
      refine lv_icmp_ge (tgt := 267) hx hb dL_law_259 (by decide) (fun hc => ?_) (fun hc => ?_)
      · have hf := aw_ite_t hc hf
        refine lv_iload hx hb dL_law_267 (lv_at hl 15 rfl) ?_
        refine lv_iconst (v := (2 : Int32)) hx hb dL_law_269 (by decide) ?_
        refine lv_icmp_eq (tgt := 286) hx hb dL_law_270 (by decide) (fun hc => ?_) (fun hc => ?_)
        · have hf := aw_ite_t hc hf
          exact w_L_law_J286 X hst hX hbl (nb244 := nb244) hf ⟨by omega, by omega⟩ hkb244 E (lv_sub hl [0, 1, 2, 3, 4, 5, 6, 7, 8, 9, 10, 11, 12, 13, 15] rfl) G
        · have hf := aw_ite_f hc hf
          refine lv_iload hx hb dL_law_273 (lv_at hl 15 rfl) ?_
          refine lv_iconst (v := (4 : Int32)) hx hb dL_law_275 (by decide) ?_
          refine lv_icmp_eq (tgt := 286) hx hb dL_law_276 (by decide) (fun hc => ?_) (fun hc => ?_)
          · have hf := aw_ite_t hc hf
            exact w_L_law_J286 X hst hX hbl (nb244 := nb244) hf ⟨by omega, by omega⟩ hkb244 E (lv_sub hl [0, 1, 2, 3, 4, 5, 6, 7, 8, 9, 10, 11, 12, 13, 15] rfl) G
          · have hf := aw_ite_f hc hf
            refine lv_iload hx hb dL_law_279 (lv_at hl 15 rfl) ?_
            refine lv_bipush (v := (6 : Int32)) hx hb dL_law_281 (by decide) ?_
            refine lv_icmp_ne (tgt := 290) hx hb dL_law_283 (by decide) (fun hc => ?_) (fun hc => ?_)
            · have hf := aw_ite_f hc hf
              refine lv_iload hx hb dL_law_290 (lv_at hl 15 rfl) ?_
              refine lv_iconst (v := (3 : Int32)) hx hb dL_law_292 (by decide) ?_
              refine lv_icmp_eq (tgt := 309) hx hb dL_law_293 (by decide) (fun hc => ?_) (fun hc => ?_)
              · have hf := aw_ite_t hc hf
                exact w_L_law_J309 X hst hX hbl (nb244 := nb244) hf ⟨by omega, by omega⟩ hkb244 E (lv_sub hl [0, 1, 2, 3, 4, 5, 6, 7, 8, 9, 10, 11, 12, 13, 15] rfl) G
              · have hf := aw_ite_f hc hf
                refine lv_iload hx hb dL_law_296 (lv_at hl 15 rfl) ?_
                refine lv_iconst (v := (5 : Int32)) hx hb dL_law_298 (by decide) ?_
                refine lv_icmp_eq (tgt := 309) hx hb dL_law_299 (by decide) (fun hc => ?_) (fun hc => ?_)
                · have hf := aw_ite_t hc hf
                  exact w_L_law_J309 X hst hX hbl (nb244 := nb244) hf ⟨by omega, by omega⟩ hkb244 E (lv_sub hl [0, 1, 2, 3, 4, 5, 6, 7, 8, 9, 10, 11, 12, 13, 15] rfl) G
                · have hf := aw_ite_f hc hf
                  refine lv_iload hx hb dL_law_302 (lv_at hl 15 rfl) ?_
                  refine lv_bipush (v := (7 : Int32)) hx hb dL_law_304 (by decide) ?_
                  refine lv_icmp_ne (tgt := 314) hx hb dL_law_306 (by decide) (fun hc => ?_) (fun hc => ?_)
                  · have hf := aw_ite_f hc hf
                    refine lv_aload_n hx hb dL_law_314 rfl (lv_at hl 0 rfl) ?_
                    refine lv_iconst (v := (3 : Int32)) hx hb dL_law_315 (by decide) ?_
                    refine lv_iload hx hb dL_law_316 (lv_at hl 15 rfl) ?_
                    refine lv_imul hx hb dL_law_318 ?_
                    refine lv_bipush (v := (40 : Int32)) hx hb dL_law_319 (by decide) ?_
                    obtain ⟨z_332, hz_333, hf⟩ := aw_bind_some hf
                    refine aw_PI (As := [.ref b, .int (((3 : Int32)) * x15), .int ((40 : Int32))]) (rest := []) X G hl.1 cr_L_204 (c_L_part l hz_333) hX hbl rfl rfl rfl ⟨(Nat.le_of_ble_eq_true rfl), (Nat.le_of_ble_eq_true rfl)⟩ (Nat.le_of_ble_eq_true rfl) dL_law_321 ⟨by show cells + 0 ≤ 600086; omega, by show slots + 0 ≤ 7301442; omega⟩ rfl (fun H locs G => ?_)
                    exact w_L_law_J324 X hst hX hbl (nb244 := nb244) hf ⟨by omega, by omega⟩ hkb244 E (lv_sub hl [0, 1, 2, 3, 4, 5, 6, 7, 8, 9, 10, 11, 12, 13, 15] rfl) G
                  · have hf := aw_ite_t hc hf
                    exact w_L_law_J309 X hst hX hbl (nb244 := nb244) hf ⟨by omega, by omega⟩ hkb244 E (lv_sub hl [0, 1, 2, 3, 4, 5, 6, 7, 8, 9, 10, 11, 12, 13, 15] rfl) G
            · have hf := aw_ite_t hc hf
              exact w_L_law_J286 X hst hX hbl (nb244 := nb244) hf ⟨by omega, by omega⟩ hkb244 E (lv_sub hl [0, 1, 2, 3, 4, 5, 6, 7, 8, 9, 10, 11, 12, 13, 15] rfl) G
      · have hf := aw_ite_f hc hf
        refine lv_bipush (v := (24 : Int32)) hx hb dL_law_262 (by decide) ?_
        refine lv_goto (tgt := 324) hx hb dL_law_264 (by decide) ?_
        exact w_L_law_J324 X hst hX hbl (nb244 := nb244) hf ⟨by omega, by omega⟩ hkb244 E (lv_sub hl [0, 1, 2, 3, 4, 5, 6, 7, 8, 9, 10, 11, 12, 13, 15] rfl) G
theorem w_L_law_L244  (X : aw_X p c cL_law 20 s RL m meth (ret)) (hst : l.stackTraces = false) {b L : Nat} {xs : Nat → Int32} (hX : va_X b L xs s s.heap) (hbl : b < s.heap.size) {k244 : Int32 → Sg → Dt → Option (Int32)} {x1 : Nat} {x2 : Nat} {x3 : Nat} {x4 : Nat} {x5 : Nat} {x6 : Nat} {x7 : Nat} {x8 : Nat} {x9 : Nat} {x10 : Nat} {x11 : Nat} {x12 : Nat} {x13 : Nat} (n : Nat) {x14 : Int32} {x15 : Int32} {σ : Sg} {d : Dt} {ad : Nat → Nat} (hf : f_L_law_L244 xs L n k244 x1 x2 x3 x4 x5 x6 x7 x8 x9 x10 x11 x12 x13 x14 x15 σ d = some 1) { cells slots : Nat} (hB : cells + (0 + n * 608) ≤ 37982 ∧ slots + 64 * (0 + n * 608) ≤ 2430848) (hk244 : ∀ (y14 : Int32) (σ : Sg) (d : Dt), k244 y14 σ d = some 1 → ∀ (ad : Nat → Nat), aw_ext σ0 ad0 σ ad → ∀ (cells slots : Nat), cells + (0) ≤ 37982 ∧ slots + 64 * (0) ≤ 2430848 → ∀ (H : Heap) (locs : List Loc) (ls : Array Slot), lv_has ls 20 [(14, .int y14)] → aw_G D cA s.heap.size ad σ d s H locs → W p l e room_1 s m #[Value.ref b] below meth c H locs cells slots (lw_Z below #[Value.ref b] s) (F0 m 733 ls [])) (E : aw_ext σ0 ad0 σ ad) {H : Heap} {locs : List Loc} {ls : Array Slot} (hl : lv_has ls 20 [(0, .ref b), (1, .ref (ad x1)), (2, .ref (ad x2)), (3, .ref (ad x3)), (4, .ref (ad x4)), (5, .ref (ad x5)), (6, .ref (ad x6)), (7, .ref (ad x7)), (8, .ref (ad x8)), (9, .ref (ad x9)), (10, .ref (ad x10)), (11, .ref (ad x11)), (12, .ref (ad x12)), (13, .ref (ad x13)), (14, .int x14), (15, .int x15)]) (G : aw_G D cA s.heap.size ad σ d s H locs) : W p l e room_1 s m #[Value.ref b] below meth c H locs cells slots (lw_Z below #[Value.ref b] s) (F0 m 244 ls []) := by
  induction n generalizing x14 x15 σ d ad cells slots H locs ls with
  | zero => exact absurd (show (none : Option (Int32)) = some 1 from hf) (by simp)
  | succ n ih => exact w_L_law_B244 X hst hX hbl (nb244 := n) (kb244 := f_L_law_L244 xs L n k244 x1 x2 x3 x4 x5 x6 x7 x8 x9 x10 x11 x12 x13) hf ⟨by omega, by omega⟩  (fun x14 x15 σ d hf ad E cells slots hB H locs ls hl G => ih hf hB E hl G) hk244 E hl G
set_option maxHeartbeats 4000000 in
set_option maxRecDepth 100000 in
theorem w_L_law_J733  (X : aw_X p c cL_law 20 s RL m meth (ret)) (hst : l.stackTraces = false) {b L : Nat} {xs : Nat → Int32} (hX : va_X b L xs s s.heap) (hbl : b < s.heap.size) {x14 : Int32} {σ : Sg} {d : Dt} {ad : Nat → Nat} (hf : f_L_law_J733 xs L x14 σ d = some 1) { cells slots : Nat} (hB : cells + (0) ≤ 37982 ∧ slots + 64 * (0) ≤ 2430848)  (E : aw_ext σ0 ad0 σ ad) {H : Heap} {locs : List Loc} {ls : Array Slot} (hl : lv_has ls 20 [(14, .int x14)]) (G : aw_G D cA s.heap.size ad σ d s H locs) : W p l e room_1 s m #[Value.ref b] below meth c H locs cells slots (lw_Z below #[Value.ref b] s) (F0 m 733 ls []) := by
  have hx := X.1; have hb := X.2.1; have hml := X.2.2.1; have hown := X.2.2.2.1
  have hbA : ¬ (fun q => s.heap.size ≤ q) b := Nat.not_le.mpr hbl
  unfold f_L_law_J733 at hf
  refine lv_iload hx hb dL_law_733 (lv_at hl 0 rfl) ?_
  have hv1 : x14 = 1 := Option.some.inj hf
  rw [hv1]
  refine va_forget (fun q hq => G.2.2.2.2.2.2 q hq) ?_
  refine W.widen (k := 600086) (n := 7301442) (by omega) (by omega) ?_
  exact lw_ret hx hb X.2.2.2.2.1 X.2.2.2.2.2 dL_law_735
set_option maxHeartbeats 4000000 in
set_option maxRecDepth 100000 in
theorem w_L_law_J239  (X : aw_X p c cL_law 20 s RL m meth (ret)) (hst : l.stackTraces = false) {b L : Nat} {xs : Nat → Int32} (hX : va_X b L xs s s.heap) (hbl : b < s.heap.size) {t0 : Int32} {x1 : Nat} {x2 : Nat} {x3 : Nat} {x4 : Nat} {x5 : Nat} {x6 : Nat} {x7 : Nat} {x8 : Nat} {x9 : Nat} {x10 : Nat} {x11 : Nat} {x12 : Nat} {x13 : Nat} {σ : Sg} {d : Dt} {ad : Nat → Nat} (hf : f_L_law_J239 xs L t0 x1 x2 x3 x4 x5 x6 x7 x8 x9 x10 x11 x12 x13 σ d = some 1) { cells slots : Nat} (hB : cells + (37696) ≤ 37982 ∧ slots + 64 * (37696) ≤ 2430848)  (E : aw_ext σ0 ad0 σ ad) {H : Heap} {locs : List Loc} {ls : Array Slot} (hl : lv_has ls 20 [(0, .ref b), (1, .ref (ad x1)), (2, .ref (ad x2)), (3, .ref (ad x3)), (4, .ref (ad x4)), (5, .ref (ad x5)), (6, .ref (ad x6)), (7, .ref (ad x7)), (8, .ref (ad x8)), (9, .ref (ad x9)), (10, .ref (ad x10)), (11, .ref (ad x11)), (12, .ref (ad x12)), (13, .ref (ad x13))]) (G : aw_G D cA s.heap.size ad σ d s H locs) : W p l e room_1 s m #[Value.ref b] below meth c H locs cells slots (lw_Z below #[Value.ref b] s) (F0 m 239 ls [.int t0]) := by
  have hx := X.1; have hb := X.2.1; have hml := X.2.2.1; have hown := X.2.2.2.1
  have hbA : ¬ (fun q => s.heap.size ≤ q) b := Nat.not_le.mpr hbl
  unfold f_L_law_J239 at hf
  refine lv_istore (lv' := [(14, .int t0), (0, .ref b), (1, .ref (ad x1)), (2, .ref (ad x2)), (3, .ref (ad x3)), (4, .ref (ad x4)), (5, .ref (ad x5)), (6, .ref (ad x6)), (7, .ref (ad x7)), (8, .ref (ad x8)), (9, .ref (ad x9)), (10, .ref (ad x10)), (11, .ref (ad x11)), (12, .ref (ad x12)), (13, .ref (ad x13))]) hx hb dL_law_239 hl (by decide) rfl (fun ls hl => ?_)
  refine lv_iconst (v := (0 : Int32)) hx hb dL_law_241 (by decide) ?_
  refine lv_istore (lv' := [(15, .int ((0 : Int32))), (14, .int t0), (0, .ref b), (1, .ref (ad x1)), (2, .ref (ad x2)), (3, .ref (ad x3)), (4, .ref (ad x4)), (5, .ref (ad x5)), (6, .ref (ad x6)), (7, .ref (ad x7)), (8, .ref (ad x8)), (9, .ref (ad x9)), (10, .ref (ad x10)), (11, .ref (ad x11)), (12, .ref (ad x12)), (13, .ref (ad x13))]) hx hb dL_law_242 hl (by decide) rfl (fun ls hl => ?_)
  refine w_L_law_L244 X hst hX hbl 62 hf ⟨by omega, by omega⟩  (fun x14_334 σ_336 d_335 hf ad_337 E_338 cells slots hB H locs ls hl G => ?_) E (lv_sub hl [2, 3, 4, 5, 6, 7, 8, 9, 10, 11, 12, 13, 14, 15, 1, 0] rfl) G
  exact w_L_law_J733 X hst hX hbl hf ⟨by omega, by omega⟩  E_338 (lv_sub hl [0] rfl) G
set_option maxHeartbeats 4000000 in
set_option maxRecDepth 100000 in
theorem w_L_law_J238  (X : aw_X p c cL_law 20 s RL m meth (ret)) (hst : l.stackTraces = false) {b L : Nat} {xs : Nat → Int32} (hX : va_X b L xs s s.heap) (hbl : b < s.heap.size) {x1 : Nat} {x2 : Nat} {x3 : Nat} {x4 : Nat} {x5 : Nat} {x6 : Nat} {x7 : Nat} {x8 : Nat} {x9 : Nat} {x10 : Nat} {x11 : Nat} {x12 : Nat} {x13 : Nat} {σ : Sg} {d : Dt} {ad : Nat → Nat} (hf : f_L_law_J238 xs L x1 x2 x3 x4 x5 x6 x7 x8 x9 x10 x11 x12 x13 σ d = some 1) { cells slots : Nat} (hB : cells + (37696) ≤ 37982 ∧ slots + 64 * (37696) ≤ 2430848)  (E : aw_ext σ0 ad0 σ ad) {H : Heap} {locs : List Loc} {ls : Array Slot} (hl : lv_has ls 20 [(0, .ref b), (1, .ref (ad x1)), (2, .ref (ad x2)), (3, .ref (ad x3)), (4, .ref (ad x4)), (5, .ref (ad x5)), (6, .ref (ad x6)), (7, .ref (ad x7)), (8, .ref (ad x8)), (9, .ref (ad x9)), (10, .ref (ad x10)), (11, .ref (ad x11)), (12, .ref (ad x12)), (13, .ref (ad x13))]) (G : aw_G D cA s.heap.size ad σ d s H locs) : W p l e room_1 s m #[Value.ref b] below meth c H locs cells slots (lw_Z below #[Value.ref b] s) (F0 m 238 ls []) := by
  have hx := X.1; have hb := X.2.1; have hml := X.2.2.1; have hown := X.2.2.2.1
  have hbA : ¬ (fun q => s.heap.size ≤ q) b := Nat.not_le.mpr hbl
  unfold f_L_law_J238 at hf
  refine lv_iconst (v := (0 : Int32)) hx hb dL_law_238 (by decide) ?_
  exact w_L_law_J239 X hst hX hbl hf ⟨by omega, by omega⟩  E (lv_sub hl [0, 1, 2, 3, 4, 5, 6, 7, 8, 9, 10, 11, 12, 13] rfl) G
end W_law
