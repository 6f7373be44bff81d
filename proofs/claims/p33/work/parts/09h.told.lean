def rm_L_isTold : Room := { frames := 9, cells := 4, slots := 256, locals := 163 }
def f_L_isTold_J643 (t0 : Int32) (σ : Sg) (d : Dt) : Option (Int32 × (Sg × Dt)) :=
  aw_chk (t0 &&& 1 = t0) (some (t0, σ, d))
def f_L_isTold_J635 (t1 : Int32) (t0 : Int32) (σ : Sg) (d : Dt) : Option (Int32 × (Sg × Dt)) :=
  if t0 = t1 then f_L_isTold_J643 ((1 : Int32)) σ d else f_L_isTold_J643 ((0 : Int32)) σ d
def f_L_isTold_J598 (x0 : Nat) (x9 : Int32) (x10 : Int32) (x11 : Int32) (x12 : Int32) (x13 : Int32) (x14 : Int32) (x15 : Int32) (σ : Sg) (d : Dt) : Option (Int32 × (Sg × Dt)) :=
  (f_L_does_7 σ x0 x9 x10 x11 x12 ((0 : Int32)) d).bind (fun z_1 => if x13 = 0 then f_L_isTold_J635 ((-3000000 : Int32)) z_1.1 σ z_1.2 else if x14 = 0 then f_L_isTold_J635 ((-2000000 : Int32)) z_1.1 σ z_1.2 else f_L_isTold_J635 x15 z_1.1 σ z_1.2)
def f_L_isTold_J555 (t0 : Int32) (x0 : Nat) (x4 : Nat) (x9 : Int32) (x10 : Int32) (x11 : Int32) (x12 : Int32) (x13 : Int32) (x14 : Int32) (σ : Sg) (d : Dt) : Option (Int32 × (Sg × Dt)) :=
  if x13 = 0 then f_L_isTold_J598 x0 x9 x10 x11 x12 x13 x14 t0 σ d else if x14 = 0 then f_L_isTold_J598 x0 x9 x10 x11 x12 x13 x14 t0 σ d else aw_chk (aw_I σ 20 x4 (((3 : Int32)) * x9)) (aw_chk (aw_I σ 20 x4 ((((3 : Int32)) * x9) + ((1 : Int32)))) (aw_chk (aw_I σ 20 x4 ((((3 : Int32)) * x9) + ((2 : Int32)))) (f_L_isTold_J598 x0 x9 x10 x11 x12 x13 x14 t0 σ (aw_sI (aw_sI (aw_sI d x4 (((3 : Int32)) * x9).toNatClampNeg x10) x4 ((((3 : Int32)) * x9) + ((1 : Int32))).toNatClampNeg x11) x4 ((((3 : Int32)) * x9) + ((2 : Int32))).toNatClampNeg x12))))
def f_L_isTold_J537 (t0 : Int32) (x0 : Nat) (x4 : Nat) (x9 : Int32) (x10 : Int32) (x11 : Int32) (x12 : Int32) (x13 : Int32) (σ : Sg) (d : Dt) : Option (Int32 × (Sg × Dt)) :=
  if x13 = 0 then f_L_isTold_J555 ((0 : Int32)) x0 x4 x9 x10 x11 x12 x13 t0 σ d else aw_chk (aw_I σ 20 x4 (((3 : Int32)) * x9)) (f_L_isTold_J555 (d.1 x4 (((3 : Int32)) * x9).toNatClampNeg) x0 x4 x9 x10 x11 x12 x13 t0 σ d)
def f_L_isTold_J536 (x0 : Nat) (x4 : Nat) (x9 : Int32) (x10 : Int32) (x11 : Int32) (x12 : Int32) (x13 : Int32) (σ : Sg) (d : Dt) : Option (Int32 × (Sg × Dt)) :=
  f_L_isTold_J537 ((0 : Int32)) x0 x4 x9 x10 x11 x12 x13 σ d
def f_L_isTold_J517 (t0 : Int32) (x0 : Nat) (x4 : Nat) (x9 : Int32) (x10 : Int32) (x11 : Int32) (x12 : Int32) (σ : Sg) (d : Dt) : Option (Int32 × (Sg × Dt)) :=
  if ((1000 : Int32)) ≤ x10 then f_L_isTold_J536 x0 x4 x9 x10 x11 x12 t0 σ d else if x11 < 0 then f_L_isTold_J536 x0 x4 x9 x10 x11 x12 t0 σ d else f_L_isTold_J537 ((1 : Int32)) x0 x4 x9 x10 x11 x12 t0 σ d
def f_L_isTold_J516 (x0 : Nat) (x4 : Nat) (x9 : Int32) (x10 : Int32) (x11 : Int32) (x12 : Int32) (σ : Sg) (d : Dt) : Option (Int32 × (Sg × Dt)) :=
  f_L_isTold_J517 ((0 : Int32)) x0 x4 x9 x10 x11 x12 σ d
def f_L_isTold_J489 (t0 : Int32) (x0 : Nat) (x4 : Nat) (x8 : Int32) (x9 : Int32) (x10 : Int32) (σ : Sg) (d : Dt) : Option (Int32 × (Sg × Dt)) :=
  if ((4 : Int32)) ≤ x9 then f_L_isTold_J516 x0 x4 x9 x10 t0 ((x8 / (13 : Int32)) - (x8 / (13 : Int32)) / (4 : Int32) * (4 : Int32)) σ d else if ((3 : Int32)) ≤ ((x8 / (13 : Int32)) - (x8 / (13 : Int32)) / (4 : Int32) * (4 : Int32)) then f_L_isTold_J516 x0 x4 x9 x10 t0 ((x8 / (13 : Int32)) - (x8 / (13 : Int32)) / (4 : Int32) * (4 : Int32)) σ d else f_L_isTold_J517 ((1 : Int32)) x0 x4 x9 x10 t0 ((x8 / (13 : Int32)) - (x8 / (13 : Int32)) / (4 : Int32) * (4 : Int32)) σ d
def f_L_isTold_J461 (t0 : Int32) (x0 : Nat) (x4 : Nat) (x7 : Int32) (x8 : Int32) (x9 : Int32) (σ : Sg) (d : Dt) : Option (Int32 × (Sg × Dt)) :=
  if ((x7 / (13 : Int32)) - (x7 / (13 : Int32)) / (11 : Int32) * (11 : Int32)) = ((10 : Int32)) then f_L_isTold_J489 ((-1 : Int32)) x0 x4 x8 x9 t0 σ d else f_L_isTold_J489 ((x7 / (13 : Int32)) - (x7 / (13 : Int32)) / (1000 : Int32) * (1000 : Int32)) x0 x4 x8 x9 t0 σ d
def f_L_isTold_J438 (t0 : Int32) (x0 : Nat) (x4 : Nat) (x7 : Int32) (x8 : Int32) (σ : Sg) (d : Dt) : Option (Int32 × (Sg × Dt)) :=
  if (x8 - x8 / (13 : Int32) * (13 : Int32)) = ((12 : Int32)) then f_L_isTold_J461 ((1000 : Int32)) x0 x4 x7 x8 t0 σ d else f_L_isTold_J461 (x8 - x8 / (30 : Int32) * (30 : Int32)) x0 x4 x7 x8 t0 σ d
def f_L_isTold_B220 (kb220 : Int32 → Int32 → Sg → Dt → Option (Int32 × (Sg × Dt))) (k220 : Int32 → Sg → Dt → Option (Int32 × (Sg × Dt))) (x0 : Nat) (x3 : Nat) (x8 : Int32) (x9 : Int32) (x10 : Int32) (x11 : Int32) (σ : Sg) (d : Dt) : Option (Int32 × (Sg × Dt)) :=
  if (((1 : Int32)) + (x8 - x8 / (4 : Int32) * (4 : Int32))) ≤ x11 then k220 x10 σ d else kb220 (((((10 : Int32)) * x10) + ((1 : Int32))) + ((x8 >>> ((((2 : Int32)) * x11) &&& 31)) - (x8 >>> ((((2 : Int32)) * x11) &&& 31)) / (4 : Int32) * (4 : Int32))) (x11 + 1) σ d
def f_L_isTold_L220 (n : Nat) (k220 : Int32 → Sg → Dt → Option (Int32 × (Sg × Dt))) (x0 : Nat) (x3 : Nat) (x8 : Int32) (x9 : Int32) : Int32 → Int32 → Sg → Dt → Option (Int32 × (Sg × Dt)) := match n with
  | 0 => fun _ _ _ _ => none
  | n + 1 => fun x10 x11 σ d => f_L_isTold_B220 (f_L_isTold_L220 n k220 x0 x3 x8 x9) k220 x0 x3 x8 x9 x10 x11 σ d
def f_L_isTold_J328 (kb296 : Int32 → Int32 → Sg → Dt → Option (Int32 × (Sg × Dt))) (t0 : Int32) (x0 : Nat) (x3 : Nat) (x9 : Int32) (x10 : Int32) (x12 : Int32) (σ : Sg) (d : Dt) : Option (Int32 × (Sg × Dt)) :=
  kb296 t0 (x12 / (10 : Int32)) σ d
def f_L_isTold_J327 (kb296 : Int32 → Int32 → Sg → Dt → Option (Int32 × (Sg × Dt))) (x0 : Nat) (x3 : Nat) (x9 : Int32) (x10 : Int32) (x12 : Int32) (σ : Sg) (d : Dt) : Option (Int32 × (Sg × Dt)) :=
  f_L_isTold_J328 kb296 ((0 : Int32)) x0 x3 x9 x10 x12 σ d
def f_L_isTold_B296 (kb296 : Int32 → Int32 → Sg → Dt → Option (Int32 × (Sg × Dt))) (k296 : Int32 → Sg → Dt → Option (Int32 × (Sg × Dt))) (x0 : Nat) (x3 : Nat) (x9 : Int32) (x10 : Int32) (x11 : Int32) (x12 : Int32) (σ : Sg) (d : Dt) : Option (Int32 × (Sg × Dt)) :=
  if x12 ≤ 0 then k296 x11 σ d else if x11 = 0 then f_L_isTold_J327 kb296 x0 x3 x9 x10 x12 σ d else if (x12 - x12 / (10 : Int32) * (10 : Int32)) ≤ 0 then f_L_isTold_J327 kb296 x0 x3 x9 x10 x12 σ d else if ((5 : Int32)) ≤ (x12 - x12 / (10 : Int32) * (10 : Int32)) then f_L_isTold_J327 kb296 x0 x3 x9 x10 x12 σ d else f_L_isTold_J328 kb296 ((1 : Int32)) x0 x3 x9 x10 x12 σ d
def f_L_isTold_L296 (n : Nat) (k296 : Int32 → Sg → Dt → Option (Int32 × (Sg × Dt))) (x0 : Nat) (x3 : Nat) (x9 : Int32) (x10 : Int32) : Int32 → Int32 → Sg → Dt → Option (Int32 × (Sg × Dt)) := match n with
  | 0 => fun _ _ _ _ => none
  | n + 1 => fun x11 x12 σ d => f_L_isTold_B296 (f_L_isTold_L296 n k296 x0 x3 x9 x10) k296 x0 x3 x9 x10 x11 x12 σ d
def f_L_isTold_J419 (t0 : Int32) (σ : Sg) (d : Dt) : Option (Int32 × (Sg × Dt)) :=
  aw_chk (t0 &&& 1 = t0) (some (t0, σ, d))
def f_L_isTold_J411 (t1 : Int32) (t0 : Int32) (σ : Sg) (d : Dt) : Option (Int32 × (Sg × Dt)) :=
  if t0 = t1 then f_L_isTold_J419 ((1 : Int32)) σ d else f_L_isTold_J419 ((0 : Int32)) σ d
def f_L_isTold_J375 (x0 : Nat) (x9 : Int32) (x10 : Int32) (x11 : Int32) (x12 : Int32) (σ : Sg) (d : Dt) : Option (Int32 × (Sg × Dt)) :=
  (f_L_does_5 σ x0 x9 x10 ((0 : Int32)) ((0 : Int32)) ((0 : Int32)) d).bind (fun z_18 => if x9 = ((50 : Int32)) then f_L_isTold_J411 ((-3000000 : Int32)) z_18.1 σ z_18.2 else if x11 = 0 then f_L_isTold_J411 ((-2000000 : Int32)) z_18.1 σ z_18.2 else f_L_isTold_J411 x12 z_18.1 σ z_18.2)
def f_L_isTold_J355 (t0 : Int32) (x0 : Nat) (x3 : Nat) (x9 : Int32) (x10 : Int32) (x11 : Int32) (σ : Sg) (d : Dt) : Option (Int32 × (Sg × Dt)) :=
  if ((50 : Int32)) ≤ x9 then f_L_isTold_J375 x0 x9 x10 x11 t0 σ d else if x11 = 0 then f_L_isTold_J375 x0 x9 x10 x11 t0 σ d else aw_chk (aw_I σ 20 x3 x9) (f_L_isTold_J375 x0 x9 x10 x11 t0 σ (aw_sI d x3 x9.toNatClampNeg x10))
def f_L_isTold_J290 (t0 : Int32) (x0 : Nat) (x3 : Nat) (x9 : Int32) (x10 : Int32) (σ : Sg) (d : Dt) : Option (Int32 × (Sg × Dt)) :=
  f_L_isTold_L296 aw_FU (fun x11_13 σ_15 d_14 => if ((50 : Int32)) ≤ x9 then f_L_isTold_J355 ((0 : Int32)) x0 x3 x9 x10 x11_13 σ_15 d_14 else aw_chk (aw_I σ_15 20 x3 x9) (f_L_isTold_J355 (d_14.1 x3 x9.toNatClampNeg) x0 x3 x9 x10 x11_13 σ_15 d_14)) x0 x3 x9 x10 t0 x10 σ d
def f_L_isTold_J275 (t0 : Int32) (x0 : Nat) (x3 : Nat) (x9 : Int32) (σ : Sg) (d : Dt) : Option (Int32 × (Sg × Dt)) :=
  if ((5000 : Int32)) ≤ t0 then f_L_isTold_J290 ((0 : Int32)) x0 x3 x9 t0 σ d else f_L_isTold_J290 ((1 : Int32)) x0 x3 x9 t0 σ d
def f_L_isTold_J212 (t0 : Int32) (x0 : Nat) (x3 : Nat) (x8 : Int32) (σ : Sg) (d : Dt) : Option (Int32 × (Sg × Dt)) :=
  f_L_isTold_L220 aw_FU (fun x10_8 σ_10 d_9 => if (x8 - x8 / (13 : Int32) * (13 : Int32)) = ((12 : Int32)) then f_L_isTold_J275 (x10_8 + ((4 : Int32))) x0 x3 t0 σ_10 d_9 else f_L_isTold_J275 x10_8 x0 x3 t0 σ_10 d_9) x0 x3 x8 t0 ((0 : Int32)) ((0 : Int32)) σ d
def f_L_isTold_J149 (x0 : Nat) (x5 : Nat) (x9 : Int32) (x10 : Int32) (x11 : Int32) (σ : Sg) (d : Dt) : Option (Int32 × (Sg × Dt)) :=
  aw_chk (x0 < σ.1) (aw_chk (x5 < σ.1) ((f_L_does_3 x0 x9 x10 ((0 : Int32)) ((0 : Int32)) ((0 : Int32)) σ d).bind (fun z_25 => if x11 = 0 then if z_25.1 = ((-2000000 : Int32)) then aw_chk (((1 : Int32)) &&& 1 = ((1 : Int32))) (some ((1 : Int32), z_25.2.1, z_25.2.2)) else aw_chk (((0 : Int32)) &&& 1 = ((0 : Int32))) (some ((0 : Int32), z_25.2.1, z_25.2.2)) else aw_chk (aw_I z_25.2.1 20 x5 ((1 : Int32))) (if z_25.1 = ((z_25.2.2.1 x5 ((1 : Int32)).toNatClampNeg) - ((1 : Int32))) then aw_chk (((1 : Int32)) &&& 1 = ((1 : Int32))) (some ((1 : Int32), z_25.2.1, z_25.2.2)) else aw_chk (((0 : Int32)) &&& 1 = ((0 : Int32))) (some ((0 : Int32), z_25.2.1, z_25.2.2))))))
def f_L_isTold_B98 (kb98 : Int32 → Sg → Dt → Option (Int32 × (Sg × Dt))) (k98 : Sg → Dt → Option (Int32 × (Sg × Dt))) (x0 : Nat) (x5 : Nat) (x9 : Int32) (x10 : Int32) (x11 : Int32) (x12 : Nat) (x13 : Int32) (σ : Sg) (d : Dt) : Option (Int32 × (Sg × Dt)) :=
  if ((47 : Int32)) ≤ x13 then k98 σ d else aw_chk (aw_I σ 20 x12 x13) (kb98 (x13 + 1) σ (aw_sI d x12 x13.toNatClampNeg x13))
def f_L_isTold_L98 (n : Nat) (k98 : Sg → Dt → Option (Int32 × (Sg × Dt))) (x0 : Nat) (x5 : Nat) (x9 : Int32) (x10 : Int32) (x11 : Int32) (x12 : Nat) : Int32 → Sg → Dt → Option (Int32 × (Sg × Dt)) := match n with
  | 0 => fun _ _ _ => none
  | n + 1 => fun x13 σ d => f_L_isTold_B98 (f_L_isTold_L98 n k98 x0 x5 x9 x10 x11 x12) k98 x0 x5 x9 x10 x11 x12 x13 σ d
def f_L_isTold_J88 (t0 : Nat) (x0 : Nat) (x5 : Nat) (x9 : Int32) (x10 : Int32) (x11 : Int32) (σ : Sg) (d : Dt) : Option (Int32 × (Sg × Dt)) :=
  if x11 = 0 then f_L_isTold_J149 x0 x5 x9 x10 x11 σ d else f_L_isTold_L98 aw_FU (fun σ_41 d_40 => aw_chk (aw_I σ_41 20 t0 ((47 : Int32))) (aw_chk (aw_I σ_41 20 t0 ((48 : Int32))) (aw_chk (aw_I σ_41 20 t0 ((49 : Int32))) (aw_chk (aw_I σ_41 20 x5 ((1 : Int32))) (f_L_isTold_J149 x0 x5 x9 x10 x11 σ_41 (aw_sI (aw_sI (aw_sI (aw_sI d_40 t0 ((47 : Int32)).toNatClampNeg x9) t0 ((48 : Int32)).toNatClampNeg (x10 + ((1 : Int32)))) t0 ((49 : Int32)).toNatClampNeg ((7 : Int32))) x5 ((1 : Int32)).toNatClampNeg (((aw_sI (aw_sI (aw_sI d_40 t0 ((47 : Int32)).toNatClampNeg x9) t0 ((48 : Int32)).toNatClampNeg (x10 + ((1 : Int32)))) t0 ((49 : Int32)).toNatClampNeg ((7 : Int32))).1 x5 ((1 : Int32)).toNatClampNeg) + ((1 : Int32))))))))) x0 x5 x9 x10 x11 t0 ((0 : Int32)) σ d
def f_L_isTold_J74 (t0 : Int32) (x0 : Nat) (x1 : Nat) (x2 : Nat) (x5 : Nat) (x9 : Int32) (x10 : Int32) (σ : Sg) (d : Dt) : Option (Int32 × (Sg × Dt)) :=
  aw_chk (aw_I σ 20 x5 ((1 : Int32))) (if (d.1 x5 ((1 : Int32)).toNatClampNeg) = 0 then f_L_isTold_J88 x1 x0 x5 x9 x10 t0 σ d else f_L_isTold_J88 x2 x0 x5 x9 x10 t0 σ d)
def f_L_isTold_J73 (x0 : Nat) (x1 : Nat) (x2 : Nat) (x5 : Nat) (x9 : Int32) (x10 : Int32) (σ : Sg) (d : Dt) : Option (Int32 × (Sg × Dt)) :=
  f_L_isTold_J74 ((0 : Int32)) x0 x1 x2 x5 x9 x10 σ d
def f_L_isTold_J55 (t0 : Int32) (x0 : Nat) (x1 : Nat) (x2 : Nat) (x5 : Nat) (x9 : Int32) (σ : Sg) (d : Dt) : Option (Int32 × (Sg × Dt)) :=
  if ((2 : Int32)) ≤ x9 then f_L_isTold_J73 x0 x1 x2 x5 x9 t0 σ d else if ((3 : Int32)) ≤ t0 then f_L_isTold_J73 x0 x1 x2 x5 x9 t0 σ d else f_L_isTold_J74 ((1 : Int32)) x0 x1 x2 x5 x9 t0 σ d
def f_L_isTold_J33 (t0 : Int32) (x0 : Nat) (x1 : Nat) (x2 : Nat) (x5 : Nat) (x8 : Int32) (σ : Sg) (d : Dt) : Option (Int32 × (Sg × Dt)) :=
  if (x8 - x8 / (13 : Int32) * (13 : Int32)) = ((12 : Int32)) then f_L_isTold_J55 ((3 : Int32)) x0 x1 x2 x5 t0 σ d else f_L_isTold_J55 ((x8 - x8 / (4 : Int32) * (4 : Int32)) - ((1 : Int32))) x0 x1 x2 x5 t0 σ d
def f_L_isTold (x0 : Nat) (x1 : Nat) (x2 : Nat) (x3 : Nat) (x4 : Nat) (x5 : Nat) (x6 : Int32) (x7 : Int32) (x8 : Int32) (σ : Sg) (d : Dt) : Option (Int32 × (Sg × Dt)) :=
  if x6 = 0 then aw_chk (aw_I σ 20 x5 ((1 : Int32))) (if (d.1 x5 ((1 : Int32)).toNatClampNeg) = ((2 : Int32)) then aw_chk (((1 : Int32)) &&& 1 = ((1 : Int32))) (some ((1 : Int32), σ, d)) else if (x7 - x7 / (13 : Int32) * (13 : Int32)) = ((12 : Int32)) then f_L_isTold_J33 ((2 : Int32)) x0 x1 x2 x5 x8 σ d else f_L_isTold_J33 (x7 - x7 / (2 : Int32) * (2 : Int32)) x0 x1 x2 x5 x8 σ d) else if x6 = ((1 : Int32)) then if (x7 - x7 / (23 : Int32) * (23 : Int32)) = ((22 : Int32)) then f_L_isTold_J212 ((50 : Int32)) x0 x3 x8 σ d else f_L_isTold_J212 (x7 - x7 / (50 : Int32) * (50 : Int32)) x0 x3 x8 σ d else if (x7 - x7 / (13 : Int32) * (13 : Int32)) = ((12 : Int32)) then f_L_isTold_J438 ((4 : Int32)) x0 x4 x7 x8 σ d else f_L_isTold_J438 (x7 - x7 / (4 : Int32) * (4 : Int32)) x0 x4 x7 x8 σ d
section W_L_isTold
variable {p : Program} {l : Launch} {e : Env} {s : State} {m : MethodId} {args : Array Value} {below : List Frame} {meth : Method} {c : Code}
variable {D : va_G} {cA : Nat → ClassId} {base : Nat} {ad0 : Nat → Nat} {σ0 : Sg}
set_option maxHeartbeats 4000000 in
set_option maxRecDepth 100000 in
theorem w_L_isTold_J643 {z : Int32 × (Sg × Dt)} (X : aw_X p c cL_isTold 16 s RL m meth (some .boolean)) (hst : l.stackTraces = false) {t0 : Int32} {σ : Sg} {d : Dt} {ad : Nat → Nat} (hf : f_L_isTold_J643 t0 σ d = some z) { cells slots : Nat} (hB : cells + (0) ≤ 4 ∧ slots + 64 * (0) ≤ 256)  (E : aw_ext σ0 ad0 σ ad) {H : Heap} {locs : List Loc} {ls : Array Slot} (hl : lv_has ls 16 []) (G : aw_G D cA base ad σ d s H locs) : W p l e rm_L_isTold s m args below meth c H locs cells slots (aw_Ek D cA base ad0 σ0 below args s 4 256 z) (F0 m 643 ls [.int t0]) := by
  have hx := X.1; have hb := X.2.1; have hml := X.2.2.1; have hown := X.2.2.2.1
  unfold f_L_isTold_J643 at hf
  obtain ⟨hc_3, hf⟩ := aw_chk_some hf
  exact aw_retkZ X G E hf hc_3 dL_isTold_643 (by omega) (by omega)
set_option maxHeartbeats 4000000 in
set_option maxRecDepth 100000 in
theorem w_L_isTold_J635 {z : Int32 × (Sg × Dt)} (X : aw_X p c cL_isTold 16 s RL m meth (some .boolean)) (hst : l.stackTraces = false) {t1 : Int32} {t0 : Int32} {σ : Sg} {d : Dt} {ad : Nat → Nat} (hf : f_L_isTold_J635 t1 t0 σ d = some z) { cells slots : Nat} (hB : cells + (0) ≤ 4 ∧ slots + 64 * (0) ≤ 256)  (E : aw_ext σ0 ad0 σ ad) {H : Heap} {locs : List Loc} {ls : Array Slot} (hl : lv_has ls 16 []) (G : aw_G D cA base ad σ d s H locs) : W p l e rm_L_isTold s m args below meth c H locs cells slots (aw_Ek D cA base ad0 σ0 below args s 4 256 z) (F0 m 635 ls [.int t1, .int t0]) := by
  have hx := X.1; have hb := X.2.1; have hml := X.2.2.1; have hown := X.2.2.2.1
  unfold f_L_isTold_J635 at hf
  refine lv_icmp_ne (tgt := 642) hx hb dL_isTold_635 (by decide) (fun hc => ?_) (fun hc => ?_)
  · have hf := aw_ite_f hc hf
    refine lv_iconst (v := (0 : Int32)) hx hb dL_isTold_642 (by decide) ?_
    exact w_L_isTold_J643 X hst hf ⟨by omega, by omega⟩  E (lv_sub hl [] rfl) G
  · have hf := aw_ite_t hc hf
    refine lv_iconst (v := (1 : Int32)) hx hb dL_isTold_638 (by decide) ?_
    refine lv_goto (tgt := 643) hx hb dL_isTold_639 (by decide) ?_
    exact w_L_isTold_J643 X hst hf ⟨by omega, by omega⟩  E (lv_sub hl [] rfl) G
set_option maxHeartbeats 4000000 in
set_option maxRecDepth 100000 in
theorem w_L_isTold_J598 {z : Int32 × (Sg × Dt)} (X : aw_X p c cL_isTold 16 s RL m meth (some .boolean)) (hst : l.stackTraces = false) {x0 : Nat} {x9 : Int32} {x10 : Int32} {x11 : Int32} {x12 : Int32} {x13 : Int32} {x14 : Int32} {x15 : Int32} {σ : Sg} {d : Dt} {ad : Nat → Nat} (hf : f_L_isTold_J598 x0 x9 x10 x11 x12 x13 x14 x15 σ d = some z) { cells slots : Nat} (hB : cells + (3) ≤ 4 ∧ slots + 64 * (3) ≤ 256)  (E : aw_ext σ0 ad0 σ ad) {H : Heap} {locs : List Loc} {ls : Array Slot} (hl : lv_has ls 16 [(0, .ref (ad x0)), (9, .int x9), (10, .int x10), (11, .int x11), (12, .int x12), (13, .int x13), (14, .int x14), (15, .int x15)]) (G : aw_G D cA base ad σ d s H locs) : W p l e rm_L_isTold s m args below meth c H locs cells slots (aw_Ek D cA base ad0 σ0 below args s 4 256 z) (F0 m 598 ls []) := by
  have hx := X.1; have hb := X.2.1; have hml := X.2.2.1; have hown := X.2.2.2.1
  unfold f_L_isTold_J598 at hf
  refine lv_aload_n hx hb dL_isTold_598 rfl (lv_at hl 0 rfl) ?_
  refine lv_bipush (v := (7 : Int32)) hx hb dL_isTold_599 (by decide) ?_
  refine lv_iload hx hb dL_isTold_601 (lv_at hl 1 rfl) ?_
  refine lv_iload hx hb dL_isTold_603 (lv_at hl 2 rfl) ?_
  refine lv_iload hx hb dL_isTold_605 (lv_at hl 3 rfl) ?_
  refine lv_iload hx hb dL_isTold_607 (lv_at hl 4 rfl) ?_
  refine lv_iconst (v := (0 : Int32)) hx hb dL_isTold_609 (by decide) ?_
  obtain ⟨z_1, hz_2, hf⟩ := aw_bind_some hf
  refine aw_WI2 (As := [.ref (ad x0), .int ((7 : Int32)), .int x9, .int x10, .int x11, .int x12, .int ((0 : Int32))]) (rest := []) X G hl.1 cr_L_123 (c_L_does_7 l hst hz_2) rfl rfl rfl ⟨(Nat.le_of_ble_eq_true rfl), (Nat.le_of_ble_eq_true rfl)⟩ (Nat.le_of_ble_eq_true rfl) dL_isTold_610 3 18 ⟨(Nat.le_of_ble_eq_true rfl), (Nat.le_of_ble_eq_true rfl)⟩ ⟨by show cells + 3 ≤ 4; omega, by show slots + 18 ≤ 256; omega⟩ (fun H locs G => ?_)
  refine lv_iload hx hb dL_isTold_613 (lv_at hl 5 rfl) ?_
  refine lv_if_ne (tgt := 623) hx hb dL_isTold_615 (by decide) (fun hc => ?_) (fun hc => ?_)
  · have hf := aw_ite_f hc hf
    refine lv_iload hx hb dL_isTold_623 (lv_at hl 6 rfl) ?_
    refine lv_if_eq (tgt := 633) hx hb dL_isTold_625 (by decide) (fun hc => ?_) (fun hc => ?_)
    · have hf := aw_ite_t hc hf
      refine lv_ldc (v := (-2000000 : Int32)) hx hb hown (G.1.hts _ m_760) dL_isTold_633 ?_
      exact w_L_isTold_J635 X hst hf ⟨by omega, by omega⟩  E (lv_sub hl [] rfl) G
    · have hf := aw_ite_f hc hf
      refine lv_iload hx hb dL_isTold_628 (lv_at hl 7 rfl) ?_
      refine lv_goto (tgt := 635) hx hb dL_isTold_630 (by decide) ?_
      exact w_L_isTold_J635 X hst hf ⟨by omega, by omega⟩  E (lv_sub hl [] rfl) G
  · have hf := aw_ite_t hc hf
    refine lv_ldc (v := (-3000000 : Int32)) hx hb hown (G.1.hts _ m_759) dL_isTold_618 ?_
    refine lv_goto (tgt := 635) hx hb dL_isTold_620 (by decide) ?_
    exact w_L_isTold_J635 X hst hf ⟨by omega, by omega⟩  E (lv_sub hl [] rfl) G
set_option maxHeartbeats 4000000 in
set_option maxRecDepth 100000 in
theorem w_L_isTold_J555 {z : Int32 × (Sg × Dt)} (X : aw_X p c cL_isTold 16 s RL m meth (some .boolean)) (hst : l.stackTraces = false) {t0 : Int32} {x0 : Nat} {x4 : Nat} {x9 : Int32} {x10 : Int32} {x11 : Int32} {x12 : Int32} {x13 : Int32} {x14 : Int32} {σ : Sg} {d : Dt} {ad : Nat → Nat} (hf : f_L_isTold_J555 t0 x0 x4 x9 x10 x11 x12 x13 x14 σ d = some z) { cells slots : Nat} (hB : cells + (3) ≤ 4 ∧ slots + 64 * (3) ≤ 256)  (E : aw_ext σ0 ad0 σ ad) {H : Heap} {locs : List Loc} {ls : Array Slot} (hl : lv_has ls 16 [(0, .ref (ad x0)), (4, .ref (ad x4)), (9, .int x9), (10, .int x10), (11, .int x11), (12, .int x12), (13, .int x13), (14, .int x14)]) (G : aw_G D cA base ad σ d s H locs) : W p l e rm_L_isTold s m args below meth c H locs cells slots (aw_Ek D cA base ad0 σ0 below args s 4 256 z) (F0 m 555 ls [.int t0]) := by
  have hx := X.1; have hb := X.2.1; have hml := X.2.2.1; have hown := X.2.2.2.1
  unfold f_L_isTold_J555 at hf
  refine lv_istore (lv' := [(15, .int t0), (0, .ref (ad x0)), (4, .ref (ad x4)), (9, .int x9), (10, .int x10), (11, .int x11), (12, .int x12), (13, .int x13), (14, .int x14)]) hx hb dL_isTold_555 hl (by decide) rfl (fun ls hl => ?_)
  refine lv_iload hx hb dL_isTold_557 (lv_at hl 7 rfl) ?_
  refine lv_if_eq (tgt := 598) hx hb dL_isTold_559 (by decide) (fun hc => ?_) (fun hc => ?_)
  · have hf := aw_ite_t hc hf
    exact w_L_isTold_J598 X hst hf ⟨by omega, by omega⟩  E (lv_sub hl [1, 3, 4, 5, 6, 7, 8, 0] rfl) G
  · have hf := aw_ite_f hc hf
    refine lv_iload hx hb dL_isTold_562 (lv_at hl 8 rfl) ?_
    refine lv_if_eq (tgt := 598) hx hb dL_isTold_564 (by decide) (fun hc => ?_) (fun hc => ?_)
    · have hf := aw_ite_t hc hf
      exact w_L_isTold_J598 X hst hf ⟨by omega, by omega⟩  E (lv_sub hl [1, 3, 4, 5, 6, 7, 8, 0] rfl) G
    · have hf := aw_ite_f hc hf
      refine lv_aload hx hb dL_isTold_567 (lv_at hl 2 rfl) ?_
      refine lv_iconst (v := (3 : Int32)) hx hb dL_isTold_569 (by decide) ?_
      refine lv_iload hx hb dL_isTold_570 (lv_at hl 3 rfl) ?_
      refine lv_imul hx hb dL_isTold_572 ?_
      refine lv_iload hx hb dL_isTold_573 (lv_at hl 4 rfl) ?_
      obtain ⟨hc_4, hf⟩ := aw_chk_some hf
      refine aw_ias hx hb G hc_4 dL_isTold_575 (fun H locs G => ?_)
      refine lv_aload hx hb dL_isTold_576 (lv_at hl 2 rfl) ?_
      refine lv_iconst (v := (3 : Int32)) hx hb dL_isTold_578 (by decide) ?_
      refine lv_iload hx hb dL_isTold_579 (lv_at hl 3 rfl) ?_
      refine lv_imul hx hb dL_isTold_581 ?_
      refine lv_iconst (v := (1 : Int32)) hx hb dL_isTold_582 (by decide) ?_
      refine lv_iadd hx hb dL_isTold_583 ?_
      refine lv_iload hx hb dL_isTold_584 (lv_at hl 5 rfl) ?_
      obtain ⟨hc_5, hf⟩ := aw_chk_some hf
      refine aw_ias hx hb G hc_5 dL_isTold_586 (fun H locs G => ?_)
      refine lv_aload hx hb dL_isTold_587 (lv_at hl 2 rfl) ?_
      refine lv_iconst (v := (3 : Int32)) hx hb dL_isTold_589 (by decide) ?_
      refine lv_iload hx hb dL_isTold_590 (lv_at hl 3 rfl) ?_
      refine lv_imul hx hb dL_isTold_592 ?_
      refine lv_iconst (v := (2 : Int32)) hx hb dL_isTold_593 (by decide) ?_
      refine lv_iadd hx hb dL_isTold_594 ?_
      refine lv_iload hx hb dL_isTold_595 (lv_at hl 6 rfl) ?_
      obtain ⟨hc_6, hf⟩ := aw_chk_some hf
      refine aw_ias hx hb G hc_6 dL_isTold_597 (fun H locs G => ?_)
      exact w_L_isTold_J598 X hst hf ⟨by omega, by omega⟩  E (lv_sub hl [1, 3, 4, 5, 6, 7, 8, 0] rfl) G
set_option maxHeartbeats 4000000 in
set_option maxRecDepth 100000 in
theorem w_L_isTold_J537 {z : Int32 × (Sg × Dt)} (X : aw_X p c cL_isTold 16 s RL m meth (some .boolean)) (hst : l.stackTraces = false) {t0 : Int32} {x0 : Nat} {x4 : Nat} {x9 : Int32} {x10 : Int32} {x11 : Int32} {x12 : Int32} {x13 : Int32} {σ : Sg} {d : Dt} {ad : Nat → Nat} (hf : f_L_isTold_J537 t0 x0 x4 x9 x10 x11 x12 x13 σ d = some z) { cells slots : Nat} (hB : cells + (3) ≤ 4 ∧ slots + 64 * (3) ≤ 256)  (E : aw_ext σ0 ad0 σ ad) {H : Heap} {locs : List Loc} {ls : Array Slot} (hl : lv_has ls 16 [(0, .ref (ad x0)), (4, .ref (ad x4)), (9, .int x9), (10, .int x10), (11, .int x11), (12, .int x12), (13, .int x13)]) (G : aw_G D cA base ad σ d s H locs) : W p l e rm_L_isTold s m args below meth c H locs cells slots (aw_Ek D cA base ad0 σ0 below args s 4 256 z) (F0 m 537 ls [.int t0]) := by
  have hx := X.1; have hb := X.2.1; have hml := X.2.2.1; have hown := X.2.2.2.1
  unfold f_L_isTold_J537 at hf
  refine lv_istore (lv' := [(14, .int t0), (0, .ref (ad x0)), (4, .ref (ad x4)), (9, .int x9), (10, .int x10), (11, .int x11), (12, .int x12), (13, .int x13)]) hx hb dL_isTold_537 hl (by decide) rfl (fun ls hl => ?_)
  refine lv_iload hx hb dL_isTold_539 (lv_at hl 7 rfl) ?_
  refine lv_if_eq (tgt := 554) hx hb dL_isTold_541 (by decide) (fun hc => ?_) (fun hc => ?_)
  · have hf := aw_ite_t hc hf
    refine lv_iconst (v := (0 : Int32)) hx hb dL_isTold_554 (by decide) ?_
    exact w_L_isTold_J555 X hst hf ⟨by omega, by omega⟩  E (lv_sub hl [1, 2, 3, 4, 5, 6, 7, 0] rfl) G
  · have hf := aw_ite_f hc hf
    refine lv_aload hx hb dL_isTold_544 (lv_at hl 2 rfl) ?_
    refine lv_iconst (v := (3 : Int32)) hx hb dL_isTold_546 (by decide) ?_
    refine lv_iload hx hb dL_isTold_547 (lv_at hl 3 rfl) ?_
    refine lv_imul hx hb dL_isTold_549 ?_
    obtain ⟨hc_7, hf⟩ := aw_chk_some hf
    refine aw_ial hx hb G hc_7 dL_isTold_550 ?_
    refine lv_goto (tgt := 555) hx hb dL_isTold_551 (by decide) ?_
    exact w_L_isTold_J555 X hst hf ⟨by omega, by omega⟩  E (lv_sub hl [1, 2, 3, 4, 5, 6, 7, 0] rfl) G
set_option maxHeartbeats 4000000 in
set_option maxRecDepth 100000 in
theorem w_L_isTold_J536 {z : Int32 × (Sg × Dt)} (X : aw_X p c cL_isTold 16 s RL m meth (some .boolean)) (hst : l.stackTraces = false) {x0 : Nat} {x4 : Nat} {x9 : Int32} {x10 : Int32} {x11 : Int32} {x12 : Int32} {x13 : Int32} {σ : Sg} {d : Dt} {ad : Nat → Nat} (hf : f_L_isTold_J536 x0 x4 x9 x10 x11 x12 x13 σ d = some z) { cells slots : Nat} (hB : cells + (3) ≤ 4 ∧ slots + 64 * (3) ≤ 256)  (E : aw_ext σ0 ad0 σ ad) {H : Heap} {locs : List Loc} {ls : Array Slot} (hl : lv_has ls 16 [(0, .ref (ad x0)), (4, .ref (ad x4)), (9, .int x9), (10, .int x10), (11, .int x11), (12, .int x12), (13, .int x13)]) (G : aw_G D cA base ad σ d s H locs) : W p l e rm_L_isTold s m args below meth c H locs cells slots (aw_Ek D cA base ad0 σ0 below args s 4 256 z) (F0 m 536 ls []) := by
  have hx := X.1; have hb := X.2.1; have hml := X.2.2.1; have hown := X.2.2.2.1
  unfold f_L_isTold_J536 at hf
  refine lv_iconst (v := (0 : Int32)) hx hb dL_isTold_536 (by decide) ?_
  exact w_L_isTold_J537 X hst hf ⟨by omega, by omega⟩  E (lv_sub hl [0, 1, 2, 3, 4, 5, 6] rfl) G
set_option maxHeartbeats 4000000 in
set_option maxRecDepth 100000 in
theorem w_L_isTold_J517 {z : Int32 × (Sg × Dt)} (X : aw_X p c cL_isTold 16 s RL m meth (some .boolean)) (hst : l.stackTraces = false) {t0 : Int32} {x0 : Nat} {x4 : Nat} {x9 : Int32} {x10 : Int32} {x11 : Int32} {x12 : Int32} {σ : Sg} {d : Dt} {ad : Nat → Nat} (hf : f_L_isTold_J517 t0 x0 x4 x9 x10 x11 x12 σ d = some z) { cells slots : Nat} (hB : cells + (3) ≤ 4 ∧ slots + 64 * (3) ≤ 256)  (E : aw_ext σ0 ad0 σ ad) {H : Heap} {locs : List Loc} {ls : Array Slot} (hl : lv_has ls 16 [(0, .ref (ad x0)), (4, .ref (ad x4)), (9, .int x9), (10, .int x10), (11, .int x11), (12, .int x12)]) (G : aw_G D cA base ad σ d s H locs) : W p l e rm_L_isTold s m args below meth c H locs cells slots (aw_Ek D cA base ad0 σ0 below args s 4 256 z) (F0 m 517 ls [.int t0]) := by
  have hx := X.1; have hb := X.2.1; have hml := X.2.2.1; have hown := X.2.2.2.1
  unfold f_L_isTold_J517 at hf
  refine lv_istore (lv' := [(13, .int t0), (0, .ref (ad x0)), (4, .ref (ad x4)), (9, .int x9), (10, .int x10), (11, .int x11), (12, .int x12)]) hx hb dL_isTold_517 hl (by decide) rfl (fun ls hl => ?_)
  refine lv_iload hx hb dL_isTold_519 (lv_at hl 4 rfl) ?_
  refine lv_sipush (v := (1000 : Int32)) hx hb dL_isTold_521 (by decide) ?_
  refine lv_icmp_ge (tgt := 536) hx hb dL_isTold_524 (by decide) (fun hc => ?_) (fun hc => ?_)
  · have hf := aw_ite_t hc hf
    exact w_L_isTold_J536 X hst hf ⟨by omega, by omega⟩  E (lv_sub hl [1, 2, 3, 4, 5, 6, 0] rfl) G
  · have hf := aw_ite_f hc hf
    refine lv_iload hx hb dL_isTold_527 (lv_at hl 5 rfl) ?_
    refine lv_if_lt (tgt := 536) hx hb dL_isTold_529 (by decide) (fun hc => ?_) (fun hc => ?_)
    · have hf := aw_ite_t hc hf
      exact w_L_isTold_J536 X hst hf ⟨by omega, by omega⟩  E (lv_sub hl [1, 2, 3, 4, 5, 6, 0] rfl) G
    · have hf := aw_ite_f hc hf
      refine lv_iconst (v := (1 : Int32)) hx hb dL_isTold_532 (by decide) ?_
      refine lv_goto (tgt := 537) hx hb dL_isTold_533 (by decide) ?_
      exact w_L_isTold_J537 X hst hf ⟨by omega, by omega⟩  E (lv_sub hl [1, 2, 3, 4, 5, 6, 0] rfl) G
set_option maxHeartbeats 4000000 in
set_option maxRecDepth 100000 in
theorem w_L_isTold_J516 {z : Int32 × (Sg × Dt)} (X : aw_X p c cL_isTold 16 s RL m meth (some .boolean)) (hst : l.stackTraces = false) {x0 : Nat} {x4 : Nat} {x9 : Int32} {x10 : Int32} {x11 : Int32} {x12 : Int32} {σ : Sg} {d : Dt} {ad : Nat → Nat} (hf : f_L_isTold_J516 x0 x4 x9 x10 x11 x12 σ d = some z) { cells slots : Nat} (hB : cells + (3) ≤ 4 ∧ slots + 64 * (3) ≤ 256)  (E : aw_ext σ0 ad0 σ ad) {H : Heap} {locs : List Loc} {ls : Array Slot} (hl : lv_has ls 16 [(0, .ref (ad x0)), (4, .ref (ad x4)), (9, .int x9), (10, .int x10), (11, .int x11), (12, .int x12)]) (G : aw_G D cA base ad σ d s H locs) : W p l e rm_L_isTold s m args below meth c H locs cells slots (aw_Ek D cA base ad0 σ0 below args s 4 256 z) (F0 m 516 ls []) := by
  have hx := X.1; have hb := X.2.1; have hml := X.2.2.1; have hown := X.2.2.2.1
  unfold f_L_isTold_J516 at hf
  refine lv_iconst (v := (0 : Int32)) hx hb dL_isTold_516 (by decide) ?_
  exact w_L_isTold_J517 X hst hf ⟨by omega, by omega⟩  E (lv_sub hl [0, 1, 2, 3, 4, 5] rfl) G
set_option maxHeartbeats 4000000 in
set_option maxRecDepth 100000 in
theorem w_L_isTold_J489 {z : Int32 × (Sg × Dt)} (X : aw_X p c cL_isTold 16 s RL m meth (some .boolean)) (hst : l.stackTraces = false) {t0 : Int32} {x0 : Nat} {x4 : Nat} {x8 : Int32} {x9 : Int32} {x10 : Int32} {σ : Sg} {d : Dt} {ad : Nat → Nat} (hf : f_L_isTold_J489 t0 x0 x4 x8 x9 x10 σ d = some z) { cells slots : Nat} (hB : cells + (3) ≤ 4 ∧ slots + 64 * (3) ≤ 256)  (E : aw_ext σ0 ad0 σ ad) {H : Heap} {locs : List Loc} {ls : Array Slot} (hl : lv_has ls 16 [(0, .ref (ad x0)), (4, .ref (ad x4)), (8, .int x8), (9, .int x9), (10, .int x10)]) (G : aw_G D cA base ad σ d s H locs) : W p l e rm_L_isTold s m args below meth c H locs cells slots (aw_Ek D cA base ad0 σ0 below args s 4 256 z) (F0 m 489 ls [.int t0]) := by
  have hx := X.1; have hb := X.2.1; have hml := X.2.2.1; have hown := X.2.2.2.1
  unfold f_L_isTold_J489 at hf
  refine lv_istore (lv' := [(11, .int t0), (0, .ref (ad x0)), (4, .ref (ad x4)), (8, .int x8), (9, .int x9), (10, .int x10)]) hx hb dL_isTold_489 hl (by decide) rfl (fun ls hl => ?_)
  refine lv_iload hx hb dL_isTold_491 (lv_at hl 3 rfl) ?_
  refine lv_bipush (v := (13 : Int32)) hx hb dL_isTold_493 (by decide) ?_
  refine lv_idiv hx hb dL_isTold_495 (by decide) ?_
  refine lv_iconst (v := (4 : Int32)) hx hb dL_isTold_496 (by decide) ?_
  refine lv_irem hx hb dL_isTold_497 (by decide) ?_
  refine lv_istore (lv' := [(12, .int ((x8 / (13 : Int32)) - (x8 / (13 : Int32)) / (4 : Int32) * (4 : Int32))), (11, .int t0), (0, .ref (ad x0)), (4, .ref (ad x4)), (8, .int x8), (9, .int x9), (10, .int x10)]) hx hb dL_isTold_498 hl (by decide) rfl (fun ls hl => ?_)
  refine lv_iload hx hb dL_isTold_500 (lv_at hl 5 rfl) ?_
  refine lv_iconst (v := (4 : Int32)) hx hb dL_isTold_502 (by decide) ?_
  refine lv_icmp_ge (tgt := 516) hx hb dL_isTold_503 (by decide) (fun hc => ?_) (fun hc => ?_)
  · have hf := aw_ite_t hc hf
    exact w_L_isTold_J516 X hst hf ⟨by omega, by omega⟩  E (lv_sub hl [2, 3, 5, 6, 1, 0] rfl) G
  · have hf := aw_ite_f hc hf
    refine lv_iload hx hb dL_isTold_506 (lv_at hl 0 rfl) ?_
    refine lv_iconst (v := (3 : Int32)) hx hb dL_isTold_508 (by decide) ?_
    refine lv_icmp_ge (tgt := 516) hx hb dL_isTold_509 (by decide) (fun hc => ?_) (fun hc => ?_)
    · have hf := aw_ite_t hc hf
      exact w_L_isTold_J516 X hst hf ⟨by omega, by omega⟩  E (lv_sub hl [2, 3, 5, 6, 1, 0] rfl) G
    · have hf := aw_ite_f hc hf
      refine lv_iconst (v := (1 : Int32)) hx hb dL_isTold_512 (by decide) ?_
      refine lv_goto (tgt := 517) hx hb dL_isTold_513 (by decide) ?_
      exact w_L_isTold_J517 X hst hf ⟨by omega, by omega⟩  E (lv_sub hl [2, 3, 5, 6, 1, 0] rfl) G
set_option maxHeartbeats 4000000 in
set_option maxRecDepth 100000 in
theorem w_L_isTold_J461 {z : Int32 × (Sg × Dt)} (X : aw_X p c cL_isTold 16 s RL m meth (some .boolean)) (hst : l.stackTraces = false) {t0 : Int32} {x0 : Nat} {x4 : Nat} {x7 : Int32} {x8 : Int32} {x9 : Int32} {σ : Sg} {d : Dt} {ad : Nat → Nat} (hf : f_L_isTold_J461 t0 x0 x4 x7 x8 x9 σ d = some z) { cells slots : Nat} (hB : cells + (3) ≤ 4 ∧ slots + 64 * (3) ≤ 256)  (E : aw_ext σ0 ad0 σ ad) {H : Heap} {locs : List Loc} {ls : Array Slot} (hl : lv_has ls 16 [(0, .ref (ad x0)), (4, .ref (ad x4)), (7, .int x7), (8, .int x8), (9, .int x9)]) (G : aw_G D cA base ad σ d s H locs) : W p l e rm_L_isTold s m args below meth c H locs cells slots (aw_Ek D cA base ad0 σ0 below args s 4 256 z) (F0 m 461 ls [.int t0]) := by
  have hx := X.1; have hb := X.2.1; have hml := X.2.2.1; have hown := X.2.2.2.1
  unfold f_L_isTold_J461 at hf
  refine lv_istore (lv' := [(10, .int t0), (0, .ref (ad x0)), (4, .ref (ad x4)), (7, .int x7), (8, .int x8), (9, .int x9)]) hx hb dL_isTold_461 hl (by decide) rfl (fun ls hl => ?_)
  refine lv_iload hx hb dL_isTold_463 (lv_at hl 3 rfl) ?_
  refine lv_bipush (v := (13 : Int32)) hx hb dL_isTold_465 (by decide) ?_
  refine lv_idiv hx hb dL_isTold_467 (by decide) ?_
  refine lv_bipush (v := (11 : Int32)) hx hb dL_isTold_468 (by decide) ?_
  refine lv_irem hx hb dL_isTold_470 (by decide) ?_
  refine lv_bipush (v := (10 : Int32)) hx hb dL_isTold_471 (by decide) ?_
  refine lv_icmp_ne (tgt := 480) hx hb dL_isTold_473 (by decide) (fun hc => ?_) (fun hc => ?_)
  · have hf := aw_ite_f hc hf
    refine lv_iload hx hb dL_isTold_480 (lv_at hl 3 rfl) ?_
    refine lv_bipush (v := (13 : Int32)) hx hb dL_isTold_482 (by decide) ?_
    refine lv_idiv hx hb dL_isTold_484 (by decide) ?_
    refine lv_sipush (v := (1000 : Int32)) hx hb dL_isTold_485 (by decide) ?_
    refine lv_irem hx hb dL_isTold_488 (by decide) ?_
    exact w_L_isTold_J489 X hst hf ⟨by omega, by omega⟩  E (lv_sub hl [1, 2, 4, 5, 0] rfl) G
  · have hf := aw_ite_t hc hf
    refine lv_iconst (v := (-1 : Int32)) hx hb dL_isTold_476 (by decide) ?_
    refine lv_goto (tgt := 489) hx hb dL_isTold_477 (by decide) ?_
    exact w_L_isTold_J489 X hst hf ⟨by omega, by omega⟩  E (lv_sub hl [1, 2, 4, 5, 0] rfl) G
set_option maxHeartbeats 4000000 in
set_option maxRecDepth 100000 in
theorem w_L_isTold_J438 {z : Int32 × (Sg × Dt)} (X : aw_X p c cL_isTold 16 s RL m meth (some .boolean)) (hst : l.stackTraces = false) {t0 : Int32} {x0 : Nat} {x4 : Nat} {x7 : Int32} {x8 : Int32} {σ : Sg} {d : Dt} {ad : Nat → Nat} (hf : f_L_isTold_J438 t0 x0 x4 x7 x8 σ d = some z) { cells slots : Nat} (hB : cells + (3) ≤ 4 ∧ slots + 64 * (3) ≤ 256)  (E : aw_ext σ0 ad0 σ ad) {H : Heap} {locs : List Loc} {ls : Array Slot} (hl : lv_has ls 16 [(0, .ref (ad x0)), (4, .ref (ad x4)), (7, .int x7), (8, .int x8)]) (G : aw_G D cA base ad σ d s H locs) : W p l e rm_L_isTold s m args below meth c H locs cells slots (aw_Ek D cA base ad0 σ0 below args s 4 256 z) (F0 m 438 ls [.int t0]) := by
  have hx := X.1; have hb := X.2.1; have hml := X.2.2.1; have hown := X.2.2.2.1
  unfold f_L_isTold_J438 at hf
  refine lv_istore (lv' := [(9, .int t0), (0, .ref (ad x0)), (4, .ref (ad x4)), (7, .int x7), (8, .int x8)]) hx hb dL_isTold_438 hl (by decide) rfl (fun ls hl => ?_)
  refine lv_iload hx hb dL_isTold_440 (lv_at hl 4 rfl) ?_
  refine lv_bipush (v := (13 : Int32)) hx hb dL_isTold_442 (by decide) ?_
  refine lv_irem hx hb dL_isTold_444 (by decide) ?_
  refine lv_bipush (v := (12 : Int32)) hx hb dL_isTold_445 (by decide) ?_
  refine lv_icmp_ne (tgt := 456) hx hb dL_isTold_447 (by decide) (fun hc => ?_) (fun hc => ?_)
  · have hf := aw_ite_f hc hf
    refine lv_iload hx hb dL_isTold_456 (lv_at hl 4 rfl) ?_
    refine lv_bipush (v := (30 : Int32)) hx hb dL_isTold_458 (by decide) ?_
    refine lv_irem hx hb dL_isTold_460 (by decide) ?_
    exact w_L_isTold_J461 X hst hf ⟨by omega, by omega⟩  E (lv_sub hl [1, 2, 3, 4, 0] rfl) G
  · have hf := aw_ite_t hc hf
    refine lv_sipush (v := (1000 : Int32)) hx hb dL_isTold_450 (by decide) ?_
    refine lv_goto (tgt := 461) hx hb dL_isTold_453 (by decide) ?_
    exact w_L_isTold_J461 X hst hf ⟨by omega, by omega⟩  E (lv_sub hl [1, 2, 3, 4, 0] rfl) G
set_option maxHeartbeats 4000000 in
set_option maxRecDepth 100000 in
theorem w_L_isTold_B220 {z : Int32 × (Sg × Dt)} (X : aw_X p c cL_isTold 16 s RL m meth (some .boolean)) (hst : l.stackTraces = false) {kb220 : Int32 → Int32 → Sg → Dt → Option (Int32 × (Sg × Dt))} {k220 : Int32 → Sg → Dt → Option (Int32 × (Sg × Dt))} {x0 : Nat} {x3 : Nat} {x8 : Int32} {x9 : Int32} {x10 : Int32} {x11 : Int32} {σ : Sg} {d : Dt} {ad : Nat → Nat} (hf : f_L_isTold_B220 kb220 k220 x0 x3 x8 x9 x10 x11 σ d = some z) { cells slots : Nat} (hB : cells + (2) ≤ 4 ∧ slots + 64 * (2) ≤ 256) (hkb220 : ∀ (y10 : Int32) (y11 : Int32) (σ : Sg) (d : Dt), kb220 y10 y11 σ d = some z → ∀ (ad : Nat → Nat), aw_ext σ0 ad0 σ ad → ∀ (cells slots : Nat), cells + (2) ≤ 4 ∧ slots + 64 * (2) ≤ 256 → ∀ (H : Heap) (locs : List Loc) (ls : Array Slot), lv_has ls 16 [(0, .ref (ad x0)), (3, .ref (ad x3)), (8, .int x8), (9, .int x9), (10, .int y10), (11, .int y11)] → aw_G D cA base ad σ d s H locs → W p l e rm_L_isTold s m args below meth c H locs cells slots (aw_Ek D cA base ad0 σ0 below args s 4 256 z) (F0 m 220 ls [])) (hk220 : ∀ (y10 : Int32) (σ : Sg) (d : Dt), k220 y10 σ d = some z → ∀ (ad : Nat → Nat), aw_ext σ0 ad0 σ ad → ∀ (cells slots : Nat), cells + (2) ≤ 4 ∧ slots + 64 * (2) ≤ 256 → ∀ (H : Heap) (locs : List Loc) (ls : Array Slot), lv_has ls 16 [(0, .ref (ad x0)), (3, .ref (ad x3)), (8, .int x8), (9, .int x9), (10, .int y10)] → aw_G D cA base ad σ d s H locs → W p l e rm_L_isTold s m args below meth c H locs cells slots (aw_Ek D cA base ad0 σ0 below args s 4 256 z) (F0 m 256 ls [])) (E : aw_ext σ0 ad0 σ ad) {H : Heap} {locs : List Loc} {ls : Array Slot} (hl : lv_has ls 16 [(0, .ref (ad x0)), (3, .ref (ad x3)), (8, .int x8), (9, .int x9), (10, .int x10), (11, .int x11)]) (G : aw_G D cA base ad σ d s H locs) : W p l e rm_L_isTold s m args below meth c H locs cells slots (aw_Ek D cA base ad0 σ0 below args s 4 256 z) (F0 m 220 ls []) := by
  have hx := X.1; have hb := X.2.1; have hml := X.2.2.1; have hown := X.2.2.2.1
  unfold f_L_isTold_B220 at hf
  refine lv_iload hx hb dL_isTold_220 (lv_at hl 5 rfl) ?_
  refine lv_iconst (v := (1 : Int32)) hx hb dL_isTold_222 (by decide) ?_
  refine lv_iload hx hb dL_isTold_223 (lv_at hl 2 rfl) ?_
  refine lv_iconst (v := (4 : Int32)) hx hb dL_isTold_225 (by decide) ?_
  refine lv_irem hx hb dL_isTold_226 (by decide) ?_
  refine lv_iadd hx hb dL_isTold_227 ?_
  refine lv_icmp_ge (tgt := 256) hx hb dL_isTold_228 (by decide) (fun hc => ?_) (fun hc => ?_)
  · have hf := aw_ite_t hc hf
    exact hk220 _ _ _ hf _ E _ _ ⟨by omega, by omega⟩ _ _ _ (lv_sub hl [0, 1, 2, 3, 4] rfl) G
  · have hf := aw_ite_f hc hf
    refine lv_bipush (v := (10 : Int32)) hx hb dL_isTold_231 (by decide) ?_
    refine lv_iload hx hb dL_isTold_233 (lv_at hl 4 rfl) ?_
    refine lv_imul hx hb dL_isTold_235 ?_
    refine lv_iconst (v := (1 : Int32)) hx hb dL_isTold_236 (by decide) ?_
    refine lv_iadd hx hb dL_isTold_237 ?_
    refine lv_iload hx hb dL_isTold_238 (lv_at hl 2 rfl) ?_
    refine lv_iconst (v := (2 : Int32)) hx hb dL_isTold_240 (by decide) ?_
    refine lv_iload hx hb dL_isTold_241 (lv_at hl 5 rfl) ?_
    refine lv_imul hx hb dL_isTold_243 ?_
    refine lv_ishr hx hb dL_isTold_244 ?_
    refine lv_iconst (v := (4 : Int32)) hx hb dL_isTold_245 (by decide) ?_
    refine lv_irem hx hb dL_isTold_246 (by decide) ?_
    refine lv_iadd hx hb dL_isTold_247 ?_
    refine lv_istore (lv' := [(10, .int (((((10 : Int32)) * x10) + ((1 : Int32))) + ((x8 >>> ((((2 : Int32)) * x11) &&& 31)) - (x8 >>> ((((2 : Int32)) * x11) &&& 31)) / (4 : Int32) * (4 : Int32)))), (0, .ref (ad x0)), (3, .ref (ad x3)), (8, .int x8), (9, .int x9), (11, .int x11)]) hx hb dL_isTold_248 hl (by decide) rfl (fun ls hl => ?_)
    refine lv_iinc (v := x11 + 1) (lv' := [(11, .int (x11 + 1)), (10, .int (((((10 : Int32)) * x10) + ((1 : Int32))) + ((x8 >>> ((((2 : Int32)) * x11) &&& 31)) - (x8 >>> ((((2 : Int32)) * x11) &&& 31)) / (4 : Int32) * (4 : Int32)))), (0, .ref (ad x0)), (3, .ref (ad x3)), (8, .int x8), (9, .int x9)]) hx hb dL_isTold_250 hl (k := 5) rfl rfl (by decide) rfl (fun ls hl => ?_)
    refine lv_goto (tgt := 220) hx hb dL_isTold_253 (by decide) ?_
    exact hkb220 _ _ _ _ hf _ E _ _ ⟨by omega, by omega⟩ _ _ _ (lv_sub hl [2, 3, 4, 5, 1, 0] rfl) G
theorem w_L_isTold_L220 {z : Int32 × (Sg × Dt)} (X : aw_X p c cL_isTold 16 s RL m meth (some .boolean)) (hst : l.stackTraces = false) {k220 : Int32 → Sg → Dt → Option (Int32 × (Sg × Dt))} {x0 : Nat} {x3 : Nat} {x8 : Int32} {x9 : Int32} (n : Nat) {x10 : Int32} {x11 : Int32} {σ : Sg} {d : Dt} {ad : Nat → Nat} (hf : f_L_isTold_L220 n k220 x0 x3 x8 x9 x10 x11 σ d = some z) { cells slots : Nat} (hB : cells + (2) ≤ 4 ∧ slots + 64 * (2) ≤ 256) (hk220 : ∀ (y10 : Int32) (σ : Sg) (d : Dt), k220 y10 σ d = some z → ∀ (ad : Nat → Nat), aw_ext σ0 ad0 σ ad → ∀ (cells slots : Nat), cells + (2) ≤ 4 ∧ slots + 64 * (2) ≤ 256 → ∀ (H : Heap) (locs : List Loc) (ls : Array Slot), lv_has ls 16 [(0, .ref (ad x0)), (3, .ref (ad x3)), (8, .int x8), (9, .int x9), (10, .int y10)] → aw_G D cA base ad σ d s H locs → W p l e rm_L_isTold s m args below meth c H locs cells slots (aw_Ek D cA base ad0 σ0 below args s 4 256 z) (F0 m 256 ls [])) (E : aw_ext σ0 ad0 σ ad) {H : Heap} {locs : List Loc} {ls : Array Slot} (hl : lv_has ls 16 [(0, .ref (ad x0)), (3, .ref (ad x3)), (8, .int x8), (9, .int x9), (10, .int x10), (11, .int x11)]) (G : aw_G D cA base ad σ d s H locs) : W p l e rm_L_isTold s m args below meth c H locs cells slots (aw_Ek D cA base ad0 σ0 below args s 4 256 z) (F0 m 220 ls []) := by
  induction n generalizing x10 x11 σ d ad cells slots H locs ls with
  | zero => exact absurd (show (none : Option (Int32 × (Sg × Dt))) = some z from hf) (by simp)
  | succ n ih => exact w_L_isTold_B220 X hst (kb220 := f_L_isTold_L220 n k220 x0 x3 x8 x9) hf ⟨by omega, by omega⟩  (fun x10 x11 σ d hf ad E cells slots hB H locs ls hl G => ih hf hB E hl G) hk220 E hl G
set_option maxHeartbeats 4000000 in
set_option maxRecDepth 100000 in
theorem w_L_isTold_J328 {z : Int32 × (Sg × Dt)} (X : aw_X p c cL_isTold 16 s RL m meth (some .boolean)) (hst : l.stackTraces = false) {kb296 : Int32 → Int32 → Sg → Dt → Option (Int32 × (Sg × Dt))} {t0 : Int32} {x0 : Nat} {x3 : Nat} {x9 : Int32} {x10 : Int32} {x12 : Int32} {σ : Sg} {d : Dt} {ad : Nat → Nat} (hf : f_L_isTold_J328 kb296 t0 x0 x3 x9 x10 x12 σ d = some z) { cells slots : Nat} (hB : cells + (2) ≤ 4 ∧ slots + 64 * (2) ≤ 256) (hkb296 : ∀ (y11 : Int32) (y12 : Int32) (σ : Sg) (d : Dt), kb296 y11 y12 σ d = some z → ∀ (ad : Nat → Nat), aw_ext σ0 ad0 σ ad → ∀ (cells slots : Nat), cells + (2) ≤ 4 ∧ slots + 64 * (2) ≤ 256 → ∀ (H : Heap) (locs : List Loc) (ls : Array Slot), lv_has ls 16 [(0, .ref (ad x0)), (3, .ref (ad x3)), (9, .int x9), (10, .int x10), (11, .int y11), (12, .int y12)] → aw_G D cA base ad σ d s H locs → W p l e rm_L_isTold s m args below meth c H locs cells slots (aw_Ek D cA base ad0 σ0 below args s 4 256 z) (F0 m 296 ls [])) (E : aw_ext σ0 ad0 σ ad) {H : Heap} {locs : List Loc} {ls : Array Slot} (hl : lv_has ls 16 [(0, .ref (ad x0)), (3, .ref (ad x3)), (9, .int x9), (10, .int x10), (12, .int x12)]) (G : aw_G D cA base ad σ d s H locs) : W p l e rm_L_isTold s m args below meth c H locs cells slots (aw_Ek D cA base ad0 σ0 below args s 4 256 z) (F0 m 328 ls [.int t0]) := by
  have hx := X.1; have hb := X.2.1; have hml := X.2.2.1; have hown := X.2.2.2.1
  unfold f_L_isTold_J328 at hf
  refine lv_istore (lv' := [(11, .int t0), (0, .ref (ad x0)), (3, .ref (ad x3)), (9, .int x9), (10, .int x10), (12, .int x12)]) hx hb dL_isTold_328 hl (by decide) rfl (fun ls hl => ?_)
  refine lv_iload hx hb dL_isTold_330 (lv_at hl 5 rfl) ?_
  refine lv_bipush (v := (10 : Int32)) hx hb dL_isTold_332 (by decide) ?_
  refine lv_idiv hx hb dL_isTold_334 (by decide) ?_
  refine lv_istore (lv' := [(12, .int (x12 / (10 : Int32))), (11, .int t0), (0, .ref (ad x0)), (3, .ref (ad x3)), (9, .int x9), (10, .int x10)]) hx hb dL_isTold_335 hl (by decide) rfl (fun ls hl => ?_)
  refine lv_goto (tgt := 296) hx hb dL_isTold_337 (by decide) ?_
  exact hkb296 _ _ _ _ hf _ E _ _ ⟨by omega, by omega⟩ _ _ _ (lv_sub hl [2, 3, 4, 5, 1, 0] rfl) G
set_option maxHeartbeats 4000000 in
set_option maxRecDepth 100000 in
theorem w_L_isTold_J327 {z : Int32 × (Sg × Dt)} (X : aw_X p c cL_isTold 16 s RL m meth (some .boolean)) (hst : l.stackTraces = false) {kb296 : Int32 → Int32 → Sg → Dt → Option (Int32 × (Sg × Dt))} {x0 : Nat} {x3 : Nat} {x9 : Int32} {x10 : Int32} {x12 : Int32} {σ : Sg} {d : Dt} {ad : Nat → Nat} (hf : f_L_isTold_J327 kb296 x0 x3 x9 x10 x12 σ d = some z) { cells slots : Nat} (hB : cells + (2) ≤ 4 ∧ slots + 64 * (2) ≤ 256) (hkb296 : ∀ (y11 : Int32) (y12 : Int32) (σ : Sg) (d : Dt), kb296 y11 y12 σ d = some z → ∀ (ad : Nat → Nat), aw_ext σ0 ad0 σ ad → ∀ (cells slots : Nat), cells + (2) ≤ 4 ∧ slots + 64 * (2) ≤ 256 → ∀ (H : Heap) (locs : List Loc) (ls : Array Slot), lv_has ls 16 [(0, .ref (ad x0)), (3, .ref (ad x3)), (9, .int x9), (10, .int x10), (11, .int y11), (12, .int y12)] → aw_G D cA base ad σ d s H locs → W p l e rm_L_isTold s m args below meth c H locs cells slots (aw_Ek D cA base ad0 σ0 below args s 4 256 z) (F0 m 296 ls [])) (E : aw_ext σ0 ad0 σ ad) {H : Heap} {locs : List Loc} {ls : Array Slot} (hl : lv_has ls 16 [(0, .ref (ad x0)), (3, .ref (ad x3)), (9, .int x9), (10, .int x10), (12, .int x12)]) (G : aw_G D cA base ad σ d s H locs) : W p l e rm_L_isTold s m args below meth c H locs cells slots (aw_Ek D cA base ad0 σ0 below args s 4 256 z) (F0 m 327 ls []) := by
  have hx := X.1; have hb := X.2.1; have hml := X.2.2.1; have hown := X.2.2.2.1
  unfold f_L_isTold_J327 at hf
  refine lv_iconst (v := (0 : Int32)) hx hb dL_isTold_327 (by decide) ?_
  exact w_L_isTold_J328 X hst hf ⟨by omega, by omega⟩ hkb296 E (lv_sub hl [0, 1, 2, 3, 4] rfl) G
set_option maxHeartbeats 4000000 in
set_option maxRecDepth 100000 in
theorem w_L_isTold_B296 {z : Int32 × (Sg × Dt)} (X : aw_X p c cL_isTold 16 s RL m meth (some .boolean)) (hst : l.stackTraces = false) {kb296 : Int32 → Int32 → Sg → Dt → Option (Int32 × (Sg × Dt))} {k296 : Int32 → Sg → Dt → Option (Int32 × (Sg × Dt))} {x0 : Nat} {x3 : Nat} {x9 : Int32} {x10 : Int32} {x11 : Int32} {x12 : Int32} {σ : Sg} {d : Dt} {ad : Nat → Nat} (hf : f_L_isTold_B296 kb296 k296 x0 x3 x9 x10 x11 x12 σ d = some z) { cells slots : Nat} (hB : cells + (2) ≤ 4 ∧ slots + 64 * (2) ≤ 256) (hkb296 : ∀ (y11 : Int32) (y12 : Int32) (σ : Sg) (d : Dt), kb296 y11 y12 σ d = some z → ∀ (ad : Nat → Nat), aw_ext σ0 ad0 σ ad → ∀ (cells slots : Nat), cells + (2) ≤ 4 ∧ slots + 64 * (2) ≤ 256 → ∀ (H : Heap) (locs : List Loc) (ls : Array Slot), lv_has ls 16 [(0, .ref (ad x0)), (3, .ref (ad x3)), (9, .int x9), (10, .int x10), (11, .int y11), (12, .int y12)] → aw_G D cA base ad σ d s H locs → W p l e rm_L_isTold s m args below meth c H locs cells slots (aw_Ek D cA base ad0 σ0 below args s 4 256 z) (F0 m 296 ls [])) (hk296 : ∀ (y11 : Int32) (σ : Sg) (d : Dt), k296 y11 σ d = some z → ∀ (ad : Nat → Nat), aw_ext σ0 ad0 σ ad → ∀ (cells slots : Nat), cells + (2) ≤ 4 ∧ slots + 64 * (2) ≤ 256 → ∀ (H : Heap) (locs : List Loc) (ls : Array Slot), lv_has ls 16 [(0, .ref (ad x0)), (3, .ref (ad x3)), (9, .int x9), (10, .int x10), (11, .int y11)] → aw_G D cA base ad σ d s H locs → W p l e rm_L_isTold s m args below meth c H locs cells slots (aw_Ek D cA base ad0 σ0 below args s 4 256 z) (F0 m 340 ls [])) (E : aw_ext σ0 ad0 σ ad) {H : Heap} {locs : List Loc} {ls : Array Slot} (hl : lv_has ls 16 [(0, .ref (ad x0)), (3, .ref (ad x3)), (9, .int x9), (10, .int x10), (11, .int x11), (12, .int x12)]) (G : aw_G D cA base ad σ d s H locs) : W p l e rm_L_isTold s m args below meth c H locs cells slots (aw_Ek D cA base ad0 σ0 below args s 4 256 z) (F0 m 296 ls []) := by
  have hx := X.1; have hb := X.2.1; have hml := X.2.2.1; have hown := X.2.2.2.1
  unfold f_L_isTold_B296 at hf
  refine lv_iload hx hb dL_isTold_296 (lv_at hl 5 rfl) ?_
  refine lv_if_le (tgt := 340) hx hb dL_isTold_298 (by decide) (fun hc => ?_) (fun hc => ?_)
  · have hf := aw_ite_t hc hf
    exact hk296 _ _ _ hf _ E _ _ ⟨by omega, by omega⟩ _ _ _ (lv_sub hl [0, 1, 2, 3, 4] rfl) G
  · have hf := aw_ite_f hc hf
    refine lv_iload hx hb dL_isTold_301 (lv_at hl 4 rfl) ?_
    refine lv_if_eq (tgt := 327) hx hb dL_isTold_303 (by decide) (fun hc => ?_) (fun hc => ?_)
    · have hf := aw_ite_t hc hf
      exact w_L_isTold_J327 X hst hf ⟨by omega, by omega⟩ hkb296 E (lv_sub hl [0, 1, 2, 3, 5] rfl) G
    · have hf := aw_ite_f hc hf
      refine lv_iload hx hb dL_isTold_306 (lv_at hl 5 rfl) ?_
      refine lv_bipush (v := (10 : Int32)) hx hb dL_isTold_308 (by decide) ?_
      refine lv_irem hx hb dL_isTold_310 (by decide) ?_
      refine lv_if_le (tgt := 327) hx hb dL_isTold_311 (by decide) (fun hc => ?_) (fun hc => ?_)
      · have hf := aw_ite_t hc hf
        exact w_L_isTold_J327 X hst hf ⟨by omega, by omega⟩ hkb296 E (lv_sub hl [0, 1, 2, 3, 5] rfl) G
      · have hf := aw_ite_f hc hf
        refine lv_iload hx hb dL_isTold_314 (lv_at hl 5 rfl) ?_
        refine lv_bipush (v := (10 : Int32)) hx hb dL_isTold_316 (by decide) ?_
        refine lv_irem hx hb dL_isTold_318 (by decide) ?_
        refine lv_iconst (v := (5 : Int32)) hx hb dL_isTold_319 (by decide) ?_
        refine lv_icmp_ge (tgt := 327) hx hb dL_isTold_320 (by decide) (fun hc => ?_) (fun hc => ?_)
        · have hf := aw_ite_t hc hf
          exact w_L_isTold_J327 X hst hf ⟨by omega, by omega⟩ hkb296 E (lv_sub hl [0, 1, 2, 3, 5] rfl) G
        · have hf := aw_ite_f hc hf
          refine lv_iconst (v := (1 : Int32)) hx hb dL_isTold_323 (by decide) ?_
          refine lv_goto (tgt := 328) hx hb dL_isTold_324 (by decide) ?_
          exact w_L_isTold_J328 X hst hf ⟨by omega, by omega⟩ hkb296 E (lv_sub hl [0, 1, 2, 3, 5] rfl) G
theorem w_L_isTold_L296 {z : Int32 × (Sg × Dt)} (X : aw_X p c cL_isTold 16 s RL m meth (some .boolean)) (hst : l.stackTraces = false) {k296 : Int32 → Sg → Dt → Option (Int32 × (Sg × Dt))} {x0 : Nat} {x3 : Nat} {x9 : Int32} {x10 : Int32} (n : Nat) {x11 : Int32} {x12 : Int32} {σ : Sg} {d : Dt} {ad : Nat → Nat} (hf : f_L_isTold_L296 n k296 x0 x3 x9 x10 x11 x12 σ d = some z) { cells slots : Nat} (hB : cells + (2) ≤ 4 ∧ slots + 64 * (2) ≤ 256) (hk296 : ∀ (y11 : Int32) (σ : Sg) (d : Dt), k296 y11 σ d = some z → ∀ (ad : Nat → Nat), aw_ext σ0 ad0 σ ad → ∀ (cells slots : Nat), cells + (2) ≤ 4 ∧ slots + 64 * (2) ≤ 256 → ∀ (H : Heap) (locs : List Loc) (ls : Array Slot), lv_has ls 16 [(0, .ref (ad x0)), (3, .ref (ad x3)), (9, .int x9), (10, .int x10), (11, .int y11)] → aw_G D cA base ad σ d s H locs → W p l e rm_L_isTold s m args below meth c H locs cells slots (aw_Ek D cA base ad0 σ0 below args s 4 256 z) (F0 m 340 ls [])) (E : aw_ext σ0 ad0 σ ad) {H : Heap} {locs : List Loc} {ls : Array Slot} (hl : lv_has ls 16 [(0, .ref (ad x0)), (3, .ref (ad x3)), (9, .int x9), (10, .int x10), (11, .int x11), (12, .int x12)]) (G : aw_G D cA base ad σ d s H locs) : W p l e rm_L_isTold s m args below meth c H locs cells slots (aw_Ek D cA base ad0 σ0 below args s 4 256 z) (F0 m 296 ls []) := by
  induction n generalizing x11 x12 σ d ad cells slots H locs ls with
  | zero => exact absurd (show (none : Option (Int32 × (Sg × Dt))) = some z from hf) (by simp)
  | succ n ih => exact w_L_isTold_B296 X hst (kb296 := f_L_isTold_L296 n k296 x0 x3 x9 x10) hf ⟨by omega, by omega⟩  (fun x11 x12 σ d hf ad E cells slots hB H locs ls hl G => ih hf hB E hl G) hk296 E hl G
set_option maxHeartbeats 4000000 in
set_option maxRecDepth 100000 in
theorem w_L_isTold_J419 {z : Int32 × (Sg × Dt)} (X : aw_X p c cL_isTold 16 s RL m meth (some .boolean)) (hst : l.stackTraces = false) {t0 : Int32} {σ : Sg} {d : Dt} {ad : Nat → Nat} (hf : f_L_isTold_J419 t0 σ d = some z) { cells slots : Nat} (hB : cells + (0) ≤ 4 ∧ slots + 64 * (0) ≤ 256)  (E : aw_ext σ0 ad0 σ ad) {H : Heap} {locs : List Loc} {ls : Array Slot} (hl : lv_has ls 16 []) (G : aw_G D cA base ad σ d s H locs) : W p l e rm_L_isTold s m args below meth c H locs cells slots (aw_Ek D cA base ad0 σ0 below args s 4 256 z) (F0 m 419 ls [.int t0]) := by
  have hx := X.1; have hb := X.2.1; have hml := X.2.2.1; have hown := X.2.2.2.1
  unfold f_L_isTold_J419 at hf
  obtain ⟨hc_20, hf⟩ := aw_chk_some hf
  exact aw_retkZ X G E hf hc_20 dL_isTold_419 (by omega) (by omega)
set_option maxHeartbeats 4000000 in
set_option maxRecDepth 100000 in
theorem w_L_isTold_J411 {z : Int32 × (Sg × Dt)} (X : aw_X p c cL_isTold 16 s RL m meth (some .boolean)) (hst : l.stackTraces = false) {t1 : Int32} {t0 : Int32} {σ : Sg} {d : Dt} {ad : Nat → Nat} (hf : f_L_isTold_J411 t1 t0 σ d = some z) { cells slots : Nat} (hB : cells + (0) ≤ 4 ∧ slots + 64 * (0) ≤ 256)  (E : aw_ext σ0 ad0 σ ad) {H : Heap} {locs : List Loc} {ls : Array Slot} (hl : lv_has ls 16 []) (G : aw_G D cA base ad σ d s H locs) : W p l e rm_L_isTold s m args below meth c H locs cells slots (aw_Ek D cA base ad0 σ0 below args s 4 256 z) (F0 m 411 ls [.int t1, .int t0]) := by
  have hx := X.1; have hb := X.2.1; have hml := X.2.2.1; have hown := X.2.2.2.1
  unfold f_L_isTold_J411 at hf
  refine lv_icmp_ne (tgt := 418) hx hb dL_isTold_411 (by decide) (fun hc => ?_) (fun hc => ?_)
  · have hf := aw_ite_f hc hf
    refine lv_iconst (v := (0 : Int32)) hx hb dL_isTold_418 (by decide) ?_
    exact w_L_isTold_J419 X hst hf ⟨by omega, by omega⟩  E (lv_sub hl [] rfl) G
  · have hf := aw_ite_t hc hf
    refine lv_iconst (v := (1 : Int32)) hx hb dL_isTold_414 (by decide) ?_
    refine lv_goto (tgt := 419) hx hb dL_isTold_415 (by decide) ?_
    exact w_L_isTold_J419 X hst hf ⟨by omega, by omega⟩  E (lv_sub hl [] rfl) G
set_option maxHeartbeats 4000000 in
set_option maxRecDepth 100000 in
theorem w_L_isTold_J375 {z : Int32 × (Sg × Dt)} (X : aw_X p c cL_isTold 16 s RL m meth (some .boolean)) (hst : l.stackTraces = false) {x0 : Nat} {x9 : Int32} {x10 : Int32} {x11 : Int32} {x12 : Int32} {σ : Sg} {d : Dt} {ad : Nat → Nat} (hf : f_L_isTold_J375 x0 x9 x10 x11 x12 σ d = some z) { cells slots : Nat} (hB : cells + (2) ≤ 4 ∧ slots + 64 * (2) ≤ 256)  (E : aw_ext σ0 ad0 σ ad) {H : Heap} {locs : List Loc} {ls : Array Slot} (hl : lv_has ls 16 [(0, .ref (ad x0)), (9, .int x9), (10, .int x10), (11, .int x11), (12, .int x12)]) (G : aw_G D cA base ad σ d s H locs) : W p l e rm_L_isTold s m args below meth c H locs cells slots (aw_Ek D cA base ad0 σ0 below args s 4 256 z) (F0 m 375 ls []) := by
  have hx := X.1; have hb := X.2.1; have hml := X.2.2.1; have hown := X.2.2.2.1
  unfold f_L_isTold_J375 at hf
  refine lv_aload_n hx hb dL_isTold_375 rfl (lv_at hl 0 rfl) ?_
  refine lv_iconst (v := (5 : Int32)) hx hb dL_isTold_376 (by decide) ?_
  refine lv_iload hx hb dL_isTold_377 (lv_at hl 1 rfl) ?_
  refine lv_iload hx hb dL_isTold_379 (lv_at hl 2 rfl) ?_
  refine lv_iconst (v := (0 : Int32)) hx hb dL_isTold_381 (by decide) ?_
  refine lv_iconst (v := (0 : Int32)) hx hb dL_isTold_382 (by decide) ?_
  refine lv_iconst (v := (0 : Int32)) hx hb dL_isTold_383 (by decide) ?_
  obtain ⟨z_18, hz_19, hf⟩ := aw_bind_some hf
  refine aw_WI2 (As := [.ref (ad x0), .int ((5 : Int32)), .int x9, .int x10, .int ((0 : Int32)), .int ((0 : Int32)), .int ((0 : Int32))]) (rest := []) X G hl.1 cr_L_123 (c_L_does_5 l hst hz_19) rfl rfl rfl ⟨(Nat.le_of_ble_eq_true rfl), (Nat.le_of_ble_eq_true rfl)⟩ (Nat.le_of_ble_eq_true rfl) dL_isTold_384 2 12 ⟨(Nat.le_of_ble_eq_true rfl), (Nat.le_of_ble_eq_true rfl)⟩ ⟨by show cells + 2 ≤ 4; omega, by show slots + 12 ≤ 256; omega⟩ (fun H locs G => ?_)
  refine lv_iload hx hb dL_isTold_387 (lv_at hl 1 rfl) ?_
  refine lv_bipush (v := (50 : Int32)) hx hb dL_isTold_389 (by decide) ?_
  refine lv_icmp_ne (tgt := 399) hx hb dL_isTold_391 (by decide) (fun hc => ?_) (fun hc => ?_)
  · have hf := aw_ite_f hc hf
    refine lv_iload hx hb dL_isTold_399 (lv_at hl 3 rfl) ?_
    refine lv_if_eq (tgt := 409) hx hb dL_isTold_401 (by decide) (fun hc => ?_) (fun hc => ?_)
    · have hf := aw_ite_t hc hf
      refine lv_ldc (v := (-2000000 : Int32)) hx hb hown (G.1.hts _ m_760) dL_isTold_409 ?_
      exact w_L_isTold_J411 X hst hf ⟨by omega, by omega⟩  E (lv_sub hl [] rfl) G
    · have hf := aw_ite_f hc hf
      refine lv_iload hx hb dL_isTold_404 (lv_at hl 4 rfl) ?_
      refine lv_goto (tgt := 411) hx hb dL_isTold_406 (by decide) ?_
      exact w_L_isTold_J411 X hst hf ⟨by omega, by omega⟩  E (lv_sub hl [] rfl) G
  · have hf := aw_ite_t hc hf
    refine lv_ldc (v := (-3000000 : Int32)) hx hb hown (G.1.hts _ m_759) dL_isTold_394 ?_
    refine lv_goto (tgt := 411) hx hb dL_isTold_396 (by decide) ?_
    exact w_L_isTold_J411 X hst hf ⟨by omega, by omega⟩  E (lv_sub hl [] rfl) G
set_option maxHeartbeats 4000000 in
set_option maxRecDepth 100000 in
theorem w_L_isTold_J355 {z : Int32 × (Sg × Dt)} (X : aw_X p c cL_isTold 16 s RL m meth (some .boolean)) (hst : l.stackTraces = false) {t0 : Int32} {x0 : Nat} {x3 : Nat} {x9 : Int32} {x10 : Int32} {x11 : Int32} {σ : Sg} {d : Dt} {ad : Nat → Nat} (hf : f_L_isTold_J355 t0 x0 x3 x9 x10 x11 σ d = some z) { cells slots : Nat} (hB : cells + (2) ≤ 4 ∧ slots + 64 * (2) ≤ 256)  (E : aw_ext σ0 ad0 σ ad) {H : Heap} {locs : List Loc} {ls : Array Slot} (hl : lv_has ls 16 [(0, .ref (ad x0)), (3, .ref (ad x3)), (9, .int x9), (10, .int x10), (11, .int x11)]) (G : aw_G D cA base ad σ d s H locs) : W p l e rm_L_isTold s m args below meth c H locs cells slots (aw_Ek D cA base ad0 σ0 below args s 4 256 z) (F0 m 355 ls [.int t0]) := by
  have hx := X.1; have hb := X.2.1; have hml := X.2.2.1; have hown := X.2.2.2.1
  unfold f_L_isTold_J355 at hf
  refine lv_istore (lv' := [(12, .int t0), (0, .ref (ad x0)), (3, .ref (ad x3)), (9, .int x9), (10, .int x10), (11, .int x11)]) hx hb dL_isTold_355 hl (by decide) rfl (fun ls hl => ?_)
  refine lv_iload hx hb dL_isTold_357 (lv_at hl 3 rfl) ?_
  refine lv_bipush (v := (50 : Int32)) hx hb dL_isTold_359 (by decide) ?_
  refine lv_icmp_ge (tgt := 375) hx hb dL_isTold_361 (by decide) (fun hc => ?_) (fun hc => ?_)
  · have hf := aw_ite_t hc hf
    exact w_L_isTold_J375 X hst hf ⟨by omega, by omega⟩  E (lv_sub hl [1, 3, 4, 5, 0] rfl) G
  · have hf := aw_ite_f hc hf
    refine lv_iload hx hb dL_isTold_364 (lv_at hl 5 rfl) ?_
    refine lv_if_eq (tgt := 375) hx hb dL_isTold_366 (by decide) (fun hc => ?_) (fun hc => ?_)
    · have hf := aw_ite_t hc hf
      exact w_L_isTold_J375 X hst hf ⟨by omega, by omega⟩  E (lv_sub hl [1, 3, 4, 5, 0] rfl) G
    · have hf := aw_ite_f hc hf
      refine lv_aload_n hx hb dL_isTold_369 rfl (lv_at hl 2 rfl) ?_
      refine lv_iload hx hb dL_isTold_370 (lv_at hl 3 rfl) ?_
      refine lv_iload hx hb dL_isTold_372 (lv_at hl 4 rfl) ?_
      obtain ⟨hc_21, hf⟩ := aw_chk_some hf
      refine aw_ias hx hb G hc_21 dL_isTold_374 (fun H locs G => ?_)
      exact w_L_isTold_J375 X hst hf ⟨by omega, by omega⟩  E (lv_sub hl [1, 3, 4, 5, 0] rfl) G
set_option maxHeartbeats 4000000 in
set_option maxRecDepth 100000 in
theorem w_L_isTold_J290 {z : Int32 × (Sg × Dt)} (X : aw_X p c cL_isTold 16 s RL m meth (some .boolean)) (hst : l.stackTraces = false) {t0 : Int32} {x0 : Nat} {x3 : Nat} {x9 : Int32} {x10 : Int32} {σ : Sg} {d : Dt} {ad : Nat → Nat} (hf : f_L_isTold_J290 t0 x0 x3 x9 x10 σ d = some z) { cells slots : Nat} (hB : cells + (2) ≤ 4 ∧ slots + 64 * (2) ≤ 256)  (E : aw_ext σ0 ad0 σ ad) {H : Heap} {locs : List Loc} {ls : Array Slot} (hl : lv_has ls 16 [(0, .ref (ad x0)), (3, .ref (ad x3)), (9, .int x9), (10, .int x10)]) (G : aw_G D cA base ad σ d s H locs) : W p l e rm_L_isTold s m args below meth c H locs cells slots (aw_Ek D cA base ad0 σ0 below args s 4 256 z) (F0 m 290 ls [.int t0]) := by
  have hx := X.1; have hb := X.2.1; have hml := X.2.2.1; have hown := X.2.2.2.1
  unfold f_L_isTold_J290 at hf
  refine lv_istore (lv' := [(11, .int t0), (0, .ref (ad x0)), (3, .ref (ad x3)), (9, .int x9), (10, .int x10)]) hx hb dL_isTold_290 hl (by decide) rfl (fun ls hl => ?_)
  refine lv_iload hx hb dL_isTold_292 (lv_at hl 4 rfl) ?_
  refine lv_istore (lv' := [(12, .int x10), (11, .int t0), (0, .ref (ad x0)), (3, .ref (ad x3)), (9, .int x9), (10, .int x10)]) hx hb dL_isTold_294 hl (by decide) rfl (fun ls hl => ?_)
  refine w_L_isTold_L296 X hst aw_FU hf ⟨by omega, by omega⟩  (fun x11_13 σ_15 d_14 hf ad_16 E_17 cells slots hB H locs ls hl G => ?_) E (lv_sub hl [2, 3, 4, 5, 1, 0] rfl) G
  refine lv_iload hx hb dL_isTold_340 (lv_at hl 2 rfl) ?_
  refine lv_bipush (v := (50 : Int32)) hx hb dL_isTold_342 (by decide) ?_
  refine lv_icmp_ge (tgt := 354) hx hb dL_isTold_344 (by decide) (fun hc => ?_) (fun hc => ?_)
  · have hf := aw_ite_t hc hf
    refine lv_iconst (v := (0 : Int32)) hx hb dL_isTold_354 (by decide) ?_
    exact w_L_isTold_J355 X hst hf ⟨by omega, by omega⟩  E_17 (lv_sub hl [0, 1, 2, 3, 4] rfl) G
  · have hf := aw_ite_f hc hf
    refine lv_aload_n hx hb dL_isTold_347 rfl (lv_at hl 1 rfl) ?_
    refine lv_iload hx hb dL_isTold_348 (lv_at hl 2 rfl) ?_
    obtain ⟨hc_22, hf⟩ := aw_chk_some hf
    refine aw_ial hx hb G hc_22 dL_isTold_350 ?_
    refine lv_goto (tgt := 355) hx hb dL_isTold_351 (by decide) ?_
    exact w_L_isTold_J355 X hst hf ⟨by omega, by omega⟩  E_17 (lv_sub hl [0, 1, 2, 3, 4] rfl) G
set_option maxHeartbeats 4000000 in
set_option maxRecDepth 100000 in
theorem w_L_isTold_J275 {z : Int32 × (Sg × Dt)} (X : aw_X p c cL_isTold 16 s RL m meth (some .boolean)) (hst : l.stackTraces = false) {t0 : Int32} {x0 : Nat} {x3 : Nat} {x9 : Int32} {σ : Sg} {d : Dt} {ad : Nat → Nat} (hf : f_L_isTold_J275 t0 x0 x3 x9 σ d = some z) { cells slots : Nat} (hB : cells + (2) ≤ 4 ∧ slots + 64 * (2) ≤ 256)  (E : aw_ext σ0 ad0 σ ad) {H : Heap} {locs : List Loc} {ls : Array Slot} (hl : lv_has ls 16 [(0, .ref (ad x0)), (3, .ref (ad x3)), (9, .int x9)]) (G : aw_G D cA base ad σ d s H locs) : W p l e rm_L_isTold s m args below meth c H locs cells slots (aw_Ek D cA base ad0 σ0 below args s 4 256 z) (F0 m 275 ls [.int t0]) := by
  have hx := X.1; have hb := X.2.1; have hml := X.2.2.1; have hown := X.2.2.2.1
  unfold f_L_isTold_J275 at hf
  refine lv_istore (lv' := [(10, .int t0), (0, .ref (ad x0)), (3, .ref (ad x3)), (9, .int x9)]) hx hb dL_isTold_275 hl (by decide) rfl (fun ls hl => ?_)
  refine lv_iload hx hb dL_isTold_277 (lv_at hl 0 rfl) ?_
  refine lv_sipush (v := (5000 : Int32)) hx hb dL_isTold_279 (by decide) ?_
  refine lv_icmp_ge (tgt := 289) hx hb dL_isTold_282 (by decide) (fun hc => ?_) (fun hc => ?_)
  · have hf := aw_ite_t hc hf
    refine lv_iconst (v := (0 : Int32)) hx hb dL_isTold_289 (by decide) ?_
    exact w_L_isTold_J290 X hst hf ⟨by omega, by omega⟩  E (lv_sub hl [1, 2, 3, 0] rfl) G
  · have hf := aw_ite_f hc hf
    refine lv_iconst (v := (1 : Int32)) hx hb dL_isTold_285 (by decide) ?_
    refine lv_goto (tgt := 290) hx hb dL_isTold_286 (by decide) ?_
    exact w_L_isTold_J290 X hst hf ⟨by omega, by omega⟩  E (lv_sub hl [1, 2, 3, 0] rfl) G
set_option maxHeartbeats 4000000 in
set_option maxRecDepth 100000 in
theorem w_L_isTold_J212 {z : Int32 × (Sg × Dt)} (X : aw_X p c cL_isTold 16 s RL m meth (some .boolean)) (hst : l.stackTraces = false) {t0 : Int32} {x0 : Nat} {x3 : Nat} {x8 : Int32} {σ : Sg} {d : Dt} {ad : Nat → Nat} (hf : f_L_isTold_J212 t0 x0 x3 x8 σ d = some z) { cells slots : Nat} (hB : cells + (2) ≤ 4 ∧ slots + 64 * (2) ≤ 256)  (E : aw_ext σ0 ad0 σ ad) {H : Heap} {locs : List Loc} {ls : Array Slot} (hl : lv_has ls 16 [(0, .ref (ad x0)), (3, .ref (ad x3)), (8, .int x8)]) (G : aw_G D cA base ad σ d s H locs) : W p l e rm_L_isTold s m args below meth c H locs cells slots (aw_Ek D cA base ad0 σ0 below args s 4 256 z) (F0 m 212 ls [.int t0]) := by
  have hx := X.1; have hb := X.2.1; have hml := X.2.2.1; have hown := X.2.2.2.1
  unfold f_L_isTold_J212 at hf
  refine lv_istore (lv' := [(9, .int t0), (0, .ref (ad x0)), (3, .ref (ad x3)), (8, .int x8)]) hx hb dL_isTold_212 hl (by decide) rfl (fun ls hl => ?_)
  refine lv_iconst (v := (0 : Int32)) hx hb dL_isTold_214 (by decide) ?_
  refine lv_istore (lv' := [(10, .int ((0 : Int32))), (9, .int t0), (0, .ref (ad x0)), (3, .ref (ad x3)), (8, .int x8)]) hx hb dL_isTold_215 hl (by decide) rfl (fun ls hl => ?_)
  refine lv_iconst (v := (0 : Int32)) hx hb dL_isTold_217 (by decide) ?_
  refine lv_istore (lv' := [(11, .int ((0 : Int32))), (10, .int ((0 : Int32))), (9, .int t0), (0, .ref (ad x0)), (3, .ref (ad x3)), (8, .int x8)]) hx hb dL_isTold_218 hl (by decide) rfl (fun ls hl => ?_)
  refine w_L_isTold_L220 X hst aw_FU hf ⟨by omega, by omega⟩  (fun x10_8 σ_10 d_9 hf ad_11 E_12 cells slots hB H locs ls hl G => ?_) E (lv_sub hl [3, 4, 5, 2, 1, 0] rfl) G
  refine lv_iload hx hb dL_isTold_256 (lv_at hl 2 rfl) ?_
  refine lv_bipush (v := (13 : Int32)) hx hb dL_isTold_258 (by decide) ?_
  refine lv_irem hx hb dL_isTold_260 (by decide) ?_
  refine lv_bipush (v := (12 : Int32)) hx hb dL_isTold_261 (by decide) ?_
  refine lv_icmp_ne (tgt := 273) hx hb dL_isTold_263 (by decide) (fun hc => ?_) (fun hc => ?_)
  · have hf := aw_ite_f hc hf
    refine lv_iload hx hb dL_isTold_273 (lv_at hl 4 rfl) ?_
    exact w_L_isTold_J275 X hst hf ⟨by omega, by omega⟩  E_12 (lv_sub hl [0, 1, 3] rfl) G
  · have hf := aw_ite_t hc hf
    refine lv_iload hx hb dL_isTold_266 (lv_at hl 4 rfl) ?_
    refine lv_iconst (v := (4 : Int32)) hx hb dL_isTold_268 (by decide) ?_
    refine lv_iadd hx hb dL_isTold_269 ?_
    refine lv_goto (tgt := 275) hx hb dL_isTold_270 (by decide) ?_
    exact w_L_isTold_J275 X hst hf ⟨by omega, by omega⟩  E_12 (lv_sub hl [0, 1, 3] rfl) G
set_option maxHeartbeats 4000000 in
set_option maxRecDepth 100000 in
theorem w_L_isTold_J149 {z : Int32 × (Sg × Dt)} (X : aw_X p c cL_isTold 16 s RL m meth (some .boolean)) (hst : l.stackTraces = false) {x0 : Nat} {x5 : Nat} {x9 : Int32} {x10 : Int32} {x11 : Int32} {σ : Sg} {d : Dt} {ad : Nat → Nat} (hf : f_L_isTold_J149 x0 x5 x9 x10 x11 σ d = some z) { cells slots : Nat} (hB : cells + (4) ≤ 4 ∧ slots + 64 * (4) ≤ 256)  (E : aw_ext σ0 ad0 σ ad) {H : Heap} {locs : List Loc} {ls : Array Slot} (hl : lv_has ls 16 [(0, .ref (ad x0)), (5, .ref (ad x5)), (9, .int x9), (10, .int x10), (11, .int x11)]) (G : aw_G D cA base ad σ d s H locs) : W p l e rm_L_isTold s m args below meth c H locs cells slots (aw_Ek D cA base ad0 σ0 below args s 4 256 z) (F0 m 149 ls []) := by
  have hx := X.1; have hb := X.2.1; have hml := X.2.2.1; have hown := X.2.2.2.1
  unfold f_L_isTold_J149 at hf
  refine lv_aload_n hx hb dL_isTold_149 rfl (lv_at hl 0 rfl) ?_
  refine lv_iconst (v := (3 : Int32)) hx hb dL_isTold_150 (by decide) ?_
  refine lv_iload hx hb dL_isTold_151 (lv_at hl 2 rfl) ?_
  refine lv_iload hx hb dL_isTold_153 (lv_at hl 3 rfl) ?_
  refine lv_iconst (v := (0 : Int32)) hx hb dL_isTold_155 (by decide) ?_
  refine lv_iconst (v := (0 : Int32)) hx hb dL_isTold_156 (by decide) ?_
  refine lv_iconst (v := (0 : Int32)) hx hb dL_isTold_157 (by decide) ?_
  obtain ⟨hc_27, hf⟩ := aw_chk_some hf
  obtain ⟨hc_28, hf⟩ := aw_chk_some hf
  obtain ⟨z_25, hz_26, hf⟩ := aw_bind_some hf
  refine aw_WD2 (As := [.ref (ad x0), .int ((3 : Int32)), .int x9, .int x10, .int ((0 : Int32)), .int ((0 : Int32)), .int ((0 : Int32))]) (rest := []) X G E hl.1 cr_L_123 (c_L_does_3 l hst hz_26) rfl rfl rfl ⟨(Nat.le_of_ble_eq_true rfl), (Nat.le_of_ble_eq_true rfl)⟩ (Nat.le_of_ble_eq_true rfl) dL_isTold_158 4 105 ⟨(Nat.le_of_ble_eq_true rfl), (Nat.le_of_ble_eq_true rfl)⟩ ⟨by show cells + 4 ≤ 4; omega, by show slots + 105 ≤ 256; omega⟩ (fun ad_29 H locs hext_31 E_30 G => ?_)
  have ha_32 := (hext_31 _ hc_27).symm
  rw [ha_32] at hl
  have ha_33 := (hext_31 _ hc_28).symm
  rw [ha_33] at hl
  refine lv_iload hx hb dL_isTold_161 (lv_at hl 4 rfl) ?_
  refine lv_if_eq (tgt := 175) hx hb dL_isTold_163 (by decide) (fun hc => ?_) (fun hc => ?_)
  · have hf := aw_ite_t hc hf
    refine lv_ldc (v := (-2000000 : Int32)) hx hb hown (G.1.hts _ m_760) dL_isTold_175 ?_
    refine lv_icmp_ne (tgt := 184) hx hb dL_isTold_177 (by decide) (fun hc => ?_) (fun hc => ?_)
    · have hf := aw_ite_f hc hf
      refine lv_iconst (v := (0 : Int32)) hx hb dL_isTold_184 (by decide) ?_
      obtain ⟨hc_34, hf⟩ := aw_chk_some hf
      exact aw_retkZ X G E_30 hf hc_34 dL_isTold_185 (by omega) (by omega)
    · have hf := aw_ite_t hc hf
      refine lv_iconst (v := (1 : Int32)) hx hb dL_isTold_180 (by decide) ?_
      refine lv_goto (tgt := 185) hx hb dL_isTold_181 (by decide) ?_
      obtain ⟨hc_35, hf⟩ := aw_chk_some hf
      exact aw_retkZ X G E_30 hf hc_35 dL_isTold_185 (by omega) (by omega)
  · have hf := aw_ite_f hc hf
    refine lv_aload hx hb dL_isTold_166 (lv_at hl 1 rfl) ?_
    refine lv_iconst (v := (1 : Int32)) hx hb dL_isTold_168 (by decide) ?_
    obtain ⟨hc_36, hf⟩ := aw_chk_some hf
    refine aw_ial hx hb G hc_36 dL_isTold_169 ?_
    refine lv_iconst (v := (1 : Int32)) hx hb dL_isTold_170 (by decide) ?_
    refine lv_isub hx hb dL_isTold_171 ?_
    refine lv_goto (tgt := 177) hx hb dL_isTold_172 (by decide) ?_
    refine lv_icmp_ne (tgt := 184) hx hb dL_isTold_177 (by decide) (fun hc => ?_) (fun hc => ?_)
    · have hf := aw_ite_f hc hf
      refine lv_iconst (v := (0 : Int32)) hx hb dL_isTold_184 (by decide) ?_
      obtain ⟨hc_37, hf⟩ := aw_chk_some hf
      exact aw_retkZ X G E_30 hf hc_37 dL_isTold_185 (by omega) (by omega)
    · have hf := aw_ite_t hc hf
      refine lv_iconst (v := (1 : Int32)) hx hb dL_isTold_180 (by decide) ?_
      refine lv_goto (tgt := 185) hx hb dL_isTold_181 (by decide) ?_
      obtain ⟨hc_38, hf⟩ := aw_chk_some hf
      exact aw_retkZ X G E_30 hf hc_38 dL_isTold_185 (by omega) (by omega)
set_option maxHeartbeats 4000000 in
set_option maxRecDepth 100000 in
theorem w_L_isTold_B98 {z : Int32 × (Sg × Dt)} (X : aw_X p c cL_isTold 16 s RL m meth (some .boolean)) (hst : l.stackTraces = false) {kb98 : Int32 → Sg → Dt → Option (Int32 × (Sg × Dt))} {k98 : Sg → Dt → Option (Int32 × (Sg × Dt))} {x0 : Nat} {x5 : Nat} {x9 : Int32} {x10 : Int32} {x11 : Int32} {x12 : Nat} {x13 : Int32} {σ : Sg} {d : Dt} {ad : Nat → Nat} (hf : f_L_isTold_B98 kb98 k98 x0 x5 x9 x10 x11 x12 x13 σ d = some z) { cells slots : Nat} (hB : cells + (4) ≤ 4 ∧ slots + 64 * (4) ≤ 256) (hkb98 : ∀ (y13 : Int32) (σ : Sg) (d : Dt), kb98 y13 σ d = some z → ∀ (ad : Nat → Nat), aw_ext σ0 ad0 σ ad → ∀ (cells slots : Nat), cells + (4) ≤ 4 ∧ slots + 64 * (4) ≤ 256 → ∀ (H : Heap) (locs : List Loc) (ls : Array Slot), lv_has ls 16 [(0, .ref (ad x0)), (5, .ref (ad x5)), (9, .int x9), (10, .int x10), (11, .int x11), (12, .ref (ad x12)), (13, .int y13)] → aw_G D cA base ad σ d s H locs → W p l e rm_L_isTold s m args below meth c H locs cells slots (aw_Ek D cA base ad0 σ0 below args s 4 256 z) (F0 m 98 ls [])) (hk98 : ∀ (σ : Sg) (d : Dt), k98 σ d = some z → ∀ (ad : Nat → Nat), aw_ext σ0 ad0 σ ad → ∀ (cells slots : Nat), cells + (4) ≤ 4 ∧ slots + 64 * (4) ≤ 256 → ∀ (H : Heap) (locs : List Loc) (ls : Array Slot), lv_has ls 16 [(0, .ref (ad x0)), (5, .ref (ad x5)), (9, .int x9), (10, .int x10), (11, .int x11), (12, .ref (ad x12))] → aw_G D cA base ad σ d s H locs → W p l e rm_L_isTold s m args below meth c H locs cells slots (aw_Ek D cA base ad0 σ0 below args s 4 256 z) (F0 m 118 ls [])) (E : aw_ext σ0 ad0 σ ad) {H : Heap} {locs : List Loc} {ls : Array Slot} (hl : lv_has ls 16 [(0, .ref (ad x0)), (5, .ref (ad x5)), (9, .int x9), (10, .int x10), (11, .int x11), (12, .ref (ad x12)), (13, .int x13)]) (G : aw_G D cA base ad σ d s H locs) : W p l e rm_L_isTold s m args below meth c H locs cells slots (aw_Ek D cA base ad0 σ0 below args s 4 256 z) (F0 m 98 ls []) := by
  have hx := X.1; have hb := X.2.1; have hml := X.2.2.1; have hown := X.2.2.2.1
  unfold f_L_isTold_B98 at hf
  refine lv_iload hx hb dL_isTold_98 (lv_at hl 6 rfl) ?_
  refine lv_bipush (v := (47 : Int32)) hx hb dL_isTold_100 (by decide) ?_
  refine lv_icmp_ge (tgt := 118) hx hb dL_isTold_102 (by decide) (fun hc => ?_) (fun hc => ?_)
  · have hf := aw_ite_t hc hf
    exact hk98 _ _ hf _ E _ _ ⟨by omega, by omega⟩ _ _ _ (lv_sub hl [0, 1, 2, 3, 4, 5] rfl) G
  · have hf := aw_ite_f hc hf
    refine lv_aload hx hb dL_isTold_105 (lv_at hl 5 rfl) ?_
    refine lv_iload hx hb dL_isTold_107 (lv_at hl 6 rfl) ?_
    refine lv_iload hx hb dL_isTold_109 (lv_at hl 6 rfl) ?_
    obtain ⟨hc_39, hf⟩ := aw_chk_some hf
    refine aw_ias hx hb G hc_39 dL_isTold_111 (fun H locs G => ?_)
    refine lv_iinc (v := x13 + 1) (lv' := [(13, .int (x13 + 1)), (0, .ref (ad x0)), (5, .ref (ad x5)), (9, .int x9), (10, .int x10), (11, .int x11), (12, .ref (ad x12))]) hx hb dL_isTold_112 hl (k := 6) rfl rfl (by decide) rfl (fun ls hl => ?_)
    refine lv_goto (tgt := 98) hx hb dL_isTold_115 (by decide) ?_
    exact hkb98 _ _ _ hf _ E _ _ ⟨by omega, by omega⟩ _ _ _ (lv_sub hl [1, 2, 3, 4, 5, 6, 0] rfl) G
theorem w_L_isTold_L98 {z : Int32 × (Sg × Dt)} (X : aw_X p c cL_isTold 16 s RL m meth (some .boolean)) (hst : l.stackTraces = false) {k98 : Sg → Dt → Option (Int32 × (Sg × Dt))} {x0 : Nat} {x5 : Nat} {x9 : Int32} {x10 : Int32} {x11 : Int32} {x12 : Nat} (n : Nat) {x13 : Int32} {σ : Sg} {d : Dt} {ad : Nat → Nat} (hf : f_L_isTold_L98 n k98 x0 x5 x9 x10 x11 x12 x13 σ d = some z) { cells slots : Nat} (hB : cells + (4) ≤ 4 ∧ slots + 64 * (4) ≤ 256) (hk98 : ∀ (σ : Sg) (d : Dt), k98 σ d = some z → ∀ (ad : Nat → Nat), aw_ext σ0 ad0 σ ad → ∀ (cells slots : Nat), cells + (4) ≤ 4 ∧ slots + 64 * (4) ≤ 256 → ∀ (H : Heap) (locs : List Loc) (ls : Array Slot), lv_has ls 16 [(0, .ref (ad x0)), (5, .ref (ad x5)), (9, .int x9), (10, .int x10), (11, .int x11), (12, .ref (ad x12))] → aw_G D cA base ad σ d s H locs → W p l e rm_L_isTold s m args below meth c H locs cells slots (aw_Ek D cA base ad0 σ0 below args s 4 256 z) (F0 m 118 ls [])) (E : aw_ext σ0 ad0 σ ad) {H : Heap} {locs : List Loc} {ls : Array Slot} (hl : lv_has ls 16 [(0, .ref (ad x0)), (5, .ref (ad x5)), (9, .int x9), (10, .int x10), (11, .int x11), (12, .ref (ad x12)), (13, .int x13)]) (G : aw_G D cA base ad σ d s H locs) : W p l e rm_L_isTold s m args below meth c H locs cells slots (aw_Ek D cA base ad0 σ0 below args s 4 256 z) (F0 m 98 ls []) := by
  induction n generalizing x13 σ d ad cells slots H locs ls with
  | zero => exact absurd (show (none : Option (Int32 × (Sg × Dt))) = some z from hf) (by simp)
  | succ n ih => exact w_L_isTold_B98 X hst (kb98 := f_L_isTold_L98 n k98 x0 x5 x9 x10 x11 x12) hf ⟨by omega, by omega⟩  (fun x13 σ d hf ad E cells slots hB H locs ls hl G => ih hf hB E hl G) hk98 E hl G
set_option maxHeartbeats 4000000 in
set_option maxRecDepth 100000 in
theorem w_L_isTold_J88 {z : Int32 × (Sg × Dt)} (X : aw_X p c cL_isTold 16 s RL m meth (some .boolean)) (hst : l.stackTraces = false) {t0 : Nat} {x0 : Nat} {x5 : Nat} {x9 : Int32} {x10 : Int32} {x11 : Int32} {σ : Sg} {d : Dt} {ad : Nat → Nat} (hf : f_L_isTold_J88 t0 x0 x5 x9 x10 x11 σ d = some z) { cells slots : Nat} (hB : cells + (4) ≤ 4 ∧ slots + 64 * (4) ≤ 256)  (E : aw_ext σ0 ad0 σ ad) {H : Heap} {locs : List Loc} {ls : Array Slot} (hl : lv_has ls 16 [(0, .ref (ad x0)), (5, .ref (ad x5)), (9, .int x9), (10, .int x10), (11, .int x11)]) (G : aw_G D cA base ad σ d s H locs) : W p l e rm_L_isTold s m args below meth c H locs cells slots (aw_Ek D cA base ad0 σ0 below args s 4 256 z) (F0 m 88 ls [.ref (ad t0)]) := by
  have hx := X.1; have hb := X.2.1; have hml := X.2.2.1; have hown := X.2.2.2.1
  unfold f_L_isTold_J88 at hf
  refine lv_astore (lv' := [(12, .ref (ad t0)), (0, .ref (ad x0)), (5, .ref (ad x5)), (9, .int x9), (10, .int x10), (11, .int x11)]) hx hb dL_isTold_88 hl (by decide) rfl (fun ls hl => ?_)
  refine lv_iload hx hb dL_isTold_90 (lv_at hl 5 rfl) ?_
  refine lv_if_eq (tgt := 149) hx hb dL_isTold_92 (by decide) (fun hc => ?_) (fun hc => ?_)
  · have hf := aw_ite_t hc hf
    exact w_L_isTold_J149 X hst hf ⟨by omega, by omega⟩  E (lv_sub hl [1, 2, 3, 4, 5] rfl) G
  · have hf := aw_ite_f hc hf
    refine lv_iconst (v := (0 : Int32)) hx hb dL_isTold_95 (by decide) ?_
    refine lv_istore (lv' := [(13, .int ((0 : Int32))), (12, .ref (ad t0)), (0, .ref (ad x0)), (5, .ref (ad x5)), (9, .int x9), (10, .int x10), (11, .int x11)]) hx hb dL_isTold_96 hl (by decide) rfl (fun ls hl => ?_)
    refine w_L_isTold_L98 X hst aw_FU hf ⟨by omega, by omega⟩  (fun σ_41 d_40 hf ad_42 E_43 cells slots hB H locs ls hl G => ?_) E (lv_sub hl [2, 3, 4, 5, 6, 1, 0] rfl) G
    refine lv_aload hx hb dL_isTold_118 (lv_at hl 5 rfl) ?_
    refine lv_bipush (v := (47 : Int32)) hx hb dL_isTold_120 (by decide) ?_
    refine lv_iload hx hb dL_isTold_122 (lv_at hl 2 rfl) ?_
    obtain ⟨hc_44, hf⟩ := aw_chk_some hf
    refine aw_ias hx hb G hc_44 dL_isTold_124 (fun H locs G => ?_)
    refine lv_aload hx hb dL_isTold_125 (lv_at hl 5 rfl) ?_
    refine lv_bipush (v := (48 : Int32)) hx hb dL_isTold_127 (by decide) ?_
    refine lv_iload hx hb dL_isTold_129 (lv_at hl 3 rfl) ?_
    refine lv_iconst (v := (1 : Int32)) hx hb dL_isTold_131 (by decide) ?_
    refine lv_iadd hx hb dL_isTold_132 ?_
    obtain ⟨hc_45, hf⟩ := aw_chk_some hf
    refine aw_ias hx hb G hc_45 dL_isTold_133 (fun H locs G => ?_)
    refine lv_aload hx hb dL_isTold_134 (lv_at hl 5 rfl) ?_
    refine lv_bipush (v := (49 : Int32)) hx hb dL_isTold_136 (by decide) ?_
    refine lv_bipush (v := (7 : Int32)) hx hb dL_isTold_138 (by decide) ?_
    obtain ⟨hc_46, hf⟩ := aw_chk_some hf
    refine aw_ias hx hb G hc_46 dL_isTold_140 (fun H locs G => ?_)
    refine lv_aload hx hb dL_isTold_141 (lv_at hl 1 rfl) ?_
    refine lv_iconst (v := (1 : Int32)) hx hb dL_isTold_143 (by decide) ?_
    refine lv_dup2_11 hx hb dL_isTold_144 rfl rfl ?_
    obtain ⟨hc_47, hf⟩ := aw_chk_some hf
    refine aw_ial hx hb G hc_47 dL_isTold_145 ?_
    refine lv_iconst (v := (1 : Int32)) hx hb dL_isTold_146 (by decide) ?_
    refine lv_iadd hx hb dL_isTold_147 ?_
    refine aw_ias hx hb G hc_47 dL_isTold_148 (fun H locs G => ?_)
    exact w_L_isTold_J149 X hst hf ⟨by omega, by omega⟩  E_43 (lv_sub hl [0, 1, 2, 3, 4] rfl) G
set_option maxHeartbeats 4000000 in
set_option maxRecDepth 100000 in
theorem w_L_isTold_J74 {z : Int32 × (Sg × Dt)} (X : aw_X p c cL_isTold 16 s RL m meth (some .boolean)) (hst : l.stackTraces = false) {t0 : Int32} {x0 : Nat} {x1 : Nat} {x2 : Nat} {x5 : Nat} {x9 : Int32} {x10 : Int32} {σ : Sg} {d : Dt} {ad : Nat → Nat} (hf : f_L_isTold_J74 t0 x0 x1 x2 x5 x9 x10 σ d = some z) { cells slots : Nat} (hB : cells + (4) ≤ 4 ∧ slots + 64 * (4) ≤ 256)  (E : aw_ext σ0 ad0 σ ad) {H : Heap} {locs : List Loc} {ls : Array Slot} (hl : lv_has ls 16 [(0, .ref (ad x0)), (1, .ref (ad x1)), (2, .ref (ad x2)), (5, .ref (ad x5)), (9, .int x9), (10, .int x10)]) (G : aw_G D cA base ad σ d s H locs) : W p l e rm_L_isTold s m args below meth c H locs cells slots (aw_Ek D cA base ad0 σ0 below args s 4 256 z) (F0 m 74 ls [.int t0]) := by
  have hx := X.1; have hb := X.2.1; have hml := X.2.2.1; have hown := X.2.2.2.1
  unfold f_L_isTold_J74 at hf
  refine lv_istore (lv' := [(11, .int t0), (0, .ref (ad x0)), (1, .ref (ad x1)), (2, .ref (ad x2)), (5, .ref (ad x5)), (9, .int x9), (10, .int x10)]) hx hb dL_isTold_74 hl (by decide) rfl (fun ls hl => ?_)
  refine lv_aload hx hb dL_isTold_76 (lv_at hl 4 rfl) ?_
  refine lv_iconst (v := (1 : Int32)) hx hb dL_isTold_78 (by decide) ?_
  obtain ⟨hc_24, hf⟩ := aw_chk_some hf
  refine aw_ial hx hb G hc_24 dL_isTold_79 ?_
  refine lv_if_ne (tgt := 87) hx hb dL_isTold_80 (by decide) (fun hc => ?_) (fun hc => ?_)
  · have hf := aw_ite_f hc hf
    refine lv_aload_n hx hb dL_isTold_87 rfl (lv_at hl 3 rfl) ?_
    exact w_L_isTold_J88 X hst hf ⟨by omega, by omega⟩  E (lv_sub hl [1, 4, 5, 6, 0] rfl) G
  · have hf := aw_ite_t hc hf
    refine lv_aload_n hx hb dL_isTold_83 rfl (lv_at hl 2 rfl) ?_
    refine lv_goto (tgt := 88) hx hb dL_isTold_84 (by decide) ?_
    exact w_L_isTold_J88 X hst hf ⟨by omega, by omega⟩  E (lv_sub hl [1, 4, 5, 6, 0] rfl) G
set_option maxHeartbeats 4000000 in
set_option maxRecDepth 100000 in
theorem w_L_isTold_J73 {z : Int32 × (Sg × Dt)} (X : aw_X p c cL_isTold 16 s RL m meth (some .boolean)) (hst : l.stackTraces = false) {x0 : Nat} {x1 : Nat} {x2 : Nat} {x5 : Nat} {x9 : Int32} {x10 : Int32} {σ : Sg} {d : Dt} {ad : Nat → Nat} (hf : f_L_isTold_J73 x0 x1 x2 x5 x9 x10 σ d = some z) { cells slots : Nat} (hB : cells + (4) ≤ 4 ∧ slots + 64 * (4) ≤ 256)  (E : aw_ext σ0 ad0 σ ad) {H : Heap} {locs : List Loc} {ls : Array Slot} (hl : lv_has ls 16 [(0, .ref (ad x0)), (1, .ref (ad x1)), (2, .ref (ad x2)), (5, .ref (ad x5)), (9, .int x9), (10, .int x10)]) (G : aw_G D cA base ad σ d s H locs) : W p l e rm_L_isTold s m args below meth c H locs cells slots (aw_Ek D cA base ad0 σ0 below args s 4 256 z) (F0 m 73 ls []) := by
  have hx := X.1; have hb := X.2.1; have hml := X.2.2.1; have hown := X.2.2.2.1
  unfold f_L_isTold_J73 at hf
  refine lv_iconst (v := (0 : Int32)) hx hb dL_isTold_73 (by decide) ?_
  exact w_L_isTold_J74 X hst hf ⟨by omega, by omega⟩  E (lv_sub hl [0, 1, 2, 3, 4, 5] rfl) G
set_option maxHeartbeats 4000000 in
set_option maxRecDepth 100000 in
theorem w_L_isTold_J55 {z : Int32 × (Sg × Dt)} (X : aw_X p c cL_isTold 16 s RL m meth (some .boolean)) (hst : l.stackTraces = false) {t0 : Int32} {x0 : Nat} {x1 : Nat} {x2 : Nat} {x5 : Nat} {x9 : Int32} {σ : Sg} {d : Dt} {ad : Nat → Nat} (hf : f_L_isTold_J55 t0 x0 x1 x2 x5 x9 σ d = some z) { cells slots : Nat} (hB : cells + (4) ≤ 4 ∧ slots + 64 * (4) ≤ 256)  (E : aw_ext σ0 ad0 σ ad) {H : Heap} {locs : List Loc} {ls : Array Slot} (hl : lv_has ls 16 [(0, .ref (ad x0)), (1, .ref (ad x1)), (2, .ref (ad x2)), (5, .ref (ad x5)), (9, .int x9)]) (G : aw_G D cA base ad σ d s H locs) : W p l e rm_L_isTold s m args below meth c H locs cells slots (aw_Ek D cA base ad0 σ0 below args s 4 256 z) (F0 m 55 ls [.int t0]) := by
  have hx := X.1; have hb := X.2.1; have hml := X.2.2.1; have hown := X.2.2.2.1
  unfold f_L_isTold_J55 at hf
  refine lv_istore (lv' := [(10, .int t0), (0, .ref (ad x0)), (1, .ref (ad x1)), (2, .ref (ad x2)), (5, .ref (ad x5)), (9, .int x9)]) hx hb dL_isTold_55 hl (by decide) rfl (fun ls hl => ?_)
  refine lv_iload hx hb dL_isTold_57 (lv_at hl 5 rfl) ?_
  refine lv_iconst (v := (2 : Int32)) hx hb dL_isTold_59 (by decide) ?_
  refine lv_icmp_ge (tgt := 73) hx hb dL_isTold_60 (by decide) (fun hc => ?_) (fun hc => ?_)
  · have hf := aw_ite_t hc hf
    exact w_L_isTold_J73 X hst hf ⟨by omega, by omega⟩  E (lv_sub hl [1, 2, 3, 4, 5, 0] rfl) G
  · have hf := aw_ite_f hc hf
    refine lv_iload hx hb dL_isTold_63 (lv_at hl 0 rfl) ?_
    refine lv_iconst (v := (3 : Int32)) hx hb dL_isTold_65 (by decide) ?_
    refine lv_icmp_ge (tgt := 73) hx hb dL_isTold_66 (by decide) (fun hc => ?_) (fun hc => ?_)
    · have hf := aw_ite_t hc hf
      exact w_L_isTold_J73 X hst hf ⟨by omega, by omega⟩  E (lv_sub hl [1, 2, 3, 4, 5, 0] rfl) G
    · have hf := aw_ite_f hc hf
      refine lv_iconst (v := (1 : Int32)) hx hb dL_isTold_69 (by decide) ?_
      refine lv_goto (tgt := 74) hx hb dL_isTold_70 (by decide) ?_
      exact w_L_isTold_J74 X hst hf ⟨by omega, by omega⟩  E (lv_sub hl [1, 2, 3, 4, 5, 0] rfl) G
set_option maxHeartbeats 4000000 in
set_option maxRecDepth 100000 in
theorem w_L_isTold_J33 {z : Int32 × (Sg × Dt)} (X : aw_X p c cL_isTold 16 s RL m meth (some .boolean)) (hst : l.stackTraces = false) {t0 : Int32} {x0 : Nat} {x1 : Nat} {x2 : Nat} {x5 : Nat} {x8 : Int32} {σ : Sg} {d : Dt} {ad : Nat → Nat} (hf : f_L_isTold_J33 t0 x0 x1 x2 x5 x8 σ d = some z) { cells slots : Nat} (hB : cells + (4) ≤ 4 ∧ slots + 64 * (4) ≤ 256)  (E : aw_ext σ0 ad0 σ ad) {H : Heap} {locs : List Loc} {ls : Array Slot} (hl : lv_has ls 16 [(0, .ref (ad x0)), (1, .ref (ad x1)), (2, .ref (ad x2)), (5, .ref (ad x5)), (8, .int x8)]) (G : aw_G D cA base ad σ d s H locs) : W p l e rm_L_isTold s m args below meth c H locs cells slots (aw_Ek D cA base ad0 σ0 below args s 4 256 z) (F0 m 33 ls [.int t0]) := by
  have hx := X.1; have hb := X.2.1; have hml := X.2.2.1; have hown := X.2.2.2.1
  unfold f_L_isTold_J33 at hf
  refine lv_istore (lv' := [(9, .int t0), (0, .ref (ad x0)), (1, .ref (ad x1)), (2, .ref (ad x2)), (5, .ref (ad x5)), (8, .int x8)]) hx hb dL_isTold_33 hl (by decide) rfl (fun ls hl => ?_)
  refine lv_iload hx hb dL_isTold_35 (lv_at hl 5 rfl) ?_
  refine lv_bipush (v := (13 : Int32)) hx hb dL_isTold_37 (by decide) ?_
  refine lv_irem hx hb dL_isTold_39 (by decide) ?_
  refine lv_bipush (v := (12 : Int32)) hx hb dL_isTold_40 (by decide) ?_
  refine lv_icmp_ne (tgt := 49) hx hb dL_isTold_42 (by decide) (fun hc => ?_) (fun hc => ?_)
  · have hf := aw_ite_f hc hf
    refine lv_iload hx hb dL_isTold_49 (lv_at hl 5 rfl) ?_
    refine lv_iconst (v := (4 : Int32)) hx hb dL_isTold_51 (by decide) ?_
    refine lv_irem hx hb dL_isTold_52 (by decide) ?_
    refine lv_iconst (v := (1 : Int32)) hx hb dL_isTold_53 (by decide) ?_
    refine lv_isub hx hb dL_isTold_54 ?_
    exact w_L_isTold_J55 X hst hf ⟨by omega, by omega⟩  E (lv_sub hl [1, 2, 3, 4, 0] rfl) G
  · have hf := aw_ite_t hc hf
    refine lv_iconst (v := (3 : Int32)) hx hb dL_isTold_45 (by decide) ?_
    refine lv_goto (tgt := 55) hx hb dL_isTold_46 (by decide) ?_
    exact w_L_isTold_J55 X hst hf ⟨by omega, by omega⟩  E (lv_sub hl [1, 2, 3, 4, 0] rfl) G
end W_L_isTold
set_option maxHeartbeats 4000000 in
set_option maxRecDepth 100000 in
theorem c_L_isTold (l : Launch) (hst : l.stackTraces = false) {σ : Sg} {x0 : Nat} {x1 : Nat} {x2 : Nat} {x3 : Nat} {x4 : Nat} {x5 : Nat} {x6 : Int32} {x7 : Int32} {x8 : Int32} {d : Dt} {z : Int32 × (Sg × Dt)} (hf : f_L_isTold x0 x1 x2 x3 x4 x5 x6 x7 x8 σ d = some z) : aw_Md l yL_isTold (Cond.code yL_isTold cL_isTold 16 (some .boolean)) rm_L_isTold (fun ad => [.ref (ad x0), .ref (ad x1), .ref (ad x2), .ref (ad x3), .ref (ad x4), .ref (ad x5), .int x6, .int x7, .int x8]) σ d z := by
  intro hwf D cA base ad
  refine aw_ofW (own := RL) (cc := cL_isTold) (nL := 16) (ret := some .boolean) (by decide) rfl rfl ?_
  intro p e s m below meth c X hnm G
  have hx := X.1; have hb := X.2.1; have hml := X.2.2.1; have hown := X.2.2.2.1
  have E : aw_ext σ ad σ ad := aw_ext.rf hwf
  refine aw_ls (lv := [(0, .ref (ad x0)), (1, .ref (ad x1)), (2, .ref (ad x2)), (3, .ref (ad x3)), (4, .ref (ad x4)), (5, .ref (ad x5)), (6, .int x6), (7, .int x7), (8, .int x8)]) (Nat.le_of_ble_eq_true rfl) rfl (fun ls hl => ?_)
  generalize ([.ref (ad x0), .ref (ad x1), .ref (ad x2), .ref (ad x3), .ref (ad x4), .ref (ad x5), .int x6, .int x7, .int x8] : List Value).toArray = args0
  have hB : 0 + 4 ≤ 4 ∧ 0 + 64 * 4 ≤ 256 := by decide
  unfold f_L_isTold at hf
  refine lv_iload hx hb dL_isTold_0 (lv_at hl 6 rfl) ?_
  refine lv_if_ne (tgt := 186) hx hb dL_isTold_2 (by decide) (fun hc => ?_) (fun hc => ?_)
  · have hf := aw_ite_f hc hf
    refine lv_iload hx hb dL_isTold_186 (lv_at hl 6 rfl) ?_
    refine lv_iconst (v := (1 : Int32)) hx hb dL_isTold_188 (by decide) ?_
    refine lv_icmp_ne (tgt := 420) hx hb dL_isTold_189 (by decide) (fun hc => ?_) (fun hc => ?_)
    · have hf := aw_ite_f hc hf
      refine lv_iload hx hb dL_isTold_420 (lv_at hl 7 rfl) ?_
      refine lv_bipush (v := (13 : Int32)) hx hb dL_isTold_422 (by decide) ?_
      refine lv_irem hx hb dL_isTold_424 (by decide) ?_
      refine lv_bipush (v := (12 : Int32)) hx hb dL_isTold_425 (by decide) ?_
      refine lv_icmp_ne (tgt := 434) hx hb dL_isTold_427 (by decide) (fun hc => ?_) (fun hc => ?_)
      · have hf := aw_ite_f hc hf
        refine lv_iload hx hb dL_isTold_434 (lv_at hl 7 rfl) ?_
        refine lv_iconst (v := (4 : Int32)) hx hb dL_isTold_436 (by decide) ?_
        refine lv_irem hx hb dL_isTold_437 (by decide) ?_
        exact w_L_isTold_J438 X hst hf ⟨by omega, by omega⟩  E (lv_sub hl [0, 4, 7, 8] rfl) G
      · have hf := aw_ite_t hc hf
        refine lv_iconst (v := (4 : Int32)) hx hb dL_isTold_430 (by decide) ?_
        refine lv_goto (tgt := 438) hx hb dL_isTold_431 (by decide) ?_
        exact w_L_isTold_J438 X hst hf ⟨by omega, by omega⟩  E (lv_sub hl [0, 4, 7, 8] rfl) G
    · have hf := aw_ite_t hc hf
      refine lv_iload hx hb dL_isTold_192 (lv_at hl 7 rfl) ?_
      refine lv_bipush (v := (23 : Int32)) hx hb dL_isTold_194 (by decide) ?_
      refine lv_irem hx hb dL_isTold_196 (by decide) ?_
      refine lv_bipush (v := (22 : Int32)) hx hb dL_isTold_197 (by decide) ?_
      refine lv_icmp_ne (tgt := 207) hx hb dL_isTold_199 (by decide) (fun hc => ?_) (fun hc => ?_)
      · have hf := aw_ite_f hc hf
        refine lv_iload hx hb dL_isTold_207 (lv_at hl 7 rfl) ?_
        refine lv_bipush (v := (50 : Int32)) hx hb dL_isTold_209 (by decide) ?_
        refine lv_irem hx hb dL_isTold_211 (by decide) ?_
        exact w_L_isTold_J212 X hst hf ⟨by omega, by omega⟩  E (lv_sub hl [0, 3, 8] rfl) G
      · have hf := aw_ite_t hc hf
        refine lv_bipush (v := (50 : Int32)) hx hb dL_isTold_202 (by decide) ?_
        refine lv_goto (tgt := 212) hx hb dL_isTold_204 (by decide) ?_
        exact w_L_isTold_J212 X hst hf ⟨by omega, by omega⟩  E (lv_sub hl [0, 3, 8] rfl) G
  · have hf := aw_ite_t hc hf
    refine lv_aload hx hb dL_isTold_5 (lv_at hl 5 rfl) ?_
    refine lv_iconst (v := (1 : Int32)) hx hb dL_isTold_7 (by decide) ?_
    obtain ⟨hc_23, hf⟩ := aw_chk_some hf
    refine aw_ial hx hb G hc_23 dL_isTold_8 ?_
    refine lv_iconst (v := (2 : Int32)) hx hb dL_isTold_9 (by decide) ?_
    refine lv_icmp_ne (tgt := 15) hx hb dL_isTold_10 (by decide) (fun hc => ?_) (fun hc => ?_)
    · have hf := aw_ite_f hc hf
      refine lv_iload hx hb dL_isTold_15 (lv_at hl 7 rfl) ?_
      refine lv_bipush (v := (13 : Int32)) hx hb dL_isTold_17 (by decide) ?_
      refine lv_irem hx hb dL_isTold_19 (by decide) ?_
      refine lv_bipush (v := (12 : Int32)) hx hb dL_isTold_20 (by decide) ?_
      refine lv_icmp_ne (tgt := 29) hx hb dL_isTold_22 (by decide) (fun hc => ?_) (fun hc => ?_)
      · have hf := aw_ite_f hc hf
        refine lv_iload hx hb dL_isTold_29 (lv_at hl 7 rfl) ?_
        refine lv_iconst (v := (2 : Int32)) hx hb dL_isTold_31 (by decide) ?_
        refine lv_irem hx hb dL_isTold_32 (by decide) ?_
        exact w_L_isTold_J33 X hst hf ⟨by omega, by omega⟩  E (lv_sub hl [0, 1, 2, 5, 8] rfl) G
      · have hf := aw_ite_t hc hf
        refine lv_iconst (v := (2 : Int32)) hx hb dL_isTold_25 (by decide) ?_
        refine lv_goto (tgt := 33) hx hb dL_isTold_26 (by decide) ?_
        exact w_L_isTold_J33 X hst hf ⟨by omega, by omega⟩  E (lv_sub hl [0, 1, 2, 5, 8] rfl) G
    · have hf := aw_ite_t hc hf
      refine lv_iconst (v := (1 : Int32)) hx hb dL_isTold_13 (by decide) ?_
      obtain ⟨hc_48, hf⟩ := aw_chk_some hf
      exact aw_retkZ X G E hf hc_48 dL_isTold_14 (by omega) (by omega)
