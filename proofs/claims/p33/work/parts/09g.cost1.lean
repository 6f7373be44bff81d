def rm_L_areSo : Room := { frames := 9, cells := 66, slots := 4224, locals := 194 }
def f_L_areSo_J194 (σ : Sg) (x13 : Int32) (d : Dt) : Option (Int32 × Dt) :=
  aw_chk (x13 &&& 1 = x13) (some (x13, d))
def f_L_areSo_J312 (σ : Sg) (kb206 : Int32 → Int32 → Int32 → Int32 → Dt → Option (Int32 × Dt)) (t1 : Int32) (t0 : Int32) (x0 : Nat) (x1 : Nat) (x2 : Nat) (x3 : Nat) (x4 : Nat) (x5 : Nat) (x6 : Nat) (x7 : Nat) (x8 : Nat) (x11 : Nat) (x12 : Nat) (x13 : Int32) (x15 : Int32) (x16 : Int32) (d : Dt) : Option (Int32 × Dt) :=
  aw_chk (aw_I σ 20 x7 (((3 : Int32)) * x16)) (kb206 x13 (t0 + t1) (x15 + (d.1 x7 (((3 : Int32)) * x16).toNatClampNeg)) (x16 + 1) d)
def f_L_areSo_J290 (σ : Sg) (kb206 : Int32 → Int32 → Int32 → Int32 → Dt → Option (Int32 × Dt)) (t0 : Int32) (x0 : Nat) (x1 : Nat) (x2 : Nat) (x3 : Nat) (x4 : Nat) (x5 : Nat) (x6 : Nat) (x7 : Nat) (x8 : Nat) (x11 : Nat) (x12 : Nat) (x14 : Int32) (x15 : Int32) (x16 : Int32) (x17 : Int32) (x18 : Int32) (d : Dt) : Option (Int32 × Dt) :=
  if x18 < x17 then f_L_areSo_J312 σ kb206 ((0 : Int32)) x14 x0 x1 x2 x3 x4 x5 x6 x7 x8 x11 x12 t0 x15 x16 d else aw_chk (aw_I σ 20 x7 (((3 : Int32)) * x16)) (f_L_areSo_J312 σ kb206 (d.1 x7 (((3 : Int32)) * x16).toNatClampNeg) x14 x0 x1 x2 x3 x4 x5 x6 x7 x8 x11 x12 t0 x15 x16 d)
def f_L_areSo_J289 (σ : Sg) (kb206 : Int32 → Int32 → Int32 → Int32 → Dt → Option (Int32 × Dt)) (x0 : Nat) (x1 : Nat) (x2 : Nat) (x3 : Nat) (x4 : Nat) (x5 : Nat) (x6 : Nat) (x7 : Nat) (x8 : Nat) (x11 : Nat) (x12 : Nat) (x14 : Int32) (x15 : Int32) (x16 : Int32) (x17 : Int32) (x18 : Int32) (d : Dt) : Option (Int32 × Dt) :=
  f_L_areSo_J290 σ kb206 ((0 : Int32)) x0 x1 x2 x3 x4 x5 x6 x7 x8 x11 x12 x14 x15 x16 x17 x18 d
def f_L_areSo_B206 (σ : Sg) (kb206 : Int32 → Int32 → Int32 → Int32 → Dt → Option (Int32 × Dt)) (k206 : Int32 → Int32 → Int32 → Dt → Option (Int32 × Dt)) (x0 : Nat) (x1 : Nat) (x2 : Nat) (x3 : Nat) (x4 : Nat) (x5 : Nat) (x6 : Nat) (x7 : Nat) (x8 : Nat) (x11 : Nat) (x12 : Nat) (x13 : Int32) (x14 : Int32) (x15 : Int32) (x16 : Int32) (d : Dt) : Option (Int32 × Dt) :=
  if ((4 : Int32)) ≤ x16 then k206 x13 x14 x15 d else if x13 = 0 then k206 x13 x14 x15 d else (f_L_score σ x1 x2 x3 x4 x6 x7 x8 x16 x11 x12 d).bind (fun z_7 => (f_L_score σ x1 x2 x3 x5 x6 x7 x8 x16 x11 x12 z_7.2).bind (fun z_9 => aw_chk (aw_O σ 10 13 x0) ((f_X10_score σ x0 x16 ((0 : Int32)) z_9.2).bind (fun z_12 => aw_nt z_12 (fun v_14 => if v_14 = z_7.1 then (f_X10_score σ x0 x16 ((1 : Int32)) z_12.2).bind (fun z_18 => aw_nt z_18 (fun v_20 => if v_20 = z_9.1 then f_L_areSo_J290 σ kb206 ((1 : Int32)) x0 x1 x2 x3 x4 x5 x6 x7 x8 x11 x12 x14 x15 x16 z_7.1 z_9.1 z_18.2 else f_L_areSo_J289 σ kb206 x0 x1 x2 x3 x4 x5 x6 x7 x8 x11 x12 x14 x15 x16 z_7.1 z_9.1 z_18.2)) else f_L_areSo_J289 σ kb206 x0 x1 x2 x3 x4 x5 x6 x7 x8 x11 x12 x14 x15 x16 z_7.1 z_9.1 z_12.2)))))
def f_L_areSo_L206 (σ : Sg) (n : Nat) (k206 : Int32 → Int32 → Int32 → Dt → Option (Int32 × Dt)) (x0 : Nat) (x1 : Nat) (x2 : Nat) (x3 : Nat) (x4 : Nat) (x5 : Nat) (x6 : Nat) (x7 : Nat) (x8 : Nat) (x11 : Nat) (x12 : Nat) : Int32 → Int32 → Int32 → Int32 → Dt → Option (Int32 × Dt) := match n with
  | 0 => fun _ _ _ _ _ => none
  | n + 1 => fun x13 x14 x15 x16 d => f_L_areSo_B206 σ (f_L_areSo_L206 σ n k206 x0 x1 x2 x3 x4 x5 x6 x7 x8 x11 x12) k206 x0 x1 x2 x3 x4 x5 x6 x7 x8 x11 x12 x13 x14 x15 x16 d
def f_L_areSo_J585 (σ : Sg) (kb498 : Int32 → Int32 → Int32 → Dt → Option (Int32 × Dt)) (t0 : Int32) (x0 : Nat) (x2 : Nat) (x8 : Nat) (x11 : Nat) (x12 : Nat) (x13 : Int32) (x16 : Int32) (x17 : Int32) (x18 : Int32) (x19 : Int32) (x20 : Int32) (x22 : Int32) (d : Dt) : Option (Int32 × Dt) :=
  kb498 x20 t0 (x22 + 1) d
def f_L_areSo_J580 (σ : Sg) (kb498 : Int32 → Int32 → Int32 → Dt → Option (Int32 × Dt)) (x0 : Nat) (x2 : Nat) (x8 : Nat) (x11 : Nat) (x12 : Nat) (x13 : Int32) (x16 : Int32) (x17 : Int32) (x18 : Int32) (x19 : Int32) (x20 : Int32) (x22 : Int32) (d : Dt) : Option (Int32 × Dt) :=
  f_L_areSo_J585 σ kb498 ((1 : Int32)) x0 x2 x8 x11 x12 x13 x16 x17 x18 x19 x20 x22 d
def f_L_areSo_J584 (σ : Sg) (kb498 : Int32 → Int32 → Int32 → Dt → Option (Int32 × Dt)) (x0 : Nat) (x2 : Nat) (x8 : Nat) (x11 : Nat) (x12 : Nat) (x13 : Int32) (x16 : Int32) (x17 : Int32) (x18 : Int32) (x19 : Int32) (x20 : Int32) (x22 : Int32) (d : Dt) : Option (Int32 × Dt) :=
  f_L_areSo_J585 σ kb498 ((0 : Int32)) x0 x2 x8 x11 x12 x13 x16 x17 x18 x19 x20 x22 d
def f_L_areSo_J545 (σ : Sg) (kb498 : Int32 → Int32 → Int32 → Dt → Option (Int32 × Dt)) (t0 : Int32) (x0 : Nat) (x2 : Nat) (x8 : Nat) (x11 : Nat) (x12 : Nat) (x13 : Int32) (x16 : Int32) (x17 : Int32) (x18 : Int32) (x19 : Int32) (x21 : Int32) (x22 : Int32) (d : Dt) : Option (Int32 × Dt) :=
  if x21 = 0 then (f_L_areAlike σ x12 x19 x12 x22 d).bind (fun z_34 => if z_34.1 = 0 then f_L_areSo_J584 σ kb498 x0 x2 x8 x11 x12 x13 x16 x17 x18 x19 t0 x22 z_34.2 else (f_L_areAlike σ x11 x19 x11 x22 z_34.2).bind (fun z_36 => if z_36.1 = 0 then f_L_areSo_J580 σ kb498 x0 x2 x8 x11 x12 x13 x16 x17 x18 x19 t0 x22 z_36.2 else f_L_areSo_J584 σ kb498 x0 x2 x8 x11 x12 x13 x16 x17 x18 x19 t0 x22 z_36.2)) else f_L_areSo_J580 σ kb498 x0 x2 x8 x11 x12 x13 x16 x17 x18 x19 t0 x22 d
def f_L_areSo_J540 (σ : Sg) (kb498 : Int32 → Int32 → Int32 → Dt → Option (Int32 × Dt)) (x0 : Nat) (x2 : Nat) (x8 : Nat) (x11 : Nat) (x12 : Nat) (x13 : Int32) (x16 : Int32) (x17 : Int32) (x18 : Int32) (x19 : Int32) (x21 : Int32) (x22 : Int32) (d : Dt) : Option (Int32 × Dt) :=
  f_L_areSo_J545 σ kb498 ((1 : Int32)) x0 x2 x8 x11 x12 x13 x16 x17 x18 x19 x21 x22 d
def f_L_areSo_J544 (σ : Sg) (kb498 : Int32 → Int32 → Int32 → Dt → Option (Int32 × Dt)) (x0 : Nat) (x2 : Nat) (x8 : Nat) (x11 : Nat) (x12 : Nat) (x13 : Int32) (x16 : Int32) (x17 : Int32) (x18 : Int32) (x19 : Int32) (x21 : Int32) (x22 : Int32) (d : Dt) : Option (Int32 × Dt) :=
  f_L_areSo_J545 σ kb498 ((0 : Int32)) x0 x2 x8 x11 x12 x13 x16 x17 x18 x19 x21 x22 d
def f_L_areSo_B498 (σ : Sg) (kb498 : Int32 → Int32 → Int32 → Dt → Option (Int32 × Dt)) (k498 : Int32 → Int32 → Dt → Option (Int32 × Dt)) (x0 : Nat) (x2 : Nat) (x8 : Nat) (x11 : Nat) (x12 : Nat) (x13 : Int32) (x16 : Int32) (x17 : Int32) (x18 : Int32) (x19 : Int32) (x20 : Int32) (x21 : Int32) (x22 : Int32) (d : Dt) : Option (Int32 × Dt) :=
  aw_chk (aw_I σ 20 x8 ((0 : Int32))) (if (d.1 x8 ((0 : Int32)).toNatClampNeg) ≤ x22 then k498 x20 x21 d else if x20 = 0 then (f_L_areAlike σ x11 x19 x11 x22 d).bind (fun z_38 => if z_38.1 = 0 then f_L_areSo_J544 σ kb498 x0 x2 x8 x11 x12 x13 x16 x17 x18 x19 x21 x22 z_38.2 else (f_L_areAlike σ x12 x19 x12 x22 z_38.2).bind (fun z_40 => if z_40.1 = 0 then f_L_areSo_J540 σ kb498 x0 x2 x8 x11 x12 x13 x16 x17 x18 x19 x21 x22 z_40.2 else f_L_areSo_J544 σ kb498 x0 x2 x8 x11 x12 x13 x16 x17 x18 x19 x21 x22 z_40.2)) else f_L_areSo_J540 σ kb498 x0 x2 x8 x11 x12 x13 x16 x17 x18 x19 x21 x22 d)
def f_L_areSo_L498 (σ : Sg) (n : Nat) (k498 : Int32 → Int32 → Dt → Option (Int32 × Dt)) (x0 : Nat) (x2 : Nat) (x8 : Nat) (x11 : Nat) (x12 : Nat) (x13 : Int32) (x16 : Int32) (x17 : Int32) (x18 : Int32) (x19 : Int32) : Int32 → Int32 → Int32 → Dt → Option (Int32 × Dt) := match n with
  | 0 => fun _ _ _ _ => none
  | n + 1 => fun x20 x21 x22 d => f_L_areSo_B498 σ (f_L_areSo_L498 σ n k498 x0 x2 x8 x11 x12 x13 x16 x17 x18 x19) k498 x0 x2 x8 x11 x12 x13 x16 x17 x18 x19 x20 x21 x22 d
def f_L_areSo_J632 (σ : Sg) (kb480 : Int32 → Int32 → Int32 → Int32 → Dt → Option (Int32 × Dt)) (t1 : Int32) (t0 : Int32) (x0 : Nat) (x2 : Nat) (x8 : Nat) (x11 : Nat) (x12 : Nat) (x13 : Int32) (x16 : Int32) (x17 : Int32) (x19 : Int32) (d : Dt) : Option (Int32 × Dt) :=
  aw_chk (aw_I σ 20 x2 (((8 : Int32)) + x19)) ((f_L_way σ x2 x11 x19 x12 x19 d).bind (fun z_46 => kb480 (x16 + ((d.1 x2 (((8 : Int32)) + x19).toNatClampNeg) * z_46.1)) x17 (t0 + t1) (x19 + 1) z_46.2))
def f_L_areSo_J611 (σ : Sg) (kb480 : Int32 → Int32 → Int32 → Int32 → Dt → Option (Int32 × Dt)) (t1 : Int32) (t0 : Int32) (x0 : Nat) (x2 : Nat) (x8 : Nat) (x11 : Nat) (x12 : Nat) (x13 : Int32) (x16 : Int32) (x18 : Int32) (x19 : Int32) (x21 : Int32) (d : Dt) : Option (Int32 × Dt) :=
  if x21 = 0 then f_L_areSo_J632 σ kb480 ((0 : Int32)) x18 x0 x2 x8 x11 x12 x13 x16 (t0 + t1) x19 d else aw_chk (aw_I σ 20 x2 (((8 : Int32)) + x19)) (f_L_areSo_J632 σ kb480 (d.1 x2 (((8 : Int32)) + x19).toNatClampNeg) x18 x0 x2 x8 x11 x12 x13 x16 (t0 + t1) x19 d)
def f_L_areSo_B480 (σ : Sg) (kb480 : Int32 → Int32 → Int32 → Int32 → Dt → Option (Int32 × Dt)) (k480 : Int32 → Int32 → Int32 → Dt → Option (Int32 × Dt)) (x0 : Nat) (x2 : Nat) (x8 : Nat) (x11 : Nat) (x12 : Nat) (x13 : Int32) (x16 : Int32) (x17 : Int32) (x18 : Int32) (x19 : Int32) (d : Dt) : Option (Int32 × Dt) :=
  aw_chk (aw_I σ 20 x8 ((0 : Int32))) (if (d.1 x8 ((0 : Int32)).toNatClampNeg) ≤ x19 then k480 x16 x17 x18 d else f_L_areSo_L498 σ aw_FU (fun x20_42 x21_43 d_44 => if x20_42 = 0 then f_L_areSo_J611 σ kb480 ((0 : Int32)) x17 x0 x2 x8 x11 x12 x13 x16 x18 x19 x21_43 d_44 else aw_chk (aw_I σ 20 x2 (((8 : Int32)) + x19)) (f_L_areSo_J611 σ kb480 (d_44.1 x2 (((8 : Int32)) + x19).toNatClampNeg) x17 x0 x2 x8 x11 x12 x13 x16 x18 x19 x21_43 d_44)) x0 x2 x8 x11 x12 x13 x16 x17 x18 x19 ((0 : Int32)) ((0 : Int32)) ((0 : Int32)) d)
def f_L_areSo_L480 (σ : Sg) (n : Nat) (k480 : Int32 → Int32 → Int32 → Dt → Option (Int32 × Dt)) (x0 : Nat) (x2 : Nat) (x8 : Nat) (x11 : Nat) (x12 : Nat) (x13 : Int32) : Int32 → Int32 → Int32 → Int32 → Dt → Option (Int32 × Dt) := match n with
  | 0 => fun _ _ _ _ _ => none
  | n + 1 => fun x16 x17 x18 x19 d => f_L_areSo_B480 σ (f_L_areSo_L480 σ n k480 x0 x2 x8 x11 x12 x13) k480 x0 x2 x8 x11 x12 x13 x16 x17 x18 x19 d
def f_L_areSo_J729 (σ : Sg) (t0 : Int32) (d : Dt) : Option (Int32 × Dt) :=
  aw_chk (t0 &&& 1 = t0) (some (t0, d))
def f_L_areSo_J728 (σ : Sg)  (d : Dt) : Option (Int32 × Dt) :=
  f_L_areSo_J729 σ ((0 : Int32)) d
def f_L_areSo_J463 (σ : Sg) (t5 : Int32) (t4 : Nat) (t3 : Nat) (t2 : Nat) (t1 : Nat) (t0 : Nat) (x0 : Nat) (x2 : Nat) (x8 : Nat) (x11 : Nat) (x12 : Nat) (x13 : Int32) (d : Dt) : Option (Int32 × Dt) :=
  (f_L_spellsAll σ t0 t1 t2 t3 t4 t5 x12 d).bind (fun z_30 => f_L_areSo_L480 σ aw_FU (fun x16_50 x17_51 x18_52 d_53 => if x13 = 0 then f_L_areSo_J728 σ d_53 else aw_chk (aw_O σ 10 13 x0) ((f_X10_reform σ x0 ((0 : Int32)) ((1 : Int32)) d_53).bind (fun z_56 => aw_nt z_56 (fun v_58 => if v_58 = x16_50 then (f_X10_reform σ x0 ((1 : Int32)) ((0 : Int32)) z_56.2).bind (fun z_60 => aw_nt z_60 (fun v_62 => if v_62 = x16_50 then (f_X10_lost σ x0 ((0 : Int32)) ((1 : Int32)) z_60.2).bind (fun z_64 => aw_nt z_64 (fun v_66 => if v_66 = x17_51 then (f_X10_lost σ x0 ((1 : Int32)) ((0 : Int32)) z_64.2).bind (fun z_68 => aw_nt z_68 (fun v_70 => if v_70 = x18_52 then (f_X10_reform σ x0 ((1 : Int32)) ((1 : Int32)) z_68.2).bind (fun z_72 => aw_nt z_72 (fun v_74 => if v_74 = 0 then f_L_areSo_J729 σ ((1 : Int32)) z_72.2 else f_L_areSo_J728 σ z_72.2)) else f_L_areSo_J728 σ z_68.2)) else f_L_areSo_J728 σ z_64.2)) else f_L_areSo_J728 σ z_60.2)) else f_L_areSo_J728 σ z_56.2)))) x0 x2 x8 x11 x12 x13 ((0 : Int32)) ((0 : Int32)) ((0 : Int32)) ((0 : Int32)) z_30.2)
def f_L_areSo_J432 (σ : Sg) (t5 : Int32) (t4 : Nat) (t3 : Nat) (t2 : Nat) (t1 : Nat) (t0 : Nat) (x0 : Nat) (x1 : Nat) (x2 : Nat) (x3 : Nat) (x5 : Nat) (x8 : Nat) (x11 : Nat) (x12 : Nat) (x13 : Int32) (d : Dt) : Option (Int32 × Dt) :=
  (f_L_spellsAll σ t0 t1 t2 t3 t4 t5 x11 d).bind (fun z_27 => aw_chk (aw_I σ 20 x5 ((48 : Int32))) (if (z_27.2.1 x5 ((48 : Int32)).toNatClampNeg) = 0 then f_L_areSo_J463 σ ((3 : Int32)) x8 x5 x3 x2 x1 x0 x2 x8 x11 x12 x13 z_27.2 else f_L_areSo_J463 σ ((z_27.2.1 x5 ((48 : Int32)).toNatClampNeg) - ((1 : Int32))) x8 x5 x3 x2 x1 x0 x2 x8 x11 x12 x13 z_27.2))
def f_L_areSo_J404 (σ : Sg) (t0 : Int32) (x0 : Nat) (x1 : Nat) (x2 : Nat) (x3 : Nat) (x4 : Nat) (x5 : Nat) (x8 : Nat) (x11 : Nat) (x12 : Nat) (d : Dt) : Option (Int32 × Dt) :=
  aw_chk (aw_I σ 20 x4 ((48 : Int32))) (if (d.1 x4 ((48 : Int32)).toNatClampNeg) = 0 then f_L_areSo_J432 σ ((3 : Int32)) x8 x4 x3 x2 x1 x0 x1 x2 x3 x5 x8 x11 x12 t0 d else f_L_areSo_J432 σ ((d.1 x4 ((48 : Int32)).toNatClampNeg) - ((1 : Int32))) x8 x4 x3 x2 x1 x0 x1 x2 x3 x5 x8 x11 x12 t0 d)
def f_L_areSo_J403 (σ : Sg) (x0 : Nat) (x1 : Nat) (x2 : Nat) (x3 : Nat) (x4 : Nat) (x5 : Nat) (x8 : Nat) (x11 : Nat) (x12 : Nat) (d : Dt) : Option (Int32 × Dt) :=
  f_L_areSo_J404 σ ((0 : Int32)) x0 x1 x2 x3 x4 x5 x8 x11 x12 d
def f_L_areSo_J396 (σ : Sg) (t1 : Int32) (t0 : Int32) (x0 : Nat) (x1 : Nat) (x2 : Nat) (x3 : Nat) (x4 : Nat) (x5 : Nat) (x8 : Nat) (x11 : Nat) (x12 : Nat) (d : Dt) : Option (Int32 × Dt) :=
  if t0 = t1 then f_L_areSo_J404 σ ((1 : Int32)) x0 x1 x2 x3 x4 x5 x8 x11 x12 d else f_L_areSo_J403 σ x0 x1 x2 x3 x4 x5 x8 x11 x12 d
def f_L_areSo_J333 (σ : Sg) (x0 : Nat) (x1 : Nat) (x2 : Nat) (x3 : Nat) (x4 : Nat) (x5 : Nat) (x8 : Nat) (x11 : Nat) (x12 : Nat) (x13 : Int32) (x14 : Int32) (x15 : Int32) (d : Dt) : Option (Int32 × Dt) :=
  if x13 = 0 then f_L_areSo_J403 σ x0 x1 x2 x3 x4 x5 x8 x11 x12 d else aw_chk (aw_O σ 10 13 x0) ((f_X10_votes σ x0 ((0 : Int32)) d).bind (fun z_77 => aw_nt z_77 (fun v_79 => if v_79 = x14 then (f_X10_votes σ x0 ((1 : Int32)) z_77.2).bind (fun z_81 => aw_nt z_81 (fun v_83 => if v_83 = (x15 - x14) then (f_L_does_12 σ x0 ((0 : Int32)) ((0 : Int32)) ((0 : Int32)) ((0 : Int32)) ((0 : Int32)) z_81.2).bind (fun z_85 => if x15 = 0 then f_L_areSo_J396 σ ((-1 : Int32)) z_85.1 x0 x1 x2 x3 x4 x5 x8 x11 x12 z_85.2 else if x14 < (x15 - x14) then f_L_areSo_J396 σ ((1 : Int32)) z_85.1 x0 x1 x2 x3 x4 x5 x8 x11 x12 z_85.2 else f_L_areSo_J396 σ ((0 : Int32)) z_85.1 x0 x1 x2 x3 x4 x5 x8 x11 x12 z_85.2) else f_L_areSo_J403 σ x0 x1 x2 x3 x4 x5 x8 x11 x12 z_81.2)) else f_L_areSo_J403 σ x0 x1 x2 x3 x4 x5 x8 x11 x12 z_77.2)))
def f_L_areSo_J181 (σ : Sg) (x0 : Nat) (x1 : Nat) (x2 : Nat) (x3 : Nat) (x4 : Nat) (x5 : Nat) (x6 : Nat) (x7 : Nat) (x8 : Nat) (x11 : Nat) (x12 : Nat) (x13 : Int32) (d : Dt) : Option (Int32 × Dt) :=
  aw_chk (aw_I σ 20 x8 ((1 : Int32))) (if (d.1 x8 ((1 : Int32)).toNatClampNeg) < ((2 : Int32)) then f_L_areSo_J194 σ x13 d else if x13 = 0 then f_L_areSo_J194 σ x13 d else f_L_areSo_L206 σ 6 (fun x13_22 x14_23 x15_24 d_25 => f_L_areSo_J333 σ x0 x1 x2 x3 x4 x5 x8 x11 x12 x13_22 x14_23 x15_24 d_25) x0 x1 x2 x3 x4 x5 x6 x7 x8 x11 x12 x13 ((0 : Int32)) ((0 : Int32)) ((0 : Int32)) d)
def f_L_areSo_J173 (σ : Sg) (kb109 : Int32 → Int32 → Dt → Option (Int32 × Dt)) (t0 : Int32) (x0 : Nat) (x1 : Nat) (x2 : Nat) (x3 : Nat) (x4 : Nat) (x5 : Nat) (x6 : Nat) (x7 : Nat) (x8 : Nat) (x11 : Nat) (x12 : Nat) (x14 : Int32) (x15 : Int32) (x16 : Int32) (d : Dt) : Option (Int32 × Dt) :=
  kb109 t0 (x16 + 1) d
def f_L_areSo_J165 (σ : Sg) (kb109 : Int32 → Int32 → Dt → Option (Int32 × Dt)) (t1 : Int32) (t0 : Int32) (x0 : Nat) (x1 : Nat) (x2 : Nat) (x3 : Nat) (x4 : Nat) (x5 : Nat) (x6 : Nat) (x7 : Nat) (x8 : Nat) (x11 : Nat) (x12 : Nat) (x14 : Int32) (x15 : Int32) (x16 : Int32) (d : Dt) : Option (Int32 × Dt) :=
  if t0 = t1 then f_L_areSo_J173 σ kb109 ((1 : Int32)) x0 x1 x2 x3 x4 x5 x6 x7 x8 x11 x12 x14 x15 x16 d else f_L_areSo_J173 σ kb109 ((0 : Int32)) x0 x1 x2 x3 x4 x5 x6 x7 x8 x11 x12 x14 x15 x16 d
def f_L_areSo_J133 (σ : Sg) (kb109 : Int32 → Int32 → Dt → Option (Int32 × Dt)) (t1 : Int32) (t0 : Nat) (x0 : Nat) (x1 : Nat) (x2 : Nat) (x3 : Nat) (x4 : Nat) (x5 : Nat) (x6 : Nat) (x7 : Nat) (x8 : Nat) (x11 : Nat) (x12 : Nat) (x14 : Int32) (x15 : Int32) (x16 : Int32) (d : Dt) : Option (Int32 × Dt) :=
  aw_chk (aw_O σ 10 13 t0) ((f_X10_spoken σ t0 t1 x14 x16 d).bind (fun z_89 => aw_nt z_89 (fun v_91 => aw_chk (aw_I σ 20 x2 x14) (if (z_89.2.1 x2 x14.toNatClampNeg) ≤ x16 then f_L_areSo_J165 σ kb109 ((-1 : Int32)) v_91 x0 x1 x2 x3 x4 x5 x6 x7 x8 x11 x12 x14 x15 x16 z_89.2 else (f_L_speaks σ x1 x2 x3 x15 x14 x16 z_89.2).bind (fun z_94 => f_L_areSo_J165 σ kb109 z_94.1 v_91 x0 x1 x2 x3 x4 x5 x6 x7 x8 x11 x12 x14 x15 x16 z_94.2)))))
def f_L_areSo_B109 (σ : Sg) (kb109 : Int32 → Int32 → Dt → Option (Int32 × Dt)) (k109 : Int32 → Dt → Option (Int32 × Dt)) (x0 : Nat) (x1 : Nat) (x2 : Nat) (x3 : Nat) (x4 : Nat) (x5 : Nat) (x6 : Nat) (x7 : Nat) (x8 : Nat) (x11 : Nat) (x12 : Nat) (x14 : Int32) (x15 : Int32) (x13 : Int32) (x16 : Int32) (d : Dt) : Option (Int32 × Dt) :=
  if ((5 : Int32)) ≤ x16 then k109 x13 d else if x13 = 0 then k109 x13 d else if x15 = ((3 : Int32)) then f_L_areSo_J133 σ kb109 ((-1 : Int32)) x0 x0 x1 x2 x3 x4 x5 x6 x7 x8 x11 x12 x14 x15 x16 d else f_L_areSo_J133 σ kb109 x15 x0 x0 x1 x2 x3 x4 x5 x6 x7 x8 x11 x12 x14 x15 x16 d
def f_L_areSo_L109 (σ : Sg) (n : Nat) (k109 : Int32 → Dt → Option (Int32 × Dt)) (x0 : Nat) (x1 : Nat) (x2 : Nat) (x3 : Nat) (x4 : Nat) (x5 : Nat) (x6 : Nat) (x7 : Nat) (x8 : Nat) (x11 : Nat) (x12 : Nat) (x14 : Int32) (x15 : Int32) : Int32 → Int32 → Dt → Option (Int32 × Dt) := match n with
  | 0 => fun _ _ _ => none
  | n + 1 => fun x13 x16 d => f_L_areSo_B109 σ (f_L_areSo_L109 σ n k109 x0 x1 x2 x3 x4 x5 x6 x7 x8 x11 x12 x14 x15) k109 x0 x1 x2 x3 x4 x5 x6 x7 x8 x11 x12 x14 x15 x13 x16 d
def f_L_areSo_J77 (σ : Sg) (t0 : Int32) (x0 : Nat) (x1 : Nat) (x2 : Nat) (x3 : Nat) (x4 : Nat) (x5 : Nat) (x6 : Nat) (x7 : Nat) (x8 : Nat) (x9 : Int32) (x10 : Int32) (x11 : Nat) (x12 : Nat) (d : Dt) : Option (Int32 × Dt) :=
  aw_chk (aw_I σ 20 x8 ((0 : Int32))) (if (d.1 x8 ((0 : Int32)).toNatClampNeg) ≤ 0 then f_L_areSo_J181 σ x0 x1 x2 x3 x4 x5 x6 x7 x8 x11 x12 t0 d else if t0 = 0 then f_L_areSo_J181 σ x0 x1 x2 x3 x4 x5 x6 x7 x8 x11 x12 t0 d else aw_chk (¬ (d.1 x8 ((0 : Int32)).toNatClampNeg) = 0) (f_L_areSo_L109 σ 7 (fun x13_96 d_97 => f_L_areSo_J181 σ x0 x1 x2 x3 x4 x5 x6 x7 x8 x11 x12 x13_96 d_97) x0 x1 x2 x3 x4 x5 x6 x7 x8 x11 x12 (x9 - x9 / (d.1 x8 ((0 : Int32)).toNatClampNeg) * (d.1 x8 ((0 : Int32)).toNatClampNeg)) (x10 - x10 / (4 : Int32) * (4 : Int32)) t0 ((0 : Int32)) d))
def f_L_areSo_J76 (σ : Sg) (x0 : Nat) (x1 : Nat) (x2 : Nat) (x3 : Nat) (x4 : Nat) (x5 : Nat) (x6 : Nat) (x7 : Nat) (x8 : Nat) (x9 : Int32) (x10 : Int32) (x11 : Nat) (x12 : Nat) (d : Dt) : Option (Int32 × Dt) :=
  f_L_areSo_J77 σ ((0 : Int32)) x0 x1 x2 x3 x4 x5 x6 x7 x8 x9 x10 x11 x12 d
def f_L_areSo (σ : Sg) (x0 : Nat) (x1 : Nat) (x2 : Nat) (x3 : Nat) (x4 : Nat) (x5 : Nat) (x6 : Nat) (x7 : Nat) (x8 : Nat) (x9 : Int32) (x10 : Int32) (x11 : Nat) (x12 : Nat) (d : Dt) : Option (Int32 × Dt) :=
  aw_chk (aw_I σ 20 x8 ((1 : Int32))) ((f_L_does_9 σ x0 (d.1 x8 ((1 : Int32)).toNatClampNeg) ((0 : Int32)) ((0 : Int32)) ((0 : Int32)) ((0 : Int32)) d).bind (fun z_2 => if z_2.1 = ((-3000000 : Int32)) then (f_L_does_8 σ x0 ((3 : Int32)) ((0 : Int32)) ((0 : Int32)) ((0 : Int32)) ((0 : Int32)) z_2.2).bind (fun z_98 => if z_98.1 = ((-3000000 : Int32)) then aw_chk (aw_O σ 10 13 x0) ((f_X10_apart σ x0 (x9 - x9 / (50 : Int32) * (50 : Int32)) (x10 - x10 / (50 : Int32) * (50 : Int32)) z_98.2).bind (fun z_101 => aw_nt z_101 (fun v_103 => aw_chk (aw_I σ 20 x6 (x9 - x9 / (50 : Int32) * (50 : Int32))) (aw_chk (aw_I σ 20 x6 (x10 - x10 / (50 : Int32) * (50 : Int32))) ((f_L_apart σ x2 (z_101.2.1 x6 (x9 - x9 / (50 : Int32) * (50 : Int32)).toNatClampNeg) (z_101.2.1 x6 (x10 - x10 / (50 : Int32) * (50 : Int32)).toNatClampNeg) z_101.2).bind (fun z_107 => if v_103 = z_107.1 then f_L_areSo_J77 σ ((1 : Int32)) x0 x1 x2 x3 x4 x5 x6 x7 x8 x9 x10 x11 x12 z_107.2 else f_L_areSo_J76 σ x0 x1 x2 x3 x4 x5 x6 x7 x8 x9 x10 x11 x12 z_107.2)))))) else f_L_areSo_J76 σ x0 x1 x2 x3 x4 x5 x6 x7 x8 x9 x10 x11 x12 z_98.2) else f_L_areSo_J76 σ x0 x1 x2 x3 x4 x5 x6 x7 x8 x9 x10 x11 x12 z_2.2))
section W_L_areSo
variable {p : Program} {l : Launch} {e : Env} {s : State} {m : MethodId} {args : Array Value} {below : List Frame} {meth : Method} {c : Code}
variable {D : va_G} {cA : Nat → ClassId} {base : Nat} {ad : Nat → Nat} {σ : Sg}
set_option maxHeartbeats 4000000 in
set_option maxRecDepth 100000 in
theorem w_L_areSo_J194 {z : Int32 × Dt} (X : aw_X p c cL_areSo 23 s RL m meth (some .boolean)) (hst : l.stackTraces = false) {x13 : Int32} {d : Dt} (hf : f_L_areSo_J194 σ x13 d = some z) { cells slots : Nat} (hB : cells + (0) ≤ 66 ∧ slots + 64 * (0) ≤ 4224)  {H : Heap} {locs : List Loc} {ls : Array Slot} (hl : lv_has ls 23 [(13, .int x13)]) (G : aw_G D cA base ad σ d s H locs) : W p l e rm_L_areSo s m args below meth c H locs cells slots (aw_Ej D cA base ad σ below args s 66 4224 z) (F0 m 194 ls []) := by
  have hx := X.1; have hb := X.2.1; have hml := X.2.2.1; have hown := X.2.2.2.1
  unfold f_L_areSo_J194 at hf
  refine lv_iload hx hb dL_areSo_194 (lv_at hl 0 rfl) ?_
  obtain ⟨hc_6, hf⟩ := aw_chk_some hf
  exact aw_retjZ X G hf hc_6 dL_areSo_196 (by omega) (by omega)
set_option maxHeartbeats 4000000 in
set_option maxRecDepth 100000 in
theorem w_L_areSo_J312 {z : Int32 × Dt} (X : aw_X p c cL_areSo 23 s RL m meth (some .boolean)) (hst : l.stackTraces = false) {kb206 : Int32 → Int32 → Int32 → Int32 → Dt → Option (Int32 × Dt)} {t1 : Int32} {t0 : Int32} {x0 : Nat} {x1 : Nat} {x2 : Nat} {x3 : Nat} {x4 : Nat} {x5 : Nat} {x6 : Nat} {x7 : Nat} {x8 : Nat} {x11 : Nat} {x12 : Nat} {x13 : Int32} {x15 : Int32} {x16 : Int32} {d : Dt} (hf : f_L_areSo_J312 σ kb206 t1 t0 x0 x1 x2 x3 x4 x5 x6 x7 x8 x11 x12 x13 x15 x16 d = some z) {nb206 cells slots : Nat} (hB : cells + (13 + nb206 * 4) ≤ 66 ∧ slots + 64 * (13 + nb206 * 4) ≤ 4224) (hkb206 : ∀ (y13 : Int32) (y14 : Int32) (y15 : Int32) (y16 : Int32) (d : Dt), kb206 y13 y14 y15 y16 d = some z → ∀ (cells slots : Nat), cells + (13 + nb206 * 4) ≤ 66 ∧ slots + 64 * (13 + nb206 * 4) ≤ 4224 → ∀ (H : Heap) (locs : List Loc) (ls : Array Slot), lv_has ls 23 [(0, .ref (ad x0)), (1, .ref (ad x1)), (2, .ref (ad x2)), (3, .ref (ad x3)), (4, .ref (ad x4)), (5, .ref (ad x5)), (6, .ref (ad x6)), (7, .ref (ad x7)), (8, .ref (ad x8)), (11, .ref (ad x11)), (12, .ref (ad x12)), (13, .int y13), (14, .int y14), (15, .int y15), (16, .int y16)] → aw_G D cA base ad σ d s H locs → W p l e rm_L_areSo s m args below meth c H locs cells slots (aw_Ej D cA base ad σ below args s 66 4224 z) (F0 m 206 ls [])) {H : Heap} {locs : List Loc} {ls : Array Slot} (hl : lv_has ls 23 [(0, .ref (ad x0)), (1, .ref (ad x1)), (2, .ref (ad x2)), (3, .ref (ad x3)), (4, .ref (ad x4)), (5, .ref (ad x5)), (6, .ref (ad x6)), (7, .ref (ad x7)), (8, .ref (ad x8)), (11, .ref (ad x11)), (12, .ref (ad x12)), (13, .int x13), (15, .int x15), (16, .int x16)]) (G : aw_G D cA base ad σ d s H locs) : W p l e rm_L_areSo s m args below meth c H locs cells slots (aw_Ej D cA base ad σ below args s 66 4224 z) (F0 m 312 ls [.int t1, .int t0]) := by
  have hx := X.1; have hb := X.2.1; have hml := X.2.2.1; have hown := X.2.2.2.1
  unfold f_L_areSo_J312 at hf
  refine lv_iadd hx hb dL_areSo_312 ?_
  refine lv_istore (lv' := [(14, .int (t0 + t1)), (0, .ref (ad x0)), (1, .ref (ad x1)), (2, .ref (ad x2)), (3, .ref (ad x3)), (4, .ref (ad x4)), (5, .ref (ad x5)), (6, .ref (ad x6)), (7, .ref (ad x7)), (8, .ref (ad x8)), (11, .ref (ad x11)), (12, .ref (ad x12)), (13, .int x13), (15, .int x15), (16, .int x16)]) hx hb dL_areSo_313 hl (by decide) rfl (fun ls hl => ?_)
  refine lv_iload hx hb dL_areSo_315 (lv_at hl 13 rfl) ?_
  refine lv_aload hx hb dL_areSo_317 (lv_at hl 8 rfl) ?_
  refine lv_iconst (v := (3 : Int32)) hx hb dL_areSo_319 (by decide) ?_
  refine lv_iload hx hb dL_areSo_320 (lv_at hl 14 rfl) ?_
  refine lv_imul hx hb dL_areSo_322 ?_
  obtain ⟨hc_16, hf⟩ := aw_chk_some hf
  refine aw_ial hx hb G hc_16 dL_areSo_323 ?_
  refine lv_iadd hx hb dL_areSo_324 ?_
  refine lv_istore (lv' := [(15, .int (x15 + (d.1 x7 (((3 : Int32)) * x16).toNatClampNeg))), (14, .int (t0 + t1)), (0, .ref (ad x0)), (1, .ref (ad x1)), (2, .ref (ad x2)), (3, .ref (ad x3)), (4, .ref (ad x4)), (5, .ref (ad x5)), (6, .ref (ad x6)), (7, .ref (ad x7)), (8, .ref (ad x8)), (11, .ref (ad x11)), (12, .ref (ad x12)), (13, .int x13), (16, .int x16)]) hx hb dL_areSo_325 hl (by decide) rfl (fun ls hl => ?_)
  refine lv_iinc (v := x16 + 1) (lv' := [(16, .int (x16 + 1)), (15, .int (x15 + (d.1 x7 (((3 : Int32)) * x16).toNatClampNeg))), (14, .int (t0 + t1)), (0, .ref (ad x0)), (1, .ref (ad x1)), (2, .ref (ad x2)), (3, .ref (ad x3)), (4, .ref (ad x4)), (5, .ref (ad x5)), (6, .ref (ad x6)), (7, .ref (ad x7)), (8, .ref (ad x8)), (11, .ref (ad x11)), (12, .ref (ad x12)), (13, .int x13)]) hx hb dL_areSo_327 hl (k := 14) rfl rfl (by decide) rfl (fun ls hl => ?_)
  refine lv_goto (tgt := 206) hx hb dL_areSo_330 (by decide) ?_
  exact hkb206 _ _ _ _ _ hf _ _ ⟨by omega, by omega⟩ _ _ _ (lv_sub hl [3, 4, 5, 6, 7, 8, 9, 10, 11, 12, 13, 14, 2, 1, 0] rfl) G
set_option maxHeartbeats 4000000 in
set_option maxRecDepth 100000 in
theorem w_L_areSo_J290 {z : Int32 × Dt} (X : aw_X p c cL_areSo 23 s RL m meth (some .boolean)) (hst : l.stackTraces = false) {kb206 : Int32 → Int32 → Int32 → Int32 → Dt → Option (Int32 × Dt)} {t0 : Int32} {x0 : Nat} {x1 : Nat} {x2 : Nat} {x3 : Nat} {x4 : Nat} {x5 : Nat} {x6 : Nat} {x7 : Nat} {x8 : Nat} {x11 : Nat} {x12 : Nat} {x14 : Int32} {x15 : Int32} {x16 : Int32} {x17 : Int32} {x18 : Int32} {d : Dt} (hf : f_L_areSo_J290 σ kb206 t0 x0 x1 x2 x3 x4 x5 x6 x7 x8 x11 x12 x14 x15 x16 x17 x18 d = some z) {nb206 cells slots : Nat} (hB : cells + (13 + nb206 * 4) ≤ 66 ∧ slots + 64 * (13 + nb206 * 4) ≤ 4224) (hkb206 : ∀ (y13 : Int32) (y14 : Int32) (y15 : Int32) (y16 : Int32) (d : Dt), kb206 y13 y14 y15 y16 d = some z → ∀ (cells slots : Nat), cells + (13 + nb206 * 4) ≤ 66 ∧ slots + 64 * (13 + nb206 * 4) ≤ 4224 → ∀ (H : Heap) (locs : List Loc) (ls : Array Slot), lv_has ls 23 [(0, .ref (ad x0)), (1, .ref (ad x1)), (2, .ref (ad x2)), (3, .ref (ad x3)), (4, .ref (ad x4)), (5, .ref (ad x5)), (6, .ref (ad x6)), (7, .ref (ad x7)), (8, .ref (ad x8)), (11, .ref (ad x11)), (12, .ref (ad x12)), (13, .int y13), (14, .int y14), (15, .int y15), (16, .int y16)] → aw_G D cA base ad σ d s H locs → W p l e rm_L_areSo s m args below meth c H locs cells slots (aw_Ej D cA base ad σ below args s 66 4224 z) (F0 m 206 ls [])) {H : Heap} {locs : List Loc} {ls : Array Slot} (hl : lv_has ls 23 [(0, .ref (ad x0)), (1, .ref (ad x1)), (2, .ref (ad x2)), (3, .ref (ad x3)), (4, .ref (ad x4)), (5, .ref (ad x5)), (6, .ref (ad x6)), (7, .ref (ad x7)), (8, .ref (ad x8)), (11, .ref (ad x11)), (12, .ref (ad x12)), (14, .int x14), (15, .int x15), (16, .int x16), (17, .int x17), (18, .int x18)]) (G : aw_G D cA base ad σ d s H locs) : W p l e rm_L_areSo s m args below meth c H locs cells slots (aw_Ej D cA base ad σ below args s 66 4224 z) (F0 m 290 ls [.int t0]) := by
  have hx := X.1; have hb := X.2.1; have hml := X.2.2.1; have hown := X.2.2.2.1
  unfold f_L_areSo_J290 at hf
  refine lv_istore (lv' := [(13, .int t0), (0, .ref (ad x0)), (1, .ref (ad x1)), (2, .ref (ad x2)), (3, .ref (ad x3)), (4, .ref (ad x4)), (5, .ref (ad x5)), (6, .ref (ad x6)), (7, .ref (ad x7)), (8, .ref (ad x8)), (11, .ref (ad x11)), (12, .ref (ad x12)), (14, .int x14), (15, .int x15), (16, .int x16), (17, .int x17), (18, .int x18)]) hx hb dL_areSo_290 hl (by decide) rfl (fun ls hl => ?_)
  refine lv_iload hx hb dL_areSo_292 (lv_at hl 12 rfl) ?_
  refine lv_iload hx hb dL_areSo_294 (lv_at hl 15 rfl) ?_
  refine lv_iload hx hb dL_areSo_296 (lv_at hl 16 rfl) ?_
  refine lv_icmp_gt (tgt := 311) hx hb dL_areSo_298 (by decide) (fun hc => ?_) (fun hc => ?_)
  · have hf := aw_ite_t hc hf
    refine lv_iconst (v := (0 : Int32)) hx hb dL_areSo_311 (by decide) ?_
    exact w_L_areSo_J312 X hst (nb206 := nb206) hf ⟨by omega, by omega⟩ hkb206 (lv_sub hl [1, 2, 3, 4, 5, 6, 7, 8, 9, 10, 11, 0, 13, 14] rfl) G
  · have hf := aw_ite_f hc hf
    refine lv_aload hx hb dL_areSo_301 (lv_at hl 8 rfl) ?_
    refine lv_iconst (v := (3 : Int32)) hx hb dL_areSo_303 (by decide) ?_
    refine lv_iload hx hb dL_areSo_304 (lv_at hl 14 rfl) ?_
    refine lv_imul hx hb dL_areSo_306 ?_
    obtain ⟨hc_17, hf⟩ := aw_chk_some hf
    refine aw_ial hx hb G hc_17 dL_areSo_307 ?_
    refine lv_goto (tgt := 312) hx hb dL_areSo_308 (by decide) ?_
    exact w_L_areSo_J312 X hst (nb206 := nb206) hf ⟨by omega, by omega⟩ hkb206 (lv_sub hl [1, 2, 3, 4, 5, 6, 7, 8, 9, 10, 11, 0, 13, 14] rfl) G
set_option maxHeartbeats 4000000 in
set_option maxRecDepth 100000 in
theorem w_L_areSo_J289 {z : Int32 × Dt} (X : aw_X p c cL_areSo 23 s RL m meth (some .boolean)) (hst : l.stackTraces = false) {kb206 : Int32 → Int32 → Int32 → Int32 → Dt → Option (Int32 × Dt)} {x0 : Nat} {x1 : Nat} {x2 : Nat} {x3 : Nat} {x4 : Nat} {x5 : Nat} {x6 : Nat} {x7 : Nat} {x8 : Nat} {x11 : Nat} {x12 : Nat} {x14 : Int32} {x15 : Int32} {x16 : Int32} {x17 : Int32} {x18 : Int32} {d : Dt} (hf : f_L_areSo_J289 σ kb206 x0 x1 x2 x3 x4 x5 x6 x7 x8 x11 x12 x14 x15 x16 x17 x18 d = some z) {nb206 cells slots : Nat} (hB : cells + (13 + nb206 * 4) ≤ 66 ∧ slots + 64 * (13 + nb206 * 4) ≤ 4224) (hkb206 : ∀ (y13 : Int32) (y14 : Int32) (y15 : Int32) (y16 : Int32) (d : Dt), kb206 y13 y14 y15 y16 d = some z → ∀ (cells slots : Nat), cells + (13 + nb206 * 4) ≤ 66 ∧ slots + 64 * (13 + nb206 * 4) ≤ 4224 → ∀ (H : Heap) (locs : List Loc) (ls : Array Slot), lv_has ls 23 [(0, .ref (ad x0)), (1, .ref (ad x1)), (2, .ref (ad x2)), (3, .ref (ad x3)), (4, .ref (ad x4)), (5, .ref (ad x5)), (6, .ref (ad x6)), (7, .ref (ad x7)), (8, .ref (ad x8)), (11, .ref (ad x11)), (12, .ref (ad x12)), (13, .int y13), (14, .int y14), (15, .int y15), (16, .int y16)] → aw_G D cA base ad σ d s H locs → W p l e rm_L_areSo s m args below meth c H locs cells slots (aw_Ej D cA base ad σ below args s 66 4224 z) (F0 m 206 ls [])) {H : Heap} {locs : List Loc} {ls : Array Slot} (hl : lv_has ls 23 [(0, .ref (ad x0)), (1, .ref (ad x1)), (2, .ref (ad x2)), (3, .ref (ad x3)), (4, .ref (ad x4)), (5, .ref (ad x5)), (6, .ref (ad x6)), (7, .ref (ad x7)), (8, .ref (ad x8)), (11, .ref (ad x11)), (12, .ref (ad x12)), (14, .int x14), (15, .int x15), (16, .int x16), (17, .int x17), (18, .int x18)]) (G : aw_G D cA base ad σ d s H locs) : W p l e rm_L_areSo s m args below meth c H locs cells slots (aw_Ej D cA base ad σ below args s 66 4224 z) (F0 m 289 ls []) := by
  have hx := X.1; have hb := X.2.1; have hml := X.2.2.1; have hown := X.2.2.2.1
  unfold f_L_areSo_J289 at hf
  refine lv_iconst (v := (0 : Int32)) hx hb dL_areSo_289 (by decide) ?_
  exact w_L_areSo_J290 X hst (nb206 := nb206) hf ⟨by omega, by omega⟩ hkb206 (lv_sub hl [0, 1, 2, 3, 4, 5, 6, 7, 8, 9, 10, 11, 12, 13, 14, 15] rfl) G
set_option maxHeartbeats 4000000 in
set_option maxRecDepth 100000 in
theorem w_L_areSo_B206 {z : Int32 × Dt} (X : aw_X p c cL_areSo 23 s RL m meth (some .boolean)) (hst : l.stackTraces = false) {kb206 : Int32 → Int32 → Int32 → Int32 → Dt → Option (Int32 × Dt)} {k206 : Int32 → Int32 → Int32 → Dt → Option (Int32 × Dt)} {x0 : Nat} {x1 : Nat} {x2 : Nat} {x3 : Nat} {x4 : Nat} {x5 : Nat} {x6 : Nat} {x7 : Nat} {x8 : Nat} {x11 : Nat} {x12 : Nat} {x13 : Int32} {x14 : Int32} {x15 : Int32} {x16 : Int32} {d : Dt} (hf : f_L_areSo_B206 σ kb206 k206 x0 x1 x2 x3 x4 x5 x6 x7 x8 x11 x12 x13 x14 x15 x16 d = some z) {nb206 cells slots : Nat} (hB : cells + (17 + nb206 * 4) ≤ 66 ∧ slots + 64 * (17 + nb206 * 4) ≤ 4224) (hkb206 : ∀ (y13 : Int32) (y14 : Int32) (y15 : Int32) (y16 : Int32) (d : Dt), kb206 y13 y14 y15 y16 d = some z → ∀ (cells slots : Nat), cells + (13 + nb206 * 4) ≤ 66 ∧ slots + 64 * (13 + nb206 * 4) ≤ 4224 → ∀ (H : Heap) (locs : List Loc) (ls : Array Slot), lv_has ls 23 [(0, .ref (ad x0)), (1, .ref (ad x1)), (2, .ref (ad x2)), (3, .ref (ad x3)), (4, .ref (ad x4)), (5, .ref (ad x5)), (6, .ref (ad x6)), (7, .ref (ad x7)), (8, .ref (ad x8)), (11, .ref (ad x11)), (12, .ref (ad x12)), (13, .int y13), (14, .int y14), (15, .int y15), (16, .int y16)] → aw_G D cA base ad σ d s H locs → W p l e rm_L_areSo s m args below meth c H locs cells slots (aw_Ej D cA base ad σ below args s 66 4224 z) (F0 m 206 ls [])) (hk206 : ∀ (y13 : Int32) (y14 : Int32) (y15 : Int32) (d : Dt), k206 y13 y14 y15 d = some z → ∀ (cells slots : Nat), cells + (13) ≤ 66 ∧ slots + 64 * (13) ≤ 4224 → ∀ (H : Heap) (locs : List Loc) (ls : Array Slot), lv_has ls 23 [(0, .ref (ad x0)), (1, .ref (ad x1)), (2, .ref (ad x2)), (3, .ref (ad x3)), (4, .ref (ad x4)), (5, .ref (ad x5)), (8, .ref (ad x8)), (11, .ref (ad x11)), (12, .ref (ad x12)), (13, .int y13), (14, .int y14), (15, .int y15)] → aw_G D cA base ad σ d s H locs → W p l e rm_L_areSo s m args below meth c H locs cells slots (aw_Ej D cA base ad σ below args s 66 4224 z) (F0 m 333 ls [])) {H : Heap} {locs : List Loc} {ls : Array Slot} (hl : lv_has ls 23 [(0, .ref (ad x0)), (1, .ref (ad x1)), (2, .ref (ad x2)), (3, .ref (ad x3)), (4, .ref (ad x4)), (5, .ref (ad x5)), (6, .ref (ad x6)), (7, .ref (ad x7)), (8, .ref (ad x8)), (11, .ref (ad x11)), (12, .ref (ad x12)), (13, .int x13), (14, .int x14), (15, .int x15), (16, .int x16)]) (G : aw_G D cA base ad σ d s H locs) : W p l e rm_L_areSo s m args below meth c H locs cells slots (aw_Ej D cA base ad σ below args s 66 4224 z) (F0 m 206 ls []) := by
  have hx := X.1; have hb := X.2.1; have hml := X.2.2.1; have hown := X.2.2.2.1
  unfold f_L_areSo_B206 at hf
  refine lv_iload hx hb dL_areSo_206 (lv_at hl 14 rfl) ?_
  refine lv_iconst (v := (4 : Int32)) hx hb dL_areSo_208 (by decide) ?_
  refine lv_icmp_ge (tgt := 333) hx hb dL_areSo_209 (by decide) (fun hc => ?_) (fun hc => ?_)
  · have hf := aw_ite_t hc hf
    exact hk206 _ _ _ _ hf _ _ ⟨by omega, by omega⟩ _ _ _ (lv_sub hl [0, 1, 2, 3, 4, 5, 8, 9, 10, 11, 12, 13] rfl) G
  · have hf := aw_ite_f hc hf
    refine lv_iload hx hb dL_areSo_212 (lv_at hl 11 rfl) ?_
    refine lv_if_eq (tgt := 333) hx hb dL_areSo_214 (by decide) (fun hc => ?_) (fun hc => ?_)
    · have hf := aw_ite_t hc hf
      exact hk206 _ _ _ _ hf _ _ ⟨by omega, by omega⟩ _ _ _ (lv_sub hl [0, 1, 2, 3, 4, 5, 8, 9, 10, 11, 12, 13] rfl) G
    · have hf := aw_ite_f hc hf
      refine lv_aload_n hx hb dL_areSo_217 rfl (lv_at hl 1 rfl) ?_
      refine lv_aload_n hx hb dL_areSo_218 rfl (lv_at hl 2 rfl) ?_
      refine lv_aload_n hx hb dL_areSo_219 rfl (lv_at hl 3 rfl) ?_
      refine lv_aload hx hb dL_areSo_220 (lv_at hl 4 rfl) ?_
      refine lv_aload hx hb dL_areSo_222 (lv_at hl 6 rfl) ?_
      refine lv_aload hx hb dL_areSo_224 (lv_at hl 7 rfl) ?_
      refine lv_aload hx hb dL_areSo_226 (lv_at hl 8 rfl) ?_
      refine lv_iload hx hb dL_areSo_228 (lv_at hl 14 rfl) ?_
      refine lv_aload hx hb dL_areSo_230 (lv_at hl 9 rfl) ?_
      refine lv_aload hx hb dL_areSo_232 (lv_at hl 10 rfl) ?_
      obtain ⟨z_7, hz_8, hf⟩ := aw_bind_some hf
      refine aw_SI (As := [.ref (ad x1), .ref (ad x2), .ref (ad x3), .ref (ad x4), .ref (ad x6), .ref (ad x7), .ref (ad x8), .int x16, .ref (ad x11), .ref (ad x12)]) (rest := []) X G hl.1 cr_L_180 (c_L_score l hz_8) ⟨rfl, rfl⟩ rfl rfl rfl ⟨(Nat.le_of_ble_eq_true rfl), (Nat.le_of_ble_eq_true rfl)⟩ (Nat.le_of_ble_eq_true rfl) dL_areSo_234 ⟨by show cells + 0 ≤ 66; omega, by show slots + 0 ≤ 4224; omega⟩ (fun H locs G => ?_)
      refine lv_istore (lv' := [(17, .int z_7.1), (0, .ref (ad x0)), (1, .ref (ad x1)), (2, .ref (ad x2)), (3, .ref (ad x3)), (4, .ref (ad x4)), (5, .ref (ad x5)), (6, .ref (ad x6)), (7, .ref (ad x7)), (8, .ref (ad x8)), (11, .ref (ad x11)), (12, .ref (ad x12)), (13, .int x13), (14, .int x14), (15, .int x15), (16, .int x16)]) hx hb dL_areSo_237 hl (by decide) rfl (fun ls hl => ?_)
      refine lv_aload_n hx hb dL_areSo_239 rfl (lv_at hl 2 rfl) ?_
      refine lv_aload_n hx hb dL_areSo_240 rfl (lv_at hl 3 rfl) ?_
      refine lv_aload_n hx hb dL_areSo_241 rfl (lv_at hl 4 rfl) ?_
      refine lv_aload hx hb dL_areSo_242 (lv_at hl 6 rfl) ?_
      refine lv_aload hx hb dL_areSo_244 (lv_at hl 7 rfl) ?_
      refine lv_aload hx hb dL_areSo_246 (lv_at hl 8 rfl) ?_
      refine lv_aload hx hb dL_areSo_248 (lv_at hl 9 rfl) ?_
      refine lv_iload hx hb dL_areSo_250 (lv_at hl 15 rfl) ?_
      refine lv_aload hx hb dL_areSo_252 (lv_at hl 10 rfl) ?_
      refine lv_aload hx hb dL_areSo_254 (lv_at hl 11 rfl) ?_
      obtain ⟨z_9, hz_10, hf⟩ := aw_bind_some hf
      refine aw_SI (As := [.ref (ad x1), .ref (ad x2), .ref (ad x3), .ref (ad x5), .ref (ad x6), .ref (ad x7), .ref (ad x8), .int x16, .ref (ad x11), .ref (ad x12)]) (rest := []) X G hl.1 cr_L_180 (c_L_score l hz_10) ⟨rfl, rfl⟩ rfl rfl rfl ⟨(Nat.le_of_ble_eq_true rfl), (Nat.le_of_ble_eq_true rfl)⟩ (Nat.le_of_ble_eq_true rfl) dL_areSo_256 ⟨by show cells + 0 ≤ 66; omega, by show slots + 0 ≤ 4224; omega⟩ (fun H locs G => ?_)
      refine lv_istore (lv' := [(18, .int z_9.1), (17, .int z_7.1), (0, .ref (ad x0)), (1, .ref (ad x1)), (2, .ref (ad x2)), (3, .ref (ad x3)), (4, .ref (ad x4)), (5, .ref (ad x5)), (6, .ref (ad x6)), (7, .ref (ad x7)), (8, .ref (ad x8)), (11, .ref (ad x11)), (12, .ref (ad x12)), (13, .int x13), (14, .int x14), (15, .int x15), (16, .int x16)]) hx hb dL_areSo_259 hl (by decide) rfl (fun ls hl => ?_)
      refine lv_aload_n hx hb dL_areSo_261 rfl (lv_at hl 2 rfl) ?_
      refine lv_iload hx hb dL_areSo_262 (lv_at hl 16 rfl) ?_
      refine lv_iconst (v := (0 : Int32)) hx hb dL_areSo_264 (by decide) ?_
      obtain ⟨hc_11, hf⟩ := aw_chk_some hf
      obtain ⟨z_12, hz_13, hf⟩ := aw_bind_some hf
      obtain ⟨v_14, hv_15, hf⟩ := aw_nt_some hf
      refine aw_CXI (As := [.int x16, .int ((0 : Int32))]) (rest := []) X G hl.1 cr_L_184 (c_X10_score l hst hz_13) rfl rfl rfl (by decide) hc_11 rfl ⟨(Nat.le_of_ble_eq_true rfl), (Nat.le_of_ble_eq_true rfl)⟩ (Nat.le_of_ble_eq_true rfl) dL_areSo_265 2 12 ⟨(Nat.le_of_ble_eq_true rfl), (Nat.le_of_ble_eq_true rfl)⟩ ⟨by show cells + 2 ≤ 66; omega, by show slots + 12 ≤ 4224; omega⟩ hv_15 (fun H locs G => ?_)
      refine lv_iload hx hb dL_areSo_268 (lv_at hl 1 rfl) ?_
      refine lv_icmp_ne (tgt := 289) hx hb dL_areSo_270 (by decide) (fun hc => ?_) (fun hc => ?_)
      · have hf := aw_ite_f hc hf
        exact w_L_areSo_J289 X hst (nb206 := nb206) hf ⟨by omega, by omega⟩ hkb206 (lv_sub hl [2, 3, 4, 5, 6, 7, 8, 9, 10, 11, 12, 14, 15, 16, 1, 0] rfl) G
      · have hf := aw_ite_t hc hf
        refine lv_aload_n hx hb dL_areSo_273 rfl (lv_at hl 2 rfl) ?_
        refine lv_iload hx hb dL_areSo_274 (lv_at hl 16 rfl) ?_
        refine lv_iconst (v := (1 : Int32)) hx hb dL_areSo_276 (by decide) ?_
        obtain ⟨z_18, hz_19, hf⟩ := aw_bind_some hf
        obtain ⟨v_20, hv_21, hf⟩ := aw_nt_some hf
        refine aw_CXI (As := [.int x16, .int ((1 : Int32))]) (rest := []) X G hl.1 cr_L_184 (c_X10_score l hst hz_19) rfl rfl rfl (by decide) hc_11 rfl ⟨(Nat.le_of_ble_eq_true rfl), (Nat.le_of_ble_eq_true rfl)⟩ (Nat.le_of_ble_eq_true rfl) dL_areSo_277 2 12 ⟨(Nat.le_of_ble_eq_true rfl), (Nat.le_of_ble_eq_true rfl)⟩ ⟨by show cells + 2 + 2 ≤ 66; omega, by show slots + 12 + 12 ≤ 4224; omega⟩ hv_21 (fun H locs G => ?_)
        refine lv_iload hx hb dL_areSo_280 (lv_at hl 0 rfl) ?_
        refine lv_icmp_ne (tgt := 289) hx hb dL_areSo_282 (by decide) (fun hc => ?_) (fun hc => ?_)
        · have hf := aw_ite_f hc hf
          exact w_L_areSo_J289 X hst (nb206 := nb206) hf ⟨by omega, by omega⟩ hkb206 (lv_sub hl [2, 3, 4, 5, 6, 7, 8, 9, 10, 11, 12, 14, 15, 16, 1, 0] rfl) G
        · have hf := aw_ite_t hc hf
          refine lv_iconst (v := (1 : Int32)) hx hb dL_areSo_285 (by decide) ?_
          refine lv_goto (tgt := 290) hx hb dL_areSo_286 (by decide) ?_
          exact w_L_areSo_J290 X hst (nb206 := nb206) hf ⟨by omega, by omega⟩ hkb206 (lv_sub hl [2, 3, 4, 5, 6, 7, 8, 9, 10, 11, 12, 14, 15, 16, 1, 0] rfl) G
theorem w_L_areSo_L206 {z : Int32 × Dt} (X : aw_X p c cL_areSo 23 s RL m meth (some .boolean)) (hst : l.stackTraces = false) {k206 : Int32 → Int32 → Int32 → Dt → Option (Int32 × Dt)} {x0 : Nat} {x1 : Nat} {x2 : Nat} {x3 : Nat} {x4 : Nat} {x5 : Nat} {x6 : Nat} {x7 : Nat} {x8 : Nat} {x11 : Nat} {x12 : Nat} (n : Nat) {x13 : Int32} {x14 : Int32} {x15 : Int32} {x16 : Int32} {d : Dt} (hf : f_L_areSo_L206 σ n k206 x0 x1 x2 x3 x4 x5 x6 x7 x8 x11 x12 x13 x14 x15 x16 d = some z) { cells slots : Nat} (hB : cells + (13 + n * 4) ≤ 66 ∧ slots + 64 * (13 + n * 4) ≤ 4224) (hk206 : ∀ (y13 : Int32) (y14 : Int32) (y15 : Int32) (d : Dt), k206 y13 y14 y15 d = some z → ∀ (cells slots : Nat), cells + (13) ≤ 66 ∧ slots + 64 * (13) ≤ 4224 → ∀ (H : Heap) (locs : List Loc) (ls : Array Slot), lv_has ls 23 [(0, .ref (ad x0)), (1, .ref (ad x1)), (2, .ref (ad x2)), (3, .ref (ad x3)), (4, .ref (ad x4)), (5, .ref (ad x5)), (8, .ref (ad x8)), (11, .ref (ad x11)), (12, .ref (ad x12)), (13, .int y13), (14, .int y14), (15, .int y15)] → aw_G D cA base ad σ d s H locs → W p l e rm_L_areSo s m args below meth c H locs cells slots (aw_Ej D cA base ad σ below args s 66 4224 z) (F0 m 333 ls [])) {H : Heap} {locs : List Loc} {ls : Array Slot} (hl : lv_has ls 23 [(0, .ref (ad x0)), (1, .ref (ad x1)), (2, .ref (ad x2)), (3, .ref (ad x3)), (4, .ref (ad x4)), (5, .ref (ad x5)), (6, .ref (ad x6)), (7, .ref (ad x7)), (8, .ref (ad x8)), (11, .ref (ad x11)), (12, .ref (ad x12)), (13, .int x13), (14, .int x14), (15, .int x15), (16, .int x16)]) (G : aw_G D cA base ad σ d s H locs) : W p l e rm_L_areSo s m args below meth c H locs cells slots (aw_Ej D cA base ad σ below args s 66 4224 z) (F0 m 206 ls []) := by
  induction n generalizing x13 x14 x15 x16 d cells slots H locs ls with
  | zero => exact absurd (show (none : Option (Int32 × Dt)) = some z from hf) (by simp)
  | succ n ih => exact w_L_areSo_B206 X hst (nb206 := n) (kb206 := f_L_areSo_L206 σ n k206 x0 x1 x2 x3 x4 x5 x6 x7 x8 x11 x12) hf ⟨by omega, by omega⟩  (fun x13 x14 x15 x16 d hf cells slots hB H locs ls hl G => ih hf hB hl G) hk206 hl G
set_option maxHeartbeats 4000000 in
set_option maxRecDepth 100000 in
theorem w_L_areSo_J585 {z : Int32 × Dt} (X : aw_X p c cL_areSo 23 s RL m meth (some .boolean)) (hst : l.stackTraces = false) {kb498 : Int32 → Int32 → Int32 → Dt → Option (Int32 × Dt)} {t0 : Int32} {x0 : Nat} {x2 : Nat} {x8 : Nat} {x11 : Nat} {x12 : Nat} {x13 : Int32} {x16 : Int32} {x17 : Int32} {x18 : Int32} {x19 : Int32} {x20 : Int32} {x22 : Int32} {d : Dt} (hf : f_L_areSo_J585 σ kb498 t0 x0 x2 x8 x11 x12 x13 x16 x17 x18 x19 x20 x22 d = some z) { cells slots : Nat} (hB : cells + (10) ≤ 66 ∧ slots + 64 * (10) ≤ 4224) (hkb498 : ∀ (y20 : Int32) (y21 : Int32) (y22 : Int32) (d : Dt), kb498 y20 y21 y22 d = some z → ∀ (cells slots : Nat), cells + (10) ≤ 66 ∧ slots + 64 * (10) ≤ 4224 → ∀ (H : Heap) (locs : List Loc) (ls : Array Slot), lv_has ls 23 [(0, .ref (ad x0)), (2, .ref (ad x2)), (8, .ref (ad x8)), (11, .ref (ad x11)), (12, .ref (ad x12)), (13, .int x13), (16, .int x16), (17, .int x17), (18, .int x18), (19, .int x19), (20, .int y20), (21, .int y21), (22, .int y22)] → aw_G D cA base ad σ d s H locs → W p l e rm_L_areSo s m args below meth c H locs cells slots (aw_Ej D cA base ad σ below args s 66 4224 z) (F0 m 498 ls [])) {H : Heap} {locs : List Loc} {ls : Array Slot} (hl : lv_has ls 23 [(0, .ref (ad x0)), (2, .ref (ad x2)), (8, .ref (ad x8)), (11, .ref (ad x11)), (12, .ref (ad x12)), (13, .int x13), (16, .int x16), (17, .int x17), (18, .int x18), (19, .int x19), (20, .int x20), (22, .int x22)]) (G : aw_G D cA base ad σ d s H locs) : W p l e rm_L_areSo s m args below meth c H locs cells slots (aw_Ej D cA base ad σ below args s 66 4224 z) (F0 m 585 ls [.int t0]) := by
  have hx := X.1; have hb := X.2.1; have hml := X.2.2.1; have hown := X.2.2.2.1
  unfold f_L_areSo_J585 at hf
  refine lv_istore (lv' := [(21, .int t0), (0, .ref (ad x0)), (2, .ref (ad x2)), (8, .ref (ad x8)), (11, .ref (ad x11)), (12, .ref (ad x12)), (13, .int x13), (16, .int x16), (17, .int x17), (18, .int x18), (19, .int x19), (20, .int x20), (22, .int x22)]) hx hb dL_areSo_585 hl (by decide) rfl (fun ls hl => ?_)
  refine lv_iinc (v := x22 + 1) (lv' := [(22, .int (x22 + 1)), (21, .int t0), (0, .ref (ad x0)), (2, .ref (ad x2)), (8, .ref (ad x8)), (11, .ref (ad x11)), (12, .ref (ad x12)), (13, .int x13), (16, .int x16), (17, .int x17), (18, .int x18), (19, .int x19), (20, .int x20)]) hx hb dL_areSo_587 hl (k := 12) rfl rfl (by decide) rfl (fun ls hl => ?_)
  refine lv_goto (tgt := 498) hx hb dL_areSo_590 (by decide) ?_
  exact hkb498 _ _ _ _ hf _ _ ⟨by omega, by omega⟩ _ _ _ (lv_sub hl [2, 3, 4, 5, 6, 7, 8, 9, 10, 11, 12, 1, 0] rfl) G
set_option maxHeartbeats 4000000 in
set_option maxRecDepth 100000 in
theorem w_L_areSo_J580 {z : Int32 × Dt} (X : aw_X p c cL_areSo 23 s RL m meth (some .boolean)) (hst : l.stackTraces = false) {kb498 : Int32 → Int32 → Int32 → Dt → Option (Int32 × Dt)} {x0 : Nat} {x2 : Nat} {x8 : Nat} {x11 : Nat} {x12 : Nat} {x13 : Int32} {x16 : Int32} {x17 : Int32} {x18 : Int32} {x19 : Int32} {x20 : Int32} {x22 : Int32} {d : Dt} (hf : f_L_areSo_J580 σ kb498 x0 x2 x8 x11 x12 x13 x16 x17 x18 x19 x20 x22 d = some z) { cells slots : Nat} (hB : cells + (10) ≤ 66 ∧ slots + 64 * (10) ≤ 4224) (hkb498 : ∀ (y20 : Int32) (y21 : Int32) (y22 : Int32) (d : Dt), kb498 y20 y21 y22 d = some z → ∀ (cells slots : Nat), cells + (10) ≤ 66 ∧ slots + 64 * (10) ≤ 4224 → ∀ (H : Heap) (locs : List Loc) (ls : Array Slot), lv_has ls 23 [(0, .ref (ad x0)), (2, .ref (ad x2)), (8, .ref (ad x8)), (11, .ref (ad x11)), (12, .ref (ad x12)), (13, .int x13), (16, .int x16), (17, .int x17), (18, .int x18), (19, .int x19), (20, .int y20), (21, .int y21), (22, .int y22)] → aw_G D cA base ad σ d s H locs → W p l e rm_L_areSo s m args below meth c H locs cells slots (aw_Ej D cA base ad σ below args s 66 4224 z) (F0 m 498 ls [])) {H : Heap} {locs : List Loc} {ls : Array Slot} (hl : lv_has ls 23 [(0, .ref (ad x0)), (2, .ref (ad x2)), (8, .ref (ad x8)), (11, .ref (ad x11)), (12, .ref (ad x12)), (13, .int x13), (16, .int x16), (17, .int x17), (18, .int x18), (19, .int x19), (20, .int x20), (22, .int x22)]) (G : aw_G D cA base ad σ d s H locs) : W p l e rm_L_areSo s m args below meth c H locs cells slots (aw_Ej D cA base ad σ below args s 66 4224 z) (F0 m 580 ls []) := by
  have hx := X.1; have hb := X.2.1; have hml := X.2.2.1; have hown := X.2.2.2.1
  unfold f_L_areSo_J580 at hf
  refine lv_iconst (v := (1 : Int32)) hx hb dL_areSo_580 (by decide) ?_
  refine lv_goto (tgt := 585) hx hb dL_areSo_581 (by decide) ?_
  exact w_L_areSo_J585 X hst hf ⟨by omega, by omega⟩ hkb498 (lv_sub hl [0, 1, 2, 3, 4, 5, 6, 7, 8, 9, 10, 11] rfl) G
set_option maxHeartbeats 4000000 in
set_option maxRecDepth 100000 in
theorem w_L_areSo_J584 {z : Int32 × Dt} (X : aw_X p c cL_areSo 23 s RL m meth (some .boolean)) (hst : l.stackTraces = false) {kb498 : Int32 → Int32 → Int32 → Dt → Option (Int32 × Dt)} {x0 : Nat} {x2 : Nat} {x8 : Nat} {x11 : Nat} {x12 : Nat} {x13 : Int32} {x16 : Int32} {x17 : Int32} {x18 : Int32} {x19 : Int32} {x20 : Int32} {x22 : Int32} {d : Dt} (hf : f_L_areSo_J584 σ kb498 x0 x2 x8 x11 x12 x13 x16 x17 x18 x19 x20 x22 d = some z) { cells slots : Nat} (hB : cells + (10) ≤ 66 ∧ slots + 64 * (10) ≤ 4224) (hkb498 : ∀ (y20 : Int32) (y21 : Int32) (y22 : Int32) (d : Dt), kb498 y20 y21 y22 d = some z → ∀ (cells slots : Nat), cells + (10) ≤ 66 ∧ slots + 64 * (10) ≤ 4224 → ∀ (H : Heap) (locs : List Loc) (ls : Array Slot), lv_has ls 23 [(0, .ref (ad x0)), (2, .ref (ad x2)), (8, .ref (ad x8)), (11, .ref (ad x11)), (12, .ref (ad x12)), (13, .int x13), (16, .int x16), (17, .int x17), (18, .int x18), (19, .int x19), (20, .int y20), (21, .int y21), (22, .int y22)] → aw_G D cA base ad σ d s H locs → W p l e rm_L_areSo s m args below meth c H locs cells slots (aw_Ej D cA base ad σ below args s 66 4224 z) (F0 m 498 ls [])) {H : Heap} {locs : List Loc} {ls : Array Slot} (hl : lv_has ls 23 [(0, .ref (ad x0)), (2, .ref (ad x2)), (8, .ref (ad x8)), (11, .ref (ad x11)), (12, .ref (ad x12)), (13, .int x13), (16, .int x16), (17, .int x17), (18, .int x18), (19, .int x19), (20, .int x20), (22, .int x22)]) (G : aw_G D cA base ad σ d s H locs) : W p l e rm_L_areSo s m args below meth c H locs cells slots (aw_Ej D cA base ad σ below args s 66 4224 z) (F0 m 584 ls []) := by
  have hx := X.1; have hb := X.2.1; have hml := X.2.2.1; have hown := X.2.2.2.1
  unfold f_L_areSo_J584 at hf
  refine lv_iconst (v := (0 : Int32)) hx hb dL_areSo_584 (by decide) ?_
  exact w_L_areSo_J585 X hst hf ⟨by omega, by omega⟩ hkb498 (lv_sub hl [0, 1, 2, 3, 4, 5, 6, 7, 8, 9, 10, 11] rfl) G
set_option maxHeartbeats 4000000 in
set_option maxRecDepth 100000 in
theorem w_L_areSo_J545 {z : Int32 × Dt} (X : aw_X p c cL_areSo 23 s RL m meth (some .boolean)) (hst : l.stackTraces = false) {kb498 : Int32 → Int32 → Int32 → Dt → Option (Int32 × Dt)} {t0 : Int32} {x0 : Nat} {x2 : Nat} {x8 : Nat} {x11 : Nat} {x12 : Nat} {x13 : Int32} {x16 : Int32} {x17 : Int32} {x18 : Int32} {x19 : Int32} {x21 : Int32} {x22 : Int32} {d : Dt} (hf : f_L_areSo_J545 σ kb498 t0 x0 x2 x8 x11 x12 x13 x16 x17 x18 x19 x21 x22 d = some z) { cells slots : Nat} (hB : cells + (10) ≤ 66 ∧ slots + 64 * (10) ≤ 4224) (hkb498 : ∀ (y20 : Int32) (y21 : Int32) (y22 : Int32) (d : Dt), kb498 y20 y21 y22 d = some z → ∀ (cells slots : Nat), cells + (10) ≤ 66 ∧ slots + 64 * (10) ≤ 4224 → ∀ (H : Heap) (locs : List Loc) (ls : Array Slot), lv_has ls 23 [(0, .ref (ad x0)), (2, .ref (ad x2)), (8, .ref (ad x8)), (11, .ref (ad x11)), (12, .ref (ad x12)), (13, .int x13), (16, .int x16), (17, .int x17), (18, .int x18), (19, .int x19), (20, .int y20), (21, .int y21), (22, .int y22)] → aw_G D cA base ad σ d s H locs → W p l e rm_L_areSo s m args below meth c H locs cells slots (aw_Ej D cA base ad σ below args s 66 4224 z) (F0 m 498 ls [])) {H : Heap} {locs : List Loc} {ls : Array Slot} (hl : lv_has ls 23 [(0, .ref (ad x0)), (2, .ref (ad x2)), (8, .ref (ad x8)), (11, .ref (ad x11)), (12, .ref (ad x12)), (13, .int x13), (16, .int x16), (17, .int x17), (18, .int x18), (19, .int x19), (21, .int x21), (22, .int x22)]) (G : aw_G D cA base ad σ d s H locs) : W p l e rm_L_areSo s m args below meth c H locs cells slots (aw_Ej D cA base ad σ below args s 66 4224 z) (F0 m 545 ls [.int t0]) := by
  have hx := X.1; have hb := X.2.1; have hml := X.2.2.1; have hown := X.2.2.2.1
  unfold f_L_areSo_J545 at hf
  refine lv_istore (lv' := [(20, .int t0), (0, .ref (ad x0)), (2, .ref (ad x2)), (8, .ref (ad x8)), (11, .ref (ad x11)), (12, .ref (ad x12)), (13, .int x13), (16, .int x16), (17, .int x17), (18, .int x18), (19, .int x19), (21, .int x21), (22, .int x22)]) hx hb dL_areSo_545 hl (by decide) rfl (fun ls hl => ?_)
  refine lv_iload hx hb dL_areSo_547 (lv_at hl 11 rfl) ?_
  refine lv_if_ne (tgt := 580) hx hb dL_areSo_549 (by decide) (fun hc => ?_) (fun hc => ?_)
  · have hf := aw_ite_f hc hf
    exact w_L_areSo_J580 X hst hf ⟨by omega, by omega⟩ hkb498 (lv_sub hl [1, 2, 3, 4, 5, 6, 7, 8, 9, 10, 0, 12] rfl) G
  · have hf := aw_ite_t hc hf
    refine lv_aload hx hb dL_areSo_552 (lv_at hl 5 rfl) ?_
    refine lv_iload hx hb dL_areSo_554 (lv_at hl 10 rfl) ?_
    refine lv_aload hx hb dL_areSo_556 (lv_at hl 5 rfl) ?_
    refine lv_iload hx hb dL_areSo_558 (lv_at hl 12 rfl) ?_
    obtain ⟨z_34, hz_35, hf⟩ := aw_bind_some hf
    refine aw_SI (As := [.ref (ad x12), .int x19, .ref (ad x12), .int x22]) (rest := []) X G hl.1 cr_L_89 (c_L_areAlike l hz_35) ⟨rfl, rfl⟩ rfl rfl rfl ⟨(Nat.le_of_ble_eq_true rfl), (Nat.le_of_ble_eq_true rfl)⟩ (Nat.le_of_ble_eq_true rfl) dL_areSo_560 ⟨by show cells + 0 ≤ 66; omega, by show slots + 0 ≤ 4224; omega⟩ (fun H locs G => ?_)
    refine lv_if_eq (tgt := 584) hx hb dL_areSo_563 (by decide) (fun hc => ?_) (fun hc => ?_)
    · have hf := aw_ite_t hc hf
      exact w_L_areSo_J584 X hst hf ⟨by omega, by omega⟩ hkb498 (lv_sub hl [1, 2, 3, 4, 5, 6, 7, 8, 9, 10, 0, 12] rfl) G
    · have hf := aw_ite_f hc hf
      refine lv_aload hx hb dL_areSo_566 (lv_at hl 4 rfl) ?_
      refine lv_iload hx hb dL_areSo_568 (lv_at hl 10 rfl) ?_
      refine lv_aload hx hb dL_areSo_570 (lv_at hl 4 rfl) ?_
      refine lv_iload hx hb dL_areSo_572 (lv_at hl 12 rfl) ?_
      obtain ⟨z_36, hz_37, hf⟩ := aw_bind_some hf
      refine aw_SI (As := [.ref (ad x11), .int x19, .ref (ad x11), .int x22]) (rest := []) X G hl.1 cr_L_89 (c_L_areAlike l hz_37) ⟨rfl, rfl⟩ rfl rfl rfl ⟨(Nat.le_of_ble_eq_true rfl), (Nat.le_of_ble_eq_true rfl)⟩ (Nat.le_of_ble_eq_true rfl) dL_areSo_574 ⟨by show cells + 0 ≤ 66; omega, by show slots + 0 ≤ 4224; omega⟩ (fun H locs G => ?_)
      refine lv_if_ne (tgt := 584) hx hb dL_areSo_577 (by decide) (fun hc => ?_) (fun hc => ?_)
      · have hf := aw_ite_f hc hf
        exact w_L_areSo_J584 X hst hf ⟨by omega, by omega⟩ hkb498 (lv_sub hl [1, 2, 3, 4, 5, 6, 7, 8, 9, 10, 0, 12] rfl) G
      · have hf := aw_ite_t hc hf
        exact w_L_areSo_J580 X hst hf ⟨by omega, by omega⟩ hkb498 (lv_sub hl [1, 2, 3, 4, 5, 6, 7, 8, 9, 10, 0, 12] rfl) G
set_option maxHeartbeats 4000000 in
set_option maxRecDepth 100000 in
theorem w_L_areSo_J540 {z : Int32 × Dt} (X : aw_X p c cL_areSo 23 s RL m meth (some .boolean)) (hst : l.stackTraces = false) {kb498 : Int32 → Int32 → Int32 → Dt → Option (Int32 × Dt)} {x0 : Nat} {x2 : Nat} {x8 : Nat} {x11 : Nat} {x12 : Nat} {x13 : Int32} {x16 : Int32} {x17 : Int32} {x18 : Int32} {x19 : Int32} {x21 : Int32} {x22 : Int32} {d : Dt} (hf : f_L_areSo_J540 σ kb498 x0 x2 x8 x11 x12 x13 x16 x17 x18 x19 x21 x22 d = some z) { cells slots : Nat} (hB : cells + (10) ≤ 66 ∧ slots + 64 * (10) ≤ 4224) (hkb498 : ∀ (y20 : Int32) (y21 : Int32) (y22 : Int32) (d : Dt), kb498 y20 y21 y22 d = some z → ∀ (cells slots : Nat), cells + (10) ≤ 66 ∧ slots + 64 * (10) ≤ 4224 → ∀ (H : Heap) (locs : List Loc) (ls : Array Slot), lv_has ls 23 [(0, .ref (ad x0)), (2, .ref (ad x2)), (8, .ref (ad x8)), (11, .ref (ad x11)), (12, .ref (ad x12)), (13, .int x13), (16, .int x16), (17, .int x17), (18, .int x18), (19, .int x19), (20, .int y20), (21, .int y21), (22, .int y22)] → aw_G D cA base ad σ d s H locs → W p l e rm_L_areSo s m args below meth c H locs cells slots (aw_Ej D cA base ad σ below args s 66 4224 z) (F0 m 498 ls [])) {H : Heap} {locs : List Loc} {ls : Array Slot} (hl : lv_has ls 23 [(0, .ref (ad x0)), (2, .ref (ad x2)), (8, .ref (ad x8)), (11, .ref (ad x11)), (12, .ref (ad x12)), (13, .int x13), (16, .int x16), (17, .int x17), (18, .int x18), (19, .int x19), (21, .int x21), (22, .int x22)]) (G : aw_G D cA base ad σ d s H locs) : W p l e rm_L_areSo s m args below meth c H locs cells slots (aw_Ej D cA base ad σ below args s 66 4224 z) (F0 m 540 ls []) := by
  have hx := X.1; have hb := X.2.1; have hml := X.2.2.1; have hown := X.2.2.2.1
  unfold f_L_areSo_J540 at hf
  refine lv_iconst (v := (1 : Int32)) hx hb dL_areSo_540 (by decide) ?_
  refine lv_goto (tgt := 545) hx hb dL_areSo_541 (by decide) ?_
  exact w_L_areSo_J545 X hst hf ⟨by omega, by omega⟩ hkb498 (lv_sub hl [0, 1, 2, 3, 4, 5, 6, 7, 8, 9, 10, 11] rfl) G
set_option maxHeartbeats 4000000 in
set_option maxRecDepth 100000 in
theorem w_L_areSo_J544 {z : Int32 × Dt} (X : aw_X p c cL_areSo 23 s RL m meth (some .boolean)) (hst : l.stackTraces = false) {kb498 : Int32 → Int32 → Int32 → Dt → Option (Int32 × Dt)} {x0 : Nat} {x2 : Nat} {x8 : Nat} {x11 : Nat} {x12 : Nat} {x13 : Int32} {x16 : Int32} {x17 : Int32} {x18 : Int32} {x19 : Int32} {x21 : Int32} {x22 : Int32} {d : Dt} (hf : f_L_areSo_J544 σ kb498 x0 x2 x8 x11 x12 x13 x16 x17 x18 x19 x21 x22 d = some z) { cells slots : Nat} (hB : cells + (10) ≤ 66 ∧ slots + 64 * (10) ≤ 4224) (hkb498 : ∀ (y20 : Int32) (y21 : Int32) (y22 : Int32) (d : Dt), kb498 y20 y21 y22 d = some z → ∀ (cells slots : Nat), cells + (10) ≤ 66 ∧ slots + 64 * (10) ≤ 4224 → ∀ (H : Heap) (locs : List Loc) (ls : Array Slot), lv_has ls 23 [(0, .ref (ad x0)), (2, .ref (ad x2)), (8, .ref (ad x8)), (11, .ref (ad x11)), (12, .ref (ad x12)), (13, .int x13), (16, .int x16), (17, .int x17), (18, .int x18), (19, .int x19), (20, .int y20), (21, .int y21), (22, .int y22)] → aw_G D cA base ad σ d s H locs → W p l e rm_L_areSo s m args below meth c H locs cells slots (aw_Ej D cA base ad σ below args s 66 4224 z) (F0 m 498 ls [])) {H : Heap} {locs : List Loc} {ls : Array Slot} (hl : lv_has ls 23 [(0, .ref (ad x0)), (2, .ref (ad x2)), (8, .ref (ad x8)), (11, .ref (ad x11)), (12, .ref (ad x12)), (13, .int x13), (16, .int x16), (17, .int x17), (18, .int x18), (19, .int x19), (21, .int x21), (22, .int x22)]) (G : aw_G D cA base ad σ d s H locs) : W p l e rm_L_areSo s m args below meth c H locs cells slots (aw_Ej D cA base ad σ below args s 66 4224 z) (F0 m 544 ls []) := by
  have hx := X.1; have hb := X.2.1; have hml := X.2.2.1; have hown := X.2.2.2.1
  unfold f_L_areSo_J544 at hf
  refine lv_iconst (v := (0 : Int32)) hx hb dL_areSo_544 (by decide) ?_
  exact w_L_areSo_J545 X hst hf ⟨by omega, by omega⟩ hkb498 (lv_sub hl [0, 1, 2, 3, 4, 5, 6, 7, 8, 9, 10, 11] rfl) G
set_option maxHeartbeats 4000000 in
set_option maxRecDepth 100000 in
theorem w_L_areSo_B498 {z : Int32 × Dt} (X : aw_X p c cL_areSo 23 s RL m meth (some .boolean)) (hst : l.stackTraces = false) {kb498 : Int32 → Int32 → Int32 → Dt → Option (Int32 × Dt)} {k498 : Int32 → Int32 → Dt → Option (Int32 × Dt)} {x0 : Nat} {x2 : Nat} {x8 : Nat} {x11 : Nat} {x12 : Nat} {x13 : Int32} {x16 : Int32} {x17 : Int32} {x18 : Int32} {x19 : Int32} {x20 : Int32} {x21 : Int32} {x22 : Int32} {d : Dt} (hf : f_L_areSo_B498 σ kb498 k498 x0 x2 x8 x11 x12 x13 x16 x17 x18 x19 x20 x21 x22 d = some z) { cells slots : Nat} (hB : cells + (10) ≤ 66 ∧ slots + 64 * (10) ≤ 4224) (hkb498 : ∀ (y20 : Int32) (y21 : Int32) (y22 : Int32) (d : Dt), kb498 y20 y21 y22 d = some z → ∀ (cells slots : Nat), cells + (10) ≤ 66 ∧ slots + 64 * (10) ≤ 4224 → ∀ (H : Heap) (locs : List Loc) (ls : Array Slot), lv_has ls 23 [(0, .ref (ad x0)), (2, .ref (ad x2)), (8, .ref (ad x8)), (11, .ref (ad x11)), (12, .ref (ad x12)), (13, .int x13), (16, .int x16), (17, .int x17), (18, .int x18), (19, .int x19), (20, .int y20), (21, .int y21), (22, .int y22)] → aw_G D cA base ad σ d s H locs → W p l e rm_L_areSo s m args below meth c H locs cells slots (aw_Ej D cA base ad σ below args s 66 4224 z) (F0 m 498 ls [])) (hk498 : ∀ (y20 : Int32) (y21 : Int32) (d : Dt), k498 y20 y21 d = some z → ∀ (cells slots : Nat), cells + (10) ≤ 66 ∧ slots + 64 * (10) ≤ 4224 → ∀ (H : Heap) (locs : List Loc) (ls : Array Slot), lv_has ls 23 [(0, .ref (ad x0)), (2, .ref (ad x2)), (8, .ref (ad x8)), (11, .ref (ad x11)), (12, .ref (ad x12)), (13, .int x13), (16, .int x16), (17, .int x17), (18, .int x18), (19, .int x19), (20, .int y20), (21, .int y21)] → aw_G D cA base ad σ d s H locs → W p l e rm_L_areSo s m args below meth c H locs cells slots (aw_Ej D cA base ad σ below args s 66 4224 z) (F0 m 593 ls [])) {H : Heap} {locs : List Loc} {ls : Array Slot} (hl : lv_has ls 23 [(0, .ref (ad x0)), (2, .ref (ad x2)), (8, .ref (ad x8)), (11, .ref (ad x11)), (12, .ref (ad x12)), (13, .int x13), (16, .int x16), (17, .int x17), (18, .int x18), (19, .int x19), (20, .int x20), (21, .int x21), (22, .int x22)]) (G : aw_G D cA base ad σ d s H locs) : W p l e rm_L_areSo s m args below meth c H locs cells slots (aw_Ej D cA base ad σ below args s 66 4224 z) (F0 m 498 ls []) := by
  have hx := X.1; have hb := X.2.1; have hml := X.2.2.1; have hown := X.2.2.2.1
  unfold f_L_areSo_B498 at hf
  refine lv_iload hx hb dL_areSo_498 (lv_at hl 12 rfl) ?_
  refine lv_aload hx hb dL_areSo_500 (lv_at hl 2 rfl) ?_
  refine lv_iconst (v := (0 : Int32)) hx hb dL_areSo_502 (by decide) ?_
  obtain ⟨hc_33, hf⟩ := aw_chk_some hf
  refine aw_ial hx hb G hc_33 dL_areSo_503 ?_
  refine lv_icmp_ge (tgt := 593) hx hb dL_areSo_504 (by decide) (fun hc => ?_) (fun hc => ?_)
  · have hf := aw_ite_t hc hf
    exact hk498 _ _ _ hf _ _ ⟨by omega, by omega⟩ _ _ _ (lv_sub hl [0, 1, 2, 3, 4, 5, 6, 7, 8, 9, 10, 11] rfl) G
  · have hf := aw_ite_f hc hf
    refine lv_iload hx hb dL_areSo_507 (lv_at hl 10 rfl) ?_
    refine lv_if_ne (tgt := 540) hx hb dL_areSo_509 (by decide) (fun hc => ?_) (fun hc => ?_)
    · have hf := aw_ite_f hc hf
      exact w_L_areSo_J540 X hst hf ⟨by omega, by omega⟩ hkb498 (lv_sub hl [0, 1, 2, 3, 4, 5, 6, 7, 8, 9, 11, 12] rfl) G
    · have hf := aw_ite_t hc hf
      refine lv_aload hx hb dL_areSo_512 (lv_at hl 3 rfl) ?_
      refine lv_iload hx hb dL_areSo_514 (lv_at hl 9 rfl) ?_
      refine lv_aload hx hb dL_areSo_516 (lv_at hl 3 rfl) ?_
      refine lv_iload hx hb dL_areSo_518 (lv_at hl 12 rfl) ?_
      obtain ⟨z_38, hz_39, hf⟩ := aw_bind_some hf
      refine aw_SI (As := [.ref (ad x11), .int x19, .ref (ad x11), .int x22]) (rest := []) X G hl.1 cr_L_89 (c_L_areAlike l hz_39) ⟨rfl, rfl⟩ rfl rfl rfl ⟨(Nat.le_of_ble_eq_true rfl), (Nat.le_of_ble_eq_true rfl)⟩ (Nat.le_of_ble_eq_true rfl) dL_areSo_520 ⟨by show cells + 0 ≤ 66; omega, by show slots + 0 ≤ 4224; omega⟩ (fun H locs G => ?_)
      refine lv_if_eq (tgt := 544) hx hb dL_areSo_523 (by decide) (fun hc => ?_) (fun hc => ?_)
      · have hf := aw_ite_t hc hf
        exact w_L_areSo_J544 X hst hf ⟨by omega, by omega⟩ hkb498 (lv_sub hl [0, 1, 2, 3, 4, 5, 6, 7, 8, 9, 11, 12] rfl) G
      · have hf := aw_ite_f hc hf
        refine lv_aload hx hb dL_areSo_526 (lv_at hl 4 rfl) ?_
        refine lv_iload hx hb dL_areSo_528 (lv_at hl 9 rfl) ?_
        refine lv_aload hx hb dL_areSo_530 (lv_at hl 4 rfl) ?_
        refine lv_iload hx hb dL_areSo_532 (lv_at hl 12 rfl) ?_
        obtain ⟨z_40, hz_41, hf⟩ := aw_bind_some hf
        refine aw_SI (As := [.ref (ad x12), .int x19, .ref (ad x12), .int x22]) (rest := []) X G hl.1 cr_L_89 (c_L_areAlike l hz_41) ⟨rfl, rfl⟩ rfl rfl rfl ⟨(Nat.le_of_ble_eq_true rfl), (Nat.le_of_ble_eq_true rfl)⟩ (Nat.le_of_ble_eq_true rfl) dL_areSo_534 ⟨by show cells + 0 ≤ 66; omega, by show slots + 0 ≤ 4224; omega⟩ (fun H locs G => ?_)
        refine lv_if_ne (tgt := 544) hx hb dL_areSo_537 (by decide) (fun hc => ?_) (fun hc => ?_)
        · have hf := aw_ite_f hc hf
          exact w_L_areSo_J544 X hst hf ⟨by omega, by omega⟩ hkb498 (lv_sub hl [0, 1, 2, 3, 4, 5, 6, 7, 8, 9, 11, 12] rfl) G
        · have hf := aw_ite_t hc hf
          exact w_L_areSo_J540 X hst hf ⟨by omega, by omega⟩ hkb498 (lv_sub hl [0, 1, 2, 3, 4, 5, 6, 7, 8, 9, 11, 12] rfl) G
theorem w_L_areSo_L498 {z : Int32 × Dt} (X : aw_X p c cL_areSo 23 s RL m meth (some .boolean)) (hst : l.stackTraces = false) {k498 : Int32 → Int32 → Dt → Option (Int32 × Dt)} {x0 : Nat} {x2 : Nat} {x8 : Nat} {x11 : Nat} {x12 : Nat} {x13 : Int32} {x16 : Int32} {x17 : Int32} {x18 : Int32} {x19 : Int32} (n : Nat) {x20 : Int32} {x21 : Int32} {x22 : Int32} {d : Dt} (hf : f_L_areSo_L498 σ n k498 x0 x2 x8 x11 x12 x13 x16 x17 x18 x19 x20 x21 x22 d = some z) { cells slots : Nat} (hB : cells + (10) ≤ 66 ∧ slots + 64 * (10) ≤ 4224) (hk498 : ∀ (y20 : Int32) (y21 : Int32) (d : Dt), k498 y20 y21 d = some z → ∀ (cells slots : Nat), cells + (10) ≤ 66 ∧ slots + 64 * (10) ≤ 4224 → ∀ (H : Heap) (locs : List Loc) (ls : Array Slot), lv_has ls 23 [(0, .ref (ad x0)), (2, .ref (ad x2)), (8, .ref (ad x8)), (11, .ref (ad x11)), (12, .ref (ad x12)), (13, .int x13), (16, .int x16), (17, .int x17), (18, .int x18), (19, .int x19), (20, .int y20), (21, .int y21)] → aw_G D cA base ad σ d s H locs → W p l e rm_L_areSo s m args below meth c H locs cells slots (aw_Ej D cA base ad σ below args s 66 4224 z) (F0 m 593 ls [])) {H : Heap} {locs : List Loc} {ls : Array Slot} (hl : lv_has ls 23 [(0, .ref (ad x0)), (2, .ref (ad x2)), (8, .ref (ad x8)), (11, .ref (ad x11)), (12, .ref (ad x12)), (13, .int x13), (16, .int x16), (17, .int x17), (18, .int x18), (19, .int x19), (20, .int x20), (21, .int x21), (22, .int x22)]) (G : aw_G D cA base ad σ d s H locs) : W p l e rm_L_areSo s m args below meth c H locs cells slots (aw_Ej D cA base ad σ below args s 66 4224 z) (F0 m 498 ls []) := by
  induction n generalizing x20 x21 x22 d cells slots H locs ls with
  | zero => exact absurd (show (none : Option (Int32 × Dt)) = some z from hf) (by simp)
  | succ n ih => exact w_L_areSo_B498 X hst (kb498 := f_L_areSo_L498 σ n k498 x0 x2 x8 x11 x12 x13 x16 x17 x18 x19) hf ⟨by omega, by omega⟩  (fun x20 x21 x22 d hf cells slots hB H locs ls hl G => ih hf hB hl G) hk498 hl G
set_option maxHeartbeats 4000000 in
set_option maxRecDepth 100000 in
theorem w_L_areSo_J632 {z : Int32 × Dt} (X : aw_X p c cL_areSo 23 s RL m meth (some .boolean)) (hst : l.stackTraces = false) {kb480 : Int32 → Int32 → Int32 → Int32 → Dt → Option (Int32 × Dt)} {t1 : Int32} {t0 : Int32} {x0 : Nat} {x2 : Nat} {x8 : Nat} {x11 : Nat} {x12 : Nat} {x13 : Int32} {x16 : Int32} {x17 : Int32} {x19 : Int32} {d : Dt} (hf : f_L_areSo_J632 σ kb480 t1 t0 x0 x2 x8 x11 x12 x13 x16 x17 x19 d = some z) { cells slots : Nat} (hB : cells + (10) ≤ 66 ∧ slots + 64 * (10) ≤ 4224) (hkb480 : ∀ (y16 : Int32) (y17 : Int32) (y18 : Int32) (y19 : Int32) (d : Dt), kb480 y16 y17 y18 y19 d = some z → ∀ (cells slots : Nat), cells + (10) ≤ 66 ∧ slots + 64 * (10) ≤ 4224 → ∀ (H : Heap) (locs : List Loc) (ls : Array Slot), lv_has ls 23 [(0, .ref (ad x0)), (2, .ref (ad x2)), (8, .ref (ad x8)), (11, .ref (ad x11)), (12, .ref (ad x12)), (13, .int x13), (16, .int y16), (17, .int y17), (18, .int y18), (19, .int y19)] → aw_G D cA base ad σ d s H locs → W p l e rm_L_areSo s m args below meth c H locs cells slots (aw_Ej D cA base ad σ below args s 66 4224 z) (F0 m 480 ls [])) {H : Heap} {locs : List Loc} {ls : Array Slot} (hl : lv_has ls 23 [(0, .ref (ad x0)), (2, .ref (ad x2)), (8, .ref (ad x8)), (11, .ref (ad x11)), (12, .ref (ad x12)), (13, .int x13), (16, .int x16), (17, .int x17), (19, .int x19)]) (G : aw_G D cA base ad σ d s H locs) : W p l e rm_L_areSo s m args below meth c H locs cells slots (aw_Ej D cA base ad σ below args s 66 4224 z) (F0 m 632 ls [.int t1, .int t0]) := by
  have hx := X.1; have hb := X.2.1; have hml := X.2.2.1; have hown := X.2.2.2.1
  unfold f_L_areSo_J632 at hf
  refine lv_iadd hx hb dL_areSo_632 ?_
  refine lv_istore (lv' := [(18, .int (t0 + t1)), (0, .ref (ad x0)), (2, .ref (ad x2)), (8, .ref (ad x8)), (11, .ref (ad x11)), (12, .ref (ad x12)), (13, .int x13), (16, .int x16), (17, .int x17), (19, .int x19)]) hx hb dL_areSo_633 hl (by decide) rfl (fun ls hl => ?_)
  refine lv_iload hx hb dL_areSo_635 (lv_at hl 7 rfl) ?_
  refine lv_aload_n hx hb dL_areSo_637 rfl (lv_at hl 2 rfl) ?_
  refine lv_bipush (v := (8 : Int32)) hx hb dL_areSo_638 (by decide) ?_
  refine lv_iload hx hb dL_areSo_640 (lv_at hl 9 rfl) ?_
  refine lv_iadd hx hb dL_areSo_642 ?_
  obtain ⟨hc_45, hf⟩ := aw_chk_some hf
  refine aw_ial hx hb G hc_45 dL_areSo_643 ?_
  refine lv_aload_n hx hb dL_areSo_644 rfl (lv_at hl 2 rfl) ?_
  refine lv_aload hx hb dL_areSo_645 (lv_at hl 4 rfl) ?_
  refine lv_iload hx hb dL_areSo_647 (lv_at hl 9 rfl) ?_
  refine lv_aload hx hb dL_areSo_649 (lv_at hl 5 rfl) ?_
  refine lv_iload hx hb dL_areSo_651 (lv_at hl 9 rfl) ?_
  obtain ⟨z_46, hz_47, hf⟩ := aw_bind_some hf
  refine aw_SI (As := [.ref (ad x2), .ref (ad x11), .int x19, .ref (ad x12), .int x19]) (rest := [.int (d.1 x2 (((8 : Int32)) + x19).toNatClampNeg), .int x16]) X G hl.1 cr_L_189 (c_L_way l hz_47) ⟨rfl, rfl⟩ rfl rfl rfl ⟨(Nat.le_of_ble_eq_true rfl), (Nat.le_of_ble_eq_true rfl)⟩ (Nat.le_of_ble_eq_true rfl) dL_areSo_653 ⟨by show cells + 0 ≤ 66; omega, by show slots + 0 ≤ 4224; omega⟩ (fun H locs G => ?_)
  refine lv_imul hx hb dL_areSo_656 ?_
  refine lv_iadd hx hb dL_areSo_657 ?_
  refine lv_istore (lv' := [(16, .int (x16 + ((d.1 x2 (((8 : Int32)) + x19).toNatClampNeg) * z_46.1))), (18, .int (t0 + t1)), (0, .ref (ad x0)), (2, .ref (ad x2)), (8, .ref (ad x8)), (11, .ref (ad x11)), (12, .ref (ad x12)), (13, .int x13), (17, .int x17), (19, .int x19)]) hx hb dL_areSo_658 hl (by decide) rfl (fun ls hl => ?_)
  refine lv_iinc (v := x19 + 1) (lv' := [(19, .int (x19 + 1)), (16, .int (x16 + ((d.1 x2 (((8 : Int32)) + x19).toNatClampNeg) * z_46.1))), (18, .int (t0 + t1)), (0, .ref (ad x0)), (2, .ref (ad x2)), (8, .ref (ad x8)), (11, .ref (ad x11)), (12, .ref (ad x12)), (13, .int x13), (17, .int x17)]) hx hb dL_areSo_660 hl (k := 9) rfl rfl (by decide) rfl (fun ls hl => ?_)
  refine lv_goto (tgt := 480) hx hb dL_areSo_663 (by decide) ?_
  exact hkb480 _ _ _ _ _ hf _ _ ⟨by omega, by omega⟩ _ _ _ (lv_sub hl [3, 4, 5, 6, 7, 8, 1, 9, 2, 0] rfl) G
set_option maxHeartbeats 4000000 in
set_option maxRecDepth 100000 in
theorem w_L_areSo_J611 {z : Int32 × Dt} (X : aw_X p c cL_areSo 23 s RL m meth (some .boolean)) (hst : l.stackTraces = false) {kb480 : Int32 → Int32 → Int32 → Int32 → Dt → Option (Int32 × Dt)} {t1 : Int32} {t0 : Int32} {x0 : Nat} {x2 : Nat} {x8 : Nat} {x11 : Nat} {x12 : Nat} {x13 : Int32} {x16 : Int32} {x18 : Int32} {x19 : Int32} {x21 : Int32} {d : Dt} (hf : f_L_areSo_J611 σ kb480 t1 t0 x0 x2 x8 x11 x12 x13 x16 x18 x19 x21 d = some z) { cells slots : Nat} (hB : cells + (10) ≤ 66 ∧ slots + 64 * (10) ≤ 4224) (hkb480 : ∀ (y16 : Int32) (y17 : Int32) (y18 : Int32) (y19 : Int32) (d : Dt), kb480 y16 y17 y18 y19 d = some z → ∀ (cells slots : Nat), cells + (10) ≤ 66 ∧ slots + 64 * (10) ≤ 4224 → ∀ (H : Heap) (locs : List Loc) (ls : Array Slot), lv_has ls 23 [(0, .ref (ad x0)), (2, .ref (ad x2)), (8, .ref (ad x8)), (11, .ref (ad x11)), (12, .ref (ad x12)), (13, .int x13), (16, .int y16), (17, .int y17), (18, .int y18), (19, .int y19)] → aw_G D cA base ad σ d s H locs → W p l e rm_L_areSo s m args below meth c H locs cells slots (aw_Ej D cA base ad σ below args s 66 4224 z) (F0 m 480 ls [])) {H : Heap} {locs : List Loc} {ls : Array Slot} (hl : lv_has ls 23 [(0, .ref (ad x0)), (2, .ref (ad x2)), (8, .ref (ad x8)), (11, .ref (ad x11)), (12, .ref (ad x12)), (13, .int x13), (16, .int x16), (18, .int x18), (19, .int x19), (21, .int x21)]) (G : aw_G D cA base ad σ d s H locs) : W p l e rm_L_areSo s m args below meth c H locs cells slots (aw_Ej D cA base ad σ below args s 66 4224 z) (F0 m 611 ls [.int t1, .int t0]) := by
  have hx := X.1; have hb := X.2.1; have hml := X.2.2.1; have hown := X.2.2.2.1
  unfold f_L_areSo_J611 at hf
  refine lv_iadd hx hb dL_areSo_611 ?_
  refine lv_istore (lv' := [(17, .int (t0 + t1)), (0, .ref (ad x0)), (2, .ref (ad x2)), (8, .ref (ad x8)), (11, .ref (ad x11)), (12, .ref (ad x12)), (13, .int x13), (16, .int x16), (18, .int x18), (19, .int x19), (21, .int x21)]) hx hb dL_areSo_612 hl (by decide) rfl (fun ls hl => ?_)
  refine lv_iload hx hb dL_areSo_614 (lv_at hl 8 rfl) ?_
  refine lv_iload hx hb dL_areSo_616 (lv_at hl 10 rfl) ?_
  refine lv_if_eq (tgt := 631) hx hb dL_areSo_618 (by decide) (fun hc => ?_) (fun hc => ?_)
  · have hf := aw_ite_t hc hf
    refine lv_iconst (v := (0 : Int32)) hx hb dL_areSo_631 (by decide) ?_
    exact w_L_areSo_J632 X hst hf ⟨by omega, by omega⟩ hkb480 (lv_sub hl [1, 2, 3, 4, 5, 6, 7, 0, 9] rfl) G
  · have hf := aw_ite_f hc hf
    refine lv_aload_n hx hb dL_areSo_621 rfl (lv_at hl 2 rfl) ?_
    refine lv_bipush (v := (8 : Int32)) hx hb dL_areSo_622 (by decide) ?_
    refine lv_iload hx hb dL_areSo_624 (lv_at hl 9 rfl) ?_
    refine lv_iadd hx hb dL_areSo_626 ?_
    obtain ⟨hc_48, hf⟩ := aw_chk_some hf
    refine aw_ial hx hb G hc_48 dL_areSo_627 ?_
    refine lv_goto (tgt := 632) hx hb dL_areSo_628 (by decide) ?_
    exact w_L_areSo_J632 X hst hf ⟨by omega, by omega⟩ hkb480 (lv_sub hl [1, 2, 3, 4, 5, 6, 7, 0, 9] rfl) G
set_option maxHeartbeats 4000000 in
set_option maxRecDepth 100000 in
theorem w_L_areSo_B480 {z : Int32 × Dt} (X : aw_X p c cL_areSo 23 s RL m meth (some .boolean)) (hst : l.stackTraces = false) {kb480 : Int32 → Int32 → Int32 → Int32 → Dt → Option (Int32 × Dt)} {k480 : Int32 → Int32 → Int32 → Dt → Option (Int32 × Dt)} {x0 : Nat} {x2 : Nat} {x8 : Nat} {x11 : Nat} {x12 : Nat} {x13 : Int32} {x16 : Int32} {x17 : Int32} {x18 : Int32} {x19 : Int32} {d : Dt} (hf : f_L_areSo_B480 σ kb480 k480 x0 x2 x8 x11 x12 x13 x16 x17 x18 x19 d = some z) { cells slots : Nat} (hB : cells + (10) ≤ 66 ∧ slots + 64 * (10) ≤ 4224) (hkb480 : ∀ (y16 : Int32) (y17 : Int32) (y18 : Int32) (y19 : Int32) (d : Dt), kb480 y16 y17 y18 y19 d = some z → ∀ (cells slots : Nat), cells + (10) ≤ 66 ∧ slots + 64 * (10) ≤ 4224 → ∀ (H : Heap) (locs : List Loc) (ls : Array Slot), lv_has ls 23 [(0, .ref (ad x0)), (2, .ref (ad x2)), (8, .ref (ad x8)), (11, .ref (ad x11)), (12, .ref (ad x12)), (13, .int x13), (16, .int y16), (17, .int y17), (18, .int y18), (19, .int y19)] → aw_G D cA base ad σ d s H locs → W p l e rm_L_areSo s m args below meth c H locs cells slots (aw_Ej D cA base ad σ below args s 66 4224 z) (F0 m 480 ls [])) (hk480 : ∀ (y16 : Int32) (y17 : Int32) (y18 : Int32) (d : Dt), k480 y16 y17 y18 d = some z → ∀ (cells slots : Nat), cells + (10) ≤ 66 ∧ slots + 64 * (10) ≤ 4224 → ∀ (H : Heap) (locs : List Loc) (ls : Array Slot), lv_has ls 23 [(0, .ref (ad x0)), (13, .int x13), (16, .int y16), (17, .int y17), (18, .int y18)] → aw_G D cA base ad σ d s H locs → W p l e rm_L_areSo s m args below meth c H locs cells slots (aw_Ej D cA base ad σ below args s 66 4224 z) (F0 m 666 ls [])) {H : Heap} {locs : List Loc} {ls : Array Slot} (hl : lv_has ls 23 [(0, .ref (ad x0)), (2, .ref (ad x2)), (8, .ref (ad x8)), (11, .ref (ad x11)), (12, .ref (ad x12)), (13, .int x13), (16, .int x16), (17, .int x17), (18, .int x18), (19, .int x19)]) (G : aw_G D cA base ad σ d s H locs) : W p l e rm_L_areSo s m args below meth c H locs cells slots (aw_Ej D cA base ad σ below args s 66 4224 z) (F0 m 480 ls []) := by
  have hx := X.1; have hb := X.2.1; have hml := X.2.2.1; have hown := X.2.2.2.1
  unfold f_L_areSo_B480 at hf
  refine lv_iload hx hb dL_areSo_480 (lv_at hl 9 rfl) ?_
  refine lv_aload hx hb dL_areSo_482 (lv_at hl 2 rfl) ?_
  refine lv_iconst (v := (0 : Int32)) hx hb dL_areSo_484 (by decide) ?_
  obtain ⟨hc_32, hf⟩ := aw_chk_some hf
  refine aw_ial hx hb G hc_32 dL_areSo_485 ?_
  refine lv_icmp_ge (tgt := 666) hx hb dL_areSo_486 (by decide) (fun hc => ?_) (fun hc => ?_)
  · have hf := aw_ite_t hc hf
    exact hk480 _ _ _ _ hf _ _ ⟨by omega, by omega⟩ _ _ _ (lv_sub hl [0, 5, 6, 7, 8] rfl) G
  · have hf := aw_ite_f hc hf
    refine lv_iconst (v := (0 : Int32)) hx hb dL_areSo_489 (by decide) ?_
    refine lv_istore (lv' := [(20, .int ((0 : Int32))), (0, .ref (ad x0)), (2, .ref (ad x2)), (8, .ref (ad x8)), (11, .ref (ad x11)), (12, .ref (ad x12)), (13, .int x13), (16, .int x16), (17, .int x17), (18, .int x18), (19, .int x19)]) hx hb dL_areSo_490 hl (by decide) rfl (fun ls hl => ?_)
    refine lv_iconst (v := (0 : Int32)) hx hb dL_areSo_492 (by decide) ?_
    refine lv_istore (lv' := [(21, .int ((0 : Int32))), (20, .int ((0 : Int32))), (0, .ref (ad x0)), (2, .ref (ad x2)), (8, .ref (ad x8)), (11, .ref (ad x11)), (12, .ref (ad x12)), (13, .int x13), (16, .int x16), (17, .int x17), (18, .int x18), (19, .int x19)]) hx hb dL_areSo_493 hl (by decide) rfl (fun ls hl => ?_)
    refine lv_iconst (v := (0 : Int32)) hx hb dL_areSo_495 (by decide) ?_
    refine lv_istore (lv' := [(22, .int ((0 : Int32))), (21, .int ((0 : Int32))), (20, .int ((0 : Int32))), (0, .ref (ad x0)), (2, .ref (ad x2)), (8, .ref (ad x8)), (11, .ref (ad x11)), (12, .ref (ad x12)), (13, .int x13), (16, .int x16), (17, .int x17), (18, .int x18), (19, .int x19)]) hx hb dL_areSo_496 hl (by decide) rfl (fun ls hl => ?_)
    refine w_L_areSo_L498 X hst aw_FU hf ⟨by omega, by omega⟩  (fun x20_42 x21_43 d_44 hf cells slots hB H locs ls hl G => ?_) (lv_sub hl [3, 4, 5, 6, 7, 8, 9, 10, 11, 12, 2, 1, 0] rfl) G
    refine lv_iload hx hb dL_areSo_593 (lv_at hl 7 rfl) ?_
    refine lv_iload hx hb dL_areSo_595 (lv_at hl 10 rfl) ?_
    refine lv_if_eq (tgt := 610) hx hb dL_areSo_597 (by decide) (fun hc => ?_) (fun hc => ?_)
    · have hf := aw_ite_t hc hf
      refine lv_iconst (v := (0 : Int32)) hx hb dL_areSo_610 (by decide) ?_
      exact w_L_areSo_J611 X hst hf ⟨by omega, by omega⟩ hkb480 (lv_sub hl [0, 1, 2, 3, 4, 5, 6, 8, 9, 11] rfl) G
    · have hf := aw_ite_f hc hf
      refine lv_aload_n hx hb dL_areSo_600 rfl (lv_at hl 1 rfl) ?_
      refine lv_bipush (v := (8 : Int32)) hx hb dL_areSo_601 (by decide) ?_
      refine lv_iload hx hb dL_areSo_603 (lv_at hl 9 rfl) ?_
      refine lv_iadd hx hb dL_areSo_605 ?_
      obtain ⟨hc_49, hf⟩ := aw_chk_some hf
      refine aw_ial hx hb G hc_49 dL_areSo_606 ?_
      refine lv_goto (tgt := 611) hx hb dL_areSo_607 (by decide) ?_
      exact w_L_areSo_J611 X hst hf ⟨by omega, by omega⟩ hkb480 (lv_sub hl [0, 1, 2, 3, 4, 5, 6, 8, 9, 11] rfl) G
theorem w_L_areSo_L480 {z : Int32 × Dt} (X : aw_X p c cL_areSo 23 s RL m meth (some .boolean)) (hst : l.stackTraces = false) {k480 : Int32 → Int32 → Int32 → Dt → Option (Int32 × Dt)} {x0 : Nat} {x2 : Nat} {x8 : Nat} {x11 : Nat} {x12 : Nat} {x13 : Int32} (n : Nat) {x16 : Int32} {x17 : Int32} {x18 : Int32} {x19 : Int32} {d : Dt} (hf : f_L_areSo_L480 σ n k480 x0 x2 x8 x11 x12 x13 x16 x17 x18 x19 d = some z) { cells slots : Nat} (hB : cells + (10) ≤ 66 ∧ slots + 64 * (10) ≤ 4224) (hk480 : ∀ (y16 : Int32) (y17 : Int32) (y18 : Int32) (d : Dt), k480 y16 y17 y18 d = some z → ∀ (cells slots : Nat), cells + (10) ≤ 66 ∧ slots + 64 * (10) ≤ 4224 → ∀ (H : Heap) (locs : List Loc) (ls : Array Slot), lv_has ls 23 [(0, .ref (ad x0)), (13, .int x13), (16, .int y16), (17, .int y17), (18, .int y18)] → aw_G D cA base ad σ d s H locs → W p l e rm_L_areSo s m args below meth c H locs cells slots (aw_Ej D cA base ad σ below args s 66 4224 z) (F0 m 666 ls [])) {H : Heap} {locs : List Loc} {ls : Array Slot} (hl : lv_has ls 23 [(0, .ref (ad x0)), (2, .ref (ad x2)), (8, .ref (ad x8)), (11, .ref (ad x11)), (12, .ref (ad x12)), (13, .int x13), (16, .int x16), (17, .int x17), (18, .int x18), (19, .int x19)]) (G : aw_G D cA base ad σ d s H locs) : W p l e rm_L_areSo s m args below meth c H locs cells slots (aw_Ej D cA base ad σ below args s 66 4224 z) (F0 m 480 ls []) := by
  induction n generalizing x16 x17 x18 x19 d cells slots H locs ls with
  | zero => exact absurd (show (none : Option (Int32 × Dt)) = some z from hf) (by simp)
  | succ n ih => exact w_L_areSo_B480 X hst (kb480 := f_L_areSo_L480 σ n k480 x0 x2 x8 x11 x12 x13) hf ⟨by omega, by omega⟩  (fun x16 x17 x18 x19 d hf cells slots hB H locs ls hl G => ih hf hB hl G) hk480 hl G
set_option maxHeartbeats 4000000 in
set_option maxRecDepth 100000 in
theorem w_L_areSo_J729 {z : Int32 × Dt} (X : aw_X p c cL_areSo 23 s RL m meth (some .boolean)) (hst : l.stackTraces = false) {t0 : Int32} {d : Dt} (hf : f_L_areSo_J729 σ t0 d = some z) { cells slots : Nat} (hB : cells + (0) ≤ 66 ∧ slots + 64 * (0) ≤ 4224)  {H : Heap} {locs : List Loc} {ls : Array Slot} (hl : lv_has ls 23 []) (G : aw_G D cA base ad σ d s H locs) : W p l e rm_L_areSo s m args below meth c H locs cells slots (aw_Ej D cA base ad σ below args s 66 4224 z) (F0 m 729 ls [.int t0]) := by
  have hx := X.1; have hb := X.2.1; have hml := X.2.2.1; have hown := X.2.2.2.1
  unfold f_L_areSo_J729 at hf
  obtain ⟨hc_54, hf⟩ := aw_chk_some hf
  exact aw_retjZ X G hf hc_54 dL_areSo_729 (by omega) (by omega)
set_option maxHeartbeats 4000000 in
set_option maxRecDepth 100000 in
theorem w_L_areSo_J728 {z : Int32 × Dt} (X : aw_X p c cL_areSo 23 s RL m meth (some .boolean)) (hst : l.stackTraces = false)  {d : Dt} (hf : f_L_areSo_J728 σ d = some z) { cells slots : Nat} (hB : cells + (0) ≤ 66 ∧ slots + 64 * (0) ≤ 4224)  {H : Heap} {locs : List Loc} {ls : Array Slot} (hl : lv_has ls 23 []) (G : aw_G D cA base ad σ d s H locs) : W p l e rm_L_areSo s m args below meth c H locs cells slots (aw_Ej D cA base ad σ below args s 66 4224 z) (F0 m 728 ls []) := by
  have hx := X.1; have hb := X.2.1; have hml := X.2.2.1; have hown := X.2.2.2.1
  unfold f_L_areSo_J728 at hf
  refine lv_iconst (v := (0 : Int32)) hx hb dL_areSo_728 (by decide) ?_
  exact w_L_areSo_J729 X hst hf ⟨by omega, by omega⟩  (lv_sub hl [] rfl) G
set_option maxHeartbeats 4000000 in
set_option maxRecDepth 100000 in
theorem w_L_areSo_J463 {z : Int32 × Dt} (X : aw_X p c cL_areSo 23 s RL m meth (some .boolean)) (hst : l.stackTraces = false) {t5 : Int32} {t4 : Nat} {t3 : Nat} {t2 : Nat} {t1 : Nat} {t0 : Nat} {x0 : Nat} {x2 : Nat} {x8 : Nat} {x11 : Nat} {x12 : Nat} {x13 : Int32} {d : Dt} (hf : f_L_areSo_J463 σ t5 t4 t3 t2 t1 t0 x0 x2 x8 x11 x12 x13 d = some z) { cells slots : Nat} (hB : cells + (10) ≤ 66 ∧ slots + 64 * (10) ≤ 4224)  {H : Heap} {locs : List Loc} {ls : Array Slot} (hl : lv_has ls 23 [(0, .ref (ad x0)), (2, .ref (ad x2)), (8, .ref (ad x8)), (11, .ref (ad x11)), (12, .ref (ad x12)), (13, .int x13)]) (G : aw_G D cA base ad σ d s H locs) : W p l e rm_L_areSo s m args below meth c H locs cells slots (aw_Ej D cA base ad σ below args s 66 4224 z) (F0 m 463 ls [.int t5, .ref (ad t4), .ref (ad t3), .ref (ad t2), .ref (ad t1), .ref (ad t0)]) := by
  have hx := X.1; have hb := X.2.1; have hml := X.2.2.1; have hown := X.2.2.2.1
  unfold f_L_areSo_J463 at hf
  refine lv_aload hx hb dL_areSo_463 (lv_at hl 4 rfl) ?_
  obtain ⟨z_30, hz_31, hf⟩ := aw_bind_some hf
  refine aw_SV (As := [.ref (ad t0), .ref (ad t1), .ref (ad t2), .ref (ad t3), .ref (ad t4), .int t5, .ref (ad x12)]) (rest := []) X G hl.1 cr_L_130 (c_L_spellsAll l hz_31) ⟨rfl, rfl⟩ rfl rfl rfl ⟨(Nat.le_of_ble_eq_true rfl), (Nat.le_of_ble_eq_true rfl)⟩ (Nat.le_of_ble_eq_true rfl) dL_areSo_465 ⟨by show cells + 0 ≤ 66; omega, by show slots + 0 ≤ 4224; omega⟩ (fun H locs G => ?_)
  refine lv_iconst (v := (0 : Int32)) hx hb dL_areSo_468 (by decide) ?_
  refine lv_istore (lv' := [(16, .int ((0 : Int32))), (0, .ref (ad x0)), (2, .ref (ad x2)), (8, .ref (ad x8)), (11, .ref (ad x11)), (12, .ref (ad x12)), (13, .int x13)]) hx hb dL_areSo_469 hl (by decide) rfl (fun ls hl => ?_)
  refine lv_iconst (v := (0 : Int32)) hx hb dL_areSo_471 (by decide) ?_
  refine lv_istore (lv' := [(17, .int ((0 : Int32))), (16, .int ((0 : Int32))), (0, .ref (ad x0)), (2, .ref (ad x2)), (8, .ref (ad x8)), (11, .ref (ad x11)), (12, .ref (ad x12)), (13, .int x13)]) hx hb dL_areSo_472 hl (by decide) rfl (fun ls hl => ?_)
  refine lv_iconst (v := (0 : Int32)) hx hb dL_areSo_474 (by decide) ?_
  refine lv_istore (lv' := [(18, .int ((0 : Int32))), (17, .int ((0 : Int32))), (16, .int ((0 : Int32))), (0, .ref (ad x0)), (2, .ref (ad x2)), (8, .ref (ad x8)), (11, .ref (ad x11)), (12, .ref (ad x12)), (13, .int x13)]) hx hb dL_areSo_475 hl (by decide) rfl (fun ls hl => ?_)
  refine lv_iconst (v := (0 : Int32)) hx hb dL_areSo_477 (by decide) ?_
  refine lv_istore (lv' := [(19, .int ((0 : Int32))), (18, .int ((0 : Int32))), (17, .int ((0 : Int32))), (16, .int ((0 : Int32))), (0, .ref (ad x0)), (2, .ref (ad x2)), (8, .ref (ad x8)), (11, .ref (ad x11)), (12, .ref (ad x12)), (13, .int x13)]) hx hb dL_areSo_478 hl (by decide) rfl (fun ls hl => ?_)
  refine w_L_areSo_L480 X hst aw_FU hf ⟨by omega, by omega⟩  (fun x16_50 x17_51 x18_52 d_53 hf cells slots hB H locs ls hl G => ?_) (lv_sub hl [4, 5, 6, 7, 8, 9, 3, 2, 1, 0] rfl) G
  refine lv_iload hx hb dL_areSo_666 (lv_at hl 1 rfl) ?_
  refine lv_if_eq (tgt := 728) hx hb dL_areSo_668 (by decide) (fun hc => ?_) (fun hc => ?_)
  · have hf := aw_ite_t hc hf
    exact w_L_areSo_J728 X hst hf ⟨by omega, by omega⟩  (lv_sub hl [] rfl) G
  · have hf := aw_ite_f hc hf
    refine lv_aload_n hx hb dL_areSo_671 rfl (lv_at hl 0 rfl) ?_
    refine lv_iconst (v := (0 : Int32)) hx hb dL_areSo_672 (by decide) ?_
    refine lv_iconst (v := (1 : Int32)) hx hb dL_areSo_673 (by decide) ?_
    obtain ⟨hc_55, hf⟩ := aw_chk_some hf
    obtain ⟨z_56, hz_57, hf⟩ := aw_bind_some hf
    obtain ⟨v_58, hv_59, hf⟩ := aw_nt_some hf
    refine aw_CXI (As := [.int ((0 : Int32)), .int ((1 : Int32))]) (rest := []) X G hl.1 cr_L_193 (c_X10_reform l hst hz_57) rfl rfl rfl (by decide) hc_55 rfl ⟨(Nat.le_of_ble_eq_true rfl), (Nat.le_of_ble_eq_true rfl)⟩ (Nat.le_of_ble_eq_true rfl) dL_areSo_674 2 12 ⟨(Nat.le_of_ble_eq_true rfl), (Nat.le_of_ble_eq_true rfl)⟩ ⟨by show cells + 2 ≤ 66; omega, by show slots + 12 ≤ 4224; omega⟩ hv_59 (fun H locs G => ?_)
    refine lv_iload hx hb dL_areSo_677 (lv_at hl 2 rfl) ?_
    refine lv_icmp_ne (tgt := 728) hx hb dL_areSo_679 (by decide) (fun hc => ?_) (fun hc => ?_)
    · have hf := aw_ite_f hc hf
      exact w_L_areSo_J728 X hst hf ⟨by omega, by omega⟩  (lv_sub hl [] rfl) G
    · have hf := aw_ite_t hc hf
      refine lv_aload_n hx hb dL_areSo_682 rfl (lv_at hl 0 rfl) ?_
      refine lv_iconst (v := (1 : Int32)) hx hb dL_areSo_683 (by decide) ?_
      refine lv_iconst (v := (0 : Int32)) hx hb dL_areSo_684 (by decide) ?_
      obtain ⟨z_60, hz_61, hf⟩ := aw_bind_some hf
      obtain ⟨v_62, hv_63, hf⟩ := aw_nt_some hf
      refine aw_CXI (As := [.int ((1 : Int32)), .int ((0 : Int32))]) (rest := []) X G hl.1 cr_L_193 (c_X10_reform l hst hz_61) rfl rfl rfl (by decide) hc_55 rfl ⟨(Nat.le_of_ble_eq_true rfl), (Nat.le_of_ble_eq_true rfl)⟩ (Nat.le_of_ble_eq_true rfl) dL_areSo_685 2 12 ⟨(Nat.le_of_ble_eq_true rfl), (Nat.le_of_ble_eq_true rfl)⟩ ⟨by show cells + 2 + 2 ≤ 66; omega, by show slots + 12 + 12 ≤ 4224; omega⟩ hv_63 (fun H locs G => ?_)
      refine lv_iload hx hb dL_areSo_688 (lv_at hl 2 rfl) ?_
      refine lv_icmp_ne (tgt := 728) hx hb dL_areSo_690 (by decide) (fun hc => ?_) (fun hc => ?_)
      · have hf := aw_ite_f hc hf
        exact w_L_areSo_J728 X hst hf ⟨by omega, by omega⟩  (lv_sub hl [] rfl) G
      · have hf := aw_ite_t hc hf
        refine lv_aload_n hx hb dL_areSo_693 rfl (lv_at hl 0 rfl) ?_
        refine lv_iconst (v := (0 : Int32)) hx hb dL_areSo_694 (by decide) ?_
        refine lv_iconst (v := (1 : Int32)) hx hb dL_areSo_695 (by decide) ?_
        obtain ⟨z_64, hz_65, hf⟩ := aw_bind_some hf
        obtain ⟨v_66, hv_67, hf⟩ := aw_nt_some hf
        refine aw_CXI (As := [.int ((0 : Int32)), .int ((1 : Int32))]) (rest := []) X G hl.1 cr_L_196 (c_X10_lost l hst hz_65) rfl rfl rfl (by decide) hc_55 rfl ⟨(Nat.le_of_ble_eq_true rfl), (Nat.le_of_ble_eq_true rfl)⟩ (Nat.le_of_ble_eq_true rfl) dL_areSo_696 2 12 ⟨(Nat.le_of_ble_eq_true rfl), (Nat.le_of_ble_eq_true rfl)⟩ ⟨by show cells + 2 + 2 + 2 ≤ 66; omega, by show slots + 12 + 12 + 12 ≤ 4224; omega⟩ hv_67 (fun H locs G => ?_)
        refine lv_iload hx hb dL_areSo_699 (lv_at hl 3 rfl) ?_
        refine lv_icmp_ne (tgt := 728) hx hb dL_areSo_701 (by decide) (fun hc => ?_) (fun hc => ?_)
        · have hf := aw_ite_f hc hf
          exact w_L_areSo_J728 X hst hf ⟨by omega, by omega⟩  (lv_sub hl [] rfl) G
        · have hf := aw_ite_t hc hf
          refine lv_aload_n hx hb dL_areSo_704 rfl (lv_at hl 0 rfl) ?_
          refine lv_iconst (v := (1 : Int32)) hx hb dL_areSo_705 (by decide) ?_
          refine lv_iconst (v := (0 : Int32)) hx hb dL_areSo_706 (by decide) ?_
          obtain ⟨z_68, hz_69, hf⟩ := aw_bind_some hf
          obtain ⟨v_70, hv_71, hf⟩ := aw_nt_some hf
          refine aw_CXI (As := [.int ((1 : Int32)), .int ((0 : Int32))]) (rest := []) X G hl.1 cr_L_196 (c_X10_lost l hst hz_69) rfl rfl rfl (by decide) hc_55 rfl ⟨(Nat.le_of_ble_eq_true rfl), (Nat.le_of_ble_eq_true rfl)⟩ (Nat.le_of_ble_eq_true rfl) dL_areSo_707 2 12 ⟨(Nat.le_of_ble_eq_true rfl), (Nat.le_of_ble_eq_true rfl)⟩ ⟨by show cells + 2 + 2 + 2 + 2 ≤ 66; omega, by show slots + 12 + 12 + 12 + 12 ≤ 4224; omega⟩ hv_71 (fun H locs G => ?_)
          refine lv_iload hx hb dL_areSo_710 (lv_at hl 4 rfl) ?_
          refine lv_icmp_ne (tgt := 728) hx hb dL_areSo_712 (by decide) (fun hc => ?_) (fun hc => ?_)
          · have hf := aw_ite_f hc hf
            exact w_L_areSo_J728 X hst hf ⟨by omega, by omega⟩  (lv_sub hl [] rfl) G
          · have hf := aw_ite_t hc hf
            refine lv_aload_n hx hb dL_areSo_715 rfl (lv_at hl 0 rfl) ?_
            refine lv_iconst (v := (1 : Int32)) hx hb dL_areSo_716 (by decide) ?_
            refine lv_iconst (v := (1 : Int32)) hx hb dL_areSo_717 (by decide) ?_
            obtain ⟨z_72, hz_73, hf⟩ := aw_bind_some hf
            obtain ⟨v_74, hv_75, hf⟩ := aw_nt_some hf
            refine aw_CXI (As := [.int ((1 : Int32)), .int ((1 : Int32))]) (rest := []) X G hl.1 cr_L_193 (c_X10_reform l hst hz_73) rfl rfl rfl (by decide) hc_55 rfl ⟨(Nat.le_of_ble_eq_true rfl), (Nat.le_of_ble_eq_true rfl)⟩ (Nat.le_of_ble_eq_true rfl) dL_areSo_718 2 12 ⟨(Nat.le_of_ble_eq_true rfl), (Nat.le_of_ble_eq_true rfl)⟩ ⟨by show cells + 2 + 2 + 2 + 2 + 2 ≤ 66; omega, by show slots + 12 + 12 + 12 + 12 + 12 ≤ 4224; omega⟩ hv_75 (fun H locs G => ?_)
            refine lv_if_ne (tgt := 728) hx hb dL_areSo_721 (by decide) (fun hc => ?_) (fun hc => ?_)
            · have hf := aw_ite_f hc hf
              exact w_L_areSo_J728 X hst hf ⟨by omega, by omega⟩  (lv_sub hl [] rfl) G
            · have hf := aw_ite_t hc hf
              refine lv_iconst (v := (1 : Int32)) hx hb dL_areSo_724 (by decide) ?_
              refine lv_goto (tgt := 729) hx hb dL_areSo_725 (by decide) ?_
              exact w_L_areSo_J729 X hst hf ⟨by omega, by omega⟩  (lv_sub hl [] rfl) G
set_option maxHeartbeats 4000000 in
set_option maxRecDepth 100000 in
theorem w_L_areSo_J432 {z : Int32 × Dt} (X : aw_X p c cL_areSo 23 s RL m meth (some .boolean)) (hst : l.stackTraces = false) {t5 : Int32} {t4 : Nat} {t3 : Nat} {t2 : Nat} {t1 : Nat} {t0 : Nat} {x0 : Nat} {x1 : Nat} {x2 : Nat} {x3 : Nat} {x5 : Nat} {x8 : Nat} {x11 : Nat} {x12 : Nat} {x13 : Int32} {d : Dt} (hf : f_L_areSo_J432 σ t5 t4 t3 t2 t1 t0 x0 x1 x2 x3 x5 x8 x11 x12 x13 d = some z) { cells slots : Nat} (hB : cells + (10) ≤ 66 ∧ slots + 64 * (10) ≤ 4224)  {H : Heap} {locs : List Loc} {ls : Array Slot} (hl : lv_has ls 23 [(0, .ref (ad x0)), (1, .ref (ad x1)), (2, .ref (ad x2)), (3, .ref (ad x3)), (5, .ref (ad x5)), (8, .ref (ad x8)), (11, .ref (ad x11)), (12, .ref (ad x12)), (13, .int x13)]) (G : aw_G D cA base ad σ d s H locs) : W p l e rm_L_areSo s m args below meth c H locs cells slots (aw_Ej D cA base ad σ below args s 66 4224 z) (F0 m 432 ls [.int t5, .ref (ad t4), .ref (ad t3), .ref (ad t2), .ref (ad t1), .ref (ad t0)]) := by
  have hx := X.1; have hb := X.2.1; have hml := X.2.2.1; have hown := X.2.2.2.1
  unfold f_L_areSo_J432 at hf
  refine lv_aload hx hb dL_areSo_432 (lv_at hl 6 rfl) ?_
  obtain ⟨z_27, hz_28, hf⟩ := aw_bind_some hf
  refine aw_SV (As := [.ref (ad t0), .ref (ad t1), .ref (ad t2), .ref (ad t3), .ref (ad t4), .int t5, .ref (ad x11)]) (rest := []) X G hl.1 cr_L_130 (c_L_spellsAll l hz_28) ⟨rfl, rfl⟩ rfl rfl rfl ⟨(Nat.le_of_ble_eq_true rfl), (Nat.le_of_ble_eq_true rfl)⟩ (Nat.le_of_ble_eq_true rfl) dL_areSo_434 ⟨by show cells + 0 ≤ 66; omega, by show slots + 0 ≤ 4224; omega⟩ (fun H locs G => ?_)
  refine lv_aload_n hx hb dL_areSo_437 rfl (lv_at hl 1 rfl) ?_
  refine lv_aload_n hx hb dL_areSo_438 rfl (lv_at hl 2 rfl) ?_
  refine lv_aload_n hx hb dL_areSo_439 rfl (lv_at hl 3 rfl) ?_
  refine lv_aload hx hb dL_areSo_440 (lv_at hl 4 rfl) ?_
  refine lv_aload hx hb dL_areSo_442 (lv_at hl 5 rfl) ?_
  refine lv_aload hx hb dL_areSo_444 (lv_at hl 4 rfl) ?_
  refine lv_bipush (v := (48 : Int32)) hx hb dL_areSo_446 (by decide) ?_
  obtain ⟨hc_29, hf⟩ := aw_chk_some hf
  refine aw_ial hx hb G hc_29 dL_areSo_448 ?_
  refine lv_if_ne (tgt := 456) hx hb dL_areSo_449 (by decide) (fun hc => ?_) (fun hc => ?_)
  · have hf := aw_ite_f hc hf
    refine lv_aload hx hb dL_areSo_456 (lv_at hl 4 rfl) ?_
    refine lv_bipush (v := (48 : Int32)) hx hb dL_areSo_458 (by decide) ?_
    refine aw_ial hx hb G hc_29 dL_areSo_460 ?_
    refine lv_iconst (v := (1 : Int32)) hx hb dL_areSo_461 (by decide) ?_
    refine lv_isub hx hb dL_areSo_462 ?_
    exact w_L_areSo_J463 X hst hf ⟨by omega, by omega⟩  (lv_sub hl [0, 2, 5, 6, 7, 8] rfl) G
  · have hf := aw_ite_t hc hf
    refine lv_iconst (v := (3 : Int32)) hx hb dL_areSo_452 (by decide) ?_
    refine lv_goto (tgt := 463) hx hb dL_areSo_453 (by decide) ?_
    exact w_L_areSo_J463 X hst hf ⟨by omega, by omega⟩  (lv_sub hl [0, 2, 5, 6, 7, 8] rfl) G
set_option maxHeartbeats 4000000 in
set_option maxRecDepth 100000 in
theorem w_L_areSo_J404 {z : Int32 × Dt} (X : aw_X p c cL_areSo 23 s RL m meth (some .boolean)) (hst : l.stackTraces = false) {t0 : Int32} {x0 : Nat} {x1 : Nat} {x2 : Nat} {x3 : Nat} {x4 : Nat} {x5 : Nat} {x8 : Nat} {x11 : Nat} {x12 : Nat} {d : Dt} (hf : f_L_areSo_J404 σ t0 x0 x1 x2 x3 x4 x5 x8 x11 x12 d = some z) { cells slots : Nat} (hB : cells + (10) ≤ 66 ∧ slots + 64 * (10) ≤ 4224)  {H : Heap} {locs : List Loc} {ls : Array Slot} (hl : lv_has ls 23 [(0, .ref (ad x0)), (1, .ref (ad x1)), (2, .ref (ad x2)), (3, .ref (ad x3)), (4, .ref (ad x4)), (5, .ref (ad x5)), (8, .ref (ad x8)), (11, .ref (ad x11)), (12, .ref (ad x12))]) (G : aw_G D cA base ad σ d s H locs) : W p l e rm_L_areSo s m args below meth c H locs cells slots (aw_Ej D cA base ad σ below args s 66 4224 z) (F0 m 404 ls [.int t0]) := by
  have hx := X.1; have hb := X.2.1; have hml := X.2.2.1; have hown := X.2.2.2.1
  unfold f_L_areSo_J404 at hf
  refine lv_istore (lv' := [(13, .int t0), (0, .ref (ad x0)), (1, .ref (ad x1)), (2, .ref (ad x2)), (3, .ref (ad x3)), (4, .ref (ad x4)), (5, .ref (ad x5)), (8, .ref (ad x8)), (11, .ref (ad x11)), (12, .ref (ad x12))]) hx hb dL_areSo_404 hl (by decide) rfl (fun ls hl => ?_)
  refine lv_aload_n hx hb dL_areSo_406 rfl (lv_at hl 2 rfl) ?_
  refine lv_aload_n hx hb dL_areSo_407 rfl (lv_at hl 3 rfl) ?_
  refine lv_aload_n hx hb dL_areSo_408 rfl (lv_at hl 4 rfl) ?_
  refine lv_aload hx hb dL_areSo_409 (lv_at hl 5 rfl) ?_
  refine lv_aload hx hb dL_areSo_411 (lv_at hl 7 rfl) ?_
  refine lv_aload hx hb dL_areSo_413 (lv_at hl 5 rfl) ?_
  refine lv_bipush (v := (48 : Int32)) hx hb dL_areSo_415 (by decide) ?_
  obtain ⟨hc_26, hf⟩ := aw_chk_some hf
  refine aw_ial hx hb G hc_26 dL_areSo_417 ?_
  refine lv_if_ne (tgt := 425) hx hb dL_areSo_418 (by decide) (fun hc => ?_) (fun hc => ?_)
  · have hf := aw_ite_f hc hf
    refine lv_aload hx hb dL_areSo_425 (lv_at hl 5 rfl) ?_
    refine lv_bipush (v := (48 : Int32)) hx hb dL_areSo_427 (by decide) ?_
    refine aw_ial hx hb G hc_26 dL_areSo_429 ?_
    refine lv_iconst (v := (1 : Int32)) hx hb dL_areSo_430 (by decide) ?_
    refine lv_isub hx hb dL_areSo_431 ?_
    exact w_L_areSo_J432 X hst hf ⟨by omega, by omega⟩  (lv_sub hl [1, 2, 3, 4, 6, 7, 8, 9, 0] rfl) G
  · have hf := aw_ite_t hc hf
    refine lv_iconst (v := (3 : Int32)) hx hb dL_areSo_421 (by decide) ?_
    refine lv_goto (tgt := 432) hx hb dL_areSo_422 (by decide) ?_
    exact w_L_areSo_J432 X hst hf ⟨by omega, by omega⟩  (lv_sub hl [1, 2, 3, 4, 6, 7, 8, 9, 0] rfl) G
set_option maxHeartbeats 4000000 in
set_option maxRecDepth 100000 in
theorem w_L_areSo_J403 {z : Int32 × Dt} (X : aw_X p c cL_areSo 23 s RL m meth (some .boolean)) (hst : l.stackTraces = false) {x0 : Nat} {x1 : Nat} {x2 : Nat} {x3 : Nat} {x4 : Nat} {x5 : Nat} {x8 : Nat} {x11 : Nat} {x12 : Nat} {d : Dt} (hf : f_L_areSo_J403 σ x0 x1 x2 x3 x4 x5 x8 x11 x12 d = some z) { cells slots : Nat} (hB : cells + (10) ≤ 66 ∧ slots + 64 * (10) ≤ 4224)  {H : Heap} {locs : List Loc} {ls : Array Slot} (hl : lv_has ls 23 [(0, .ref (ad x0)), (1, .ref (ad x1)), (2, .ref (ad x2)), (3, .ref (ad x3)), (4, .ref (ad x4)), (5, .ref (ad x5)), (8, .ref (ad x8)), (11, .ref (ad x11)), (12, .ref (ad x12))]) (G : aw_G D cA base ad σ d s H locs) : W p l e rm_L_areSo s m args below meth c H locs cells slots (aw_Ej D cA base ad σ below args s 66 4224 z) (F0 m 403 ls []) := by
  have hx := X.1; have hb := X.2.1; have hml := X.2.2.1; have hown := X.2.2.2.1
  unfold f_L_areSo_J403 at hf
  refine lv_iconst (v := (0 : Int32)) hx hb dL_areSo_403 (by decide) ?_
  exact w_L_areSo_J404 X hst hf ⟨by omega, by omega⟩  (lv_sub hl [0, 1, 2, 3, 4, 5, 6, 7, 8] rfl) G
set_option maxHeartbeats 4000000 in
set_option maxRecDepth 100000 in
theorem w_L_areSo_J396 {z : Int32 × Dt} (X : aw_X p c cL_areSo 23 s RL m meth (some .boolean)) (hst : l.stackTraces = false) {t1 : Int32} {t0 : Int32} {x0 : Nat} {x1 : Nat} {x2 : Nat} {x3 : Nat} {x4 : Nat} {x5 : Nat} {x8 : Nat} {x11 : Nat} {x12 : Nat} {d : Dt} (hf : f_L_areSo_J396 σ t1 t0 x0 x1 x2 x3 x4 x5 x8 x11 x12 d = some z) { cells slots : Nat} (hB : cells + (10) ≤ 66 ∧ slots + 64 * (10) ≤ 4224)  {H : Heap} {locs : List Loc} {ls : Array Slot} (hl : lv_has ls 23 [(0, .ref (ad x0)), (1, .ref (ad x1)), (2, .ref (ad x2)), (3, .ref (ad x3)), (4, .ref (ad x4)), (5, .ref (ad x5)), (8, .ref (ad x8)), (11, .ref (ad x11)), (12, .ref (ad x12))]) (G : aw_G D cA base ad σ d s H locs) : W p l e rm_L_areSo s m args below meth c H locs cells slots (aw_Ej D cA base ad σ below args s 66 4224 z) (F0 m 396 ls [.int t1, .int t0]) := by
  have hx := X.1; have hb := X.2.1; have hml := X.2.2.1; have hown := X.2.2.2.1
  unfold f_L_areSo_J396 at hf
  refine lv_icmp_ne (tgt := 403) hx hb dL_areSo_396 (by decide) (fun hc => ?_) (fun hc => ?_)
  · have hf := aw_ite_f hc hf
    exact w_L_areSo_J403 X hst hf ⟨by omega, by omega⟩  (lv_sub hl [0, 1, 2, 3, 4, 5, 6, 7, 8] rfl) G
  · have hf := aw_ite_t hc hf
    refine lv_iconst (v := (1 : Int32)) hx hb dL_areSo_399 (by decide) ?_
    refine lv_goto (tgt := 404) hx hb dL_areSo_400 (by decide) ?_
    exact w_L_areSo_J404 X hst hf ⟨by omega, by omega⟩  (lv_sub hl [0, 1, 2, 3, 4, 5, 6, 7, 8] rfl) G
set_option maxHeartbeats 4000000 in
set_option maxRecDepth 100000 in
theorem w_L_areSo_J333 {z : Int32 × Dt} (X : aw_X p c cL_areSo 23 s RL m meth (some .boolean)) (hst : l.stackTraces = false) {x0 : Nat} {x1 : Nat} {x2 : Nat} {x3 : Nat} {x4 : Nat} {x5 : Nat} {x8 : Nat} {x11 : Nat} {x12 : Nat} {x13 : Int32} {x14 : Int32} {x15 : Int32} {d : Dt} (hf : f_L_areSo_J333 σ x0 x1 x2 x3 x4 x5 x8 x11 x12 x13 x14 x15 d = some z) { cells slots : Nat} (hB : cells + (13) ≤ 66 ∧ slots + 64 * (13) ≤ 4224)  {H : Heap} {locs : List Loc} {ls : Array Slot} (hl : lv_has ls 23 [(0, .ref (ad x0)), (1, .ref (ad x1)), (2, .ref (ad x2)), (3, .ref (ad x3)), (4, .ref (ad x4)), (5, .ref (ad x5)), (8, .ref (ad x8)), (11, .ref (ad x11)), (12, .ref (ad x12)), (13, .int x13), (14, .int x14), (15, .int x15)]) (G : aw_G D cA base ad σ d s H locs) : W p l e rm_L_areSo s m args below meth c H locs cells slots (aw_Ej D cA base ad σ below args s 66 4224 z) (F0 m 333 ls []) := by
  have hx := X.1; have hb := X.2.1; have hml := X.2.2.1; have hown := X.2.2.2.1
  unfold f_L_areSo_J333 at hf
  refine lv_iload hx hb dL_areSo_333 (lv_at hl 9 rfl) ?_
  refine lv_if_eq (tgt := 403) hx hb dL_areSo_335 (by decide) (fun hc => ?_) (fun hc => ?_)
  · have hf := aw_ite_t hc hf
    exact w_L_areSo_J403 X hst hf ⟨by omega, by omega⟩  (lv_sub hl [0, 1, 2, 3, 4, 5, 6, 7, 8] rfl) G
  · have hf := aw_ite_f hc hf
    refine lv_aload_n hx hb dL_areSo_338 rfl (lv_at hl 0 rfl) ?_
    refine lv_iconst (v := (0 : Int32)) hx hb dL_areSo_339 (by decide) ?_
    obtain ⟨hc_76, hf⟩ := aw_chk_some hf
    obtain ⟨z_77, hz_78, hf⟩ := aw_bind_some hf
    obtain ⟨v_79, hv_80, hf⟩ := aw_nt_some hf
    refine aw_CXI (As := [.int ((0 : Int32))]) (rest := []) X G hl.1 cr_L_186 (c_X10_votes l hst hz_78) rfl rfl rfl (by decide) hc_76 rfl ⟨(Nat.le_of_ble_eq_true rfl), (Nat.le_of_ble_eq_true rfl)⟩ (Nat.le_of_ble_eq_true rfl) dL_areSo_340 1 6 ⟨(Nat.le_of_ble_eq_true rfl), (Nat.le_of_ble_eq_true rfl)⟩ ⟨by show cells + 1 ≤ 66; omega, by show slots + 6 ≤ 4224; omega⟩ hv_80 (fun H locs G => ?_)
    refine lv_iload hx hb dL_areSo_343 (lv_at hl 10 rfl) ?_
    refine lv_icmp_ne (tgt := 403) hx hb dL_areSo_345 (by decide) (fun hc => ?_) (fun hc => ?_)
    · have hf := aw_ite_f hc hf
      exact w_L_areSo_J403 X hst hf ⟨by omega, by omega⟩  (lv_sub hl [0, 1, 2, 3, 4, 5, 6, 7, 8] rfl) G
    · have hf := aw_ite_t hc hf
      refine lv_aload_n hx hb dL_areSo_348 rfl (lv_at hl 0 rfl) ?_
      refine lv_iconst (v := (1 : Int32)) hx hb dL_areSo_349 (by decide) ?_
      obtain ⟨z_81, hz_82, hf⟩ := aw_bind_some hf
      obtain ⟨v_83, hv_84, hf⟩ := aw_nt_some hf
      refine aw_CXI (As := [.int ((1 : Int32))]) (rest := []) X G hl.1 cr_L_186 (c_X10_votes l hst hz_82) rfl rfl rfl (by decide) hc_76 rfl ⟨(Nat.le_of_ble_eq_true rfl), (Nat.le_of_ble_eq_true rfl)⟩ (Nat.le_of_ble_eq_true rfl) dL_areSo_350 1 6 ⟨(Nat.le_of_ble_eq_true rfl), (Nat.le_of_ble_eq_true rfl)⟩ ⟨by show cells + 1 + 1 ≤ 66; omega, by show slots + 6 + 6 ≤ 4224; omega⟩ hv_84 (fun H locs G => ?_)
      refine lv_iload hx hb dL_areSo_353 (lv_at hl 11 rfl) ?_
      refine lv_iload hx hb dL_areSo_355 (lv_at hl 10 rfl) ?_
      refine lv_isub hx hb dL_areSo_357 ?_
      refine lv_icmp_ne (tgt := 403) hx hb dL_areSo_358 (by decide) (fun hc => ?_) (fun hc => ?_)
      · have hf := aw_ite_f hc hf
        exact w_L_areSo_J403 X hst hf ⟨by omega, by omega⟩  (lv_sub hl [0, 1, 2, 3, 4, 5, 6, 7, 8] rfl) G
      · have hf := aw_ite_t hc hf
        refine lv_aload_n hx hb dL_areSo_361 rfl (lv_at hl 0 rfl) ?_
        refine lv_bipush (v := (12 : Int32)) hx hb dL_areSo_362 (by decide) ?_
        refine lv_iconst (v := (0 : Int32)) hx hb dL_areSo_364 (by decide) ?_
        refine lv_iconst (v := (0 : Int32)) hx hb dL_areSo_365 (by decide) ?_
        refine lv_iconst (v := (0 : Int32)) hx hb dL_areSo_366 (by decide) ?_
        refine lv_iconst (v := (0 : Int32)) hx hb dL_areSo_367 (by decide) ?_
        refine lv_iconst (v := (0 : Int32)) hx hb dL_areSo_368 (by decide) ?_
        obtain ⟨z_85, hz_86, hf⟩ := aw_bind_some hf
        refine aw_WI2 (As := [.ref (ad x0), .int ((12 : Int32)), .int ((0 : Int32)), .int ((0 : Int32)), .int ((0 : Int32)), .int ((0 : Int32)), .int ((0 : Int32))]) (rest := []) X G hl.1 cr_L_123 (c_L_does_12 l hst hz_86) rfl rfl rfl ⟨(Nat.le_of_ble_eq_true rfl), (Nat.le_of_ble_eq_true rfl)⟩ (Nat.le_of_ble_eq_true rfl) dL_areSo_369 1 6 ⟨(Nat.le_of_ble_eq_true rfl), (Nat.le_of_ble_eq_true rfl)⟩ ⟨by show cells + 1 + 1 + 1 ≤ 66; omega, by show slots + 6 + 6 + 6 ≤ 4224; omega⟩ (fun H locs G => ?_)
        refine lv_iload hx hb dL_areSo_372 (lv_at hl 11 rfl) ?_
        refine lv_if_ne (tgt := 381) hx hb dL_areSo_374 (by decide) (fun hc => ?_) (fun hc => ?_)
        · have hf := aw_ite_f hc hf
          refine lv_iload hx hb dL_areSo_381 (lv_at hl 10 rfl) ?_
          refine lv_iload hx hb dL_areSo_383 (lv_at hl 11 rfl) ?_
          refine lv_iload hx hb dL_areSo_385 (lv_at hl 10 rfl) ?_
          refine lv_isub hx hb dL_areSo_387 ?_
          refine lv_icmp_lt (tgt := 395) hx hb dL_areSo_388 (by decide) (fun hc => ?_) (fun hc => ?_)
          · have hf := aw_ite_t hc hf
            refine lv_iconst (v := (1 : Int32)) hx hb dL_areSo_395 (by decide) ?_
            exact w_L_areSo_J396 X hst hf ⟨by omega, by omega⟩  (lv_sub hl [0, 1, 2, 3, 4, 5, 6, 7, 8] rfl) G
          · have hf := aw_ite_f hc hf
            refine lv_iconst (v := (0 : Int32)) hx hb dL_areSo_391 (by decide) ?_
            refine lv_goto (tgt := 396) hx hb dL_areSo_392 (by decide) ?_
            exact w_L_areSo_J396 X hst hf ⟨by omega, by omega⟩  (lv_sub hl [0, 1, 2, 3, 4, 5, 6, 7, 8] rfl) G
        · have hf := aw_ite_t hc hf
          refine lv_iconst (v := (-1 : Int32)) hx hb dL_areSo_377 (by decide) ?_
          refine lv_goto (tgt := 396) hx hb dL_areSo_378 (by decide) ?_
          exact w_L_areSo_J396 X hst hf ⟨by omega, by omega⟩  (lv_sub hl [0, 1, 2, 3, 4, 5, 6, 7, 8] rfl) G
set_option maxHeartbeats 4000000 in
set_option maxRecDepth 100000 in
theorem w_L_areSo_J181 {z : Int32 × Dt} (X : aw_X p c cL_areSo 23 s RL m meth (some .boolean)) (hst : l.stackTraces = false) {x0 : Nat} {x1 : Nat} {x2 : Nat} {x3 : Nat} {x4 : Nat} {x5 : Nat} {x6 : Nat} {x7 : Nat} {x8 : Nat} {x11 : Nat} {x12 : Nat} {x13 : Int32} {d : Dt} (hf : f_L_areSo_J181 σ x0 x1 x2 x3 x4 x5 x6 x7 x8 x11 x12 x13 d = some z) { cells slots : Nat} (hB : cells + (37) ≤ 66 ∧ slots + 64 * (37) ≤ 4224)  {H : Heap} {locs : List Loc} {ls : Array Slot} (hl : lv_has ls 23 [(0, .ref (ad x0)), (1, .ref (ad x1)), (2, .ref (ad x2)), (3, .ref (ad x3)), (4, .ref (ad x4)), (5, .ref (ad x5)), (6, .ref (ad x6)), (7, .ref (ad x7)), (8, .ref (ad x8)), (11, .ref (ad x11)), (12, .ref (ad x12)), (13, .int x13)]) (G : aw_G D cA base ad σ d s H locs) : W p l e rm_L_areSo s m args below meth c H locs cells slots (aw_Ej D cA base ad σ below args s 66 4224 z) (F0 m 181 ls []) := by
  have hx := X.1; have hb := X.2.1; have hml := X.2.2.1; have hown := X.2.2.2.1
  unfold f_L_areSo_J181 at hf
  refine lv_aload hx hb dL_areSo_181 (lv_at hl 8 rfl) ?_
  refine lv_iconst (v := (1 : Int32)) hx hb dL_areSo_183 (by decide) ?_
  obtain ⟨hc_5, hf⟩ := aw_chk_some hf
  refine aw_ial hx hb G hc_5 dL_areSo_184 ?_
  refine lv_iconst (v := (2 : Int32)) hx hb dL_areSo_185 (by decide) ?_
  refine lv_icmp_lt (tgt := 194) hx hb dL_areSo_186 (by decide) (fun hc => ?_) (fun hc => ?_)
  · have hf := aw_ite_t hc hf
    exact w_L_areSo_J194 X hst hf ⟨by omega, by omega⟩  (lv_sub hl [11] rfl) G
  · have hf := aw_ite_f hc hf
    refine lv_iload hx hb dL_areSo_189 (lv_at hl 11 rfl) ?_
    refine lv_if_ne (tgt := 197) hx hb dL_areSo_191 (by decide) (fun hc => ?_) (fun hc => ?_)
    · have hf := aw_ite_f hc hf
      refine lv_iconst (v := (0 : Int32)) hx hb dL_areSo_197 (by decide) ?_
      refine lv_istore (lv' := [(14, .int ((0 : Int32))), (0, .ref (ad x0)), (1, .ref (ad x1)), (2, .ref (ad x2)), (3, .ref (ad x3)), (4, .ref (ad x4)), (5, .ref (ad x5)), (6, .ref (ad x6)), (7, .ref (ad x7)), (8, .ref (ad x8)), (11, .ref (ad x11)), (12, .ref (ad x12)), (13, .int x13)]) hx hb dL_areSo_198 hl (by decide) rfl (fun ls hl => ?_)
      refine lv_iconst (v := (0 : Int32)) hx hb dL_areSo_200 (by decide) ?_
      refine lv_istore (lv' := [(15, .int ((0 : Int32))), (14, .int ((0 : Int32))), (0, .ref (ad x0)), (1, .ref (ad x1)), (2, .ref (ad x2)), (3, .ref (ad x3)), (4, .ref (ad x4)), (5, .ref (ad x5)), (6, .ref (ad x6)), (7, .ref (ad x7)), (8, .ref (ad x8)), (11, .ref (ad x11)), (12, .ref (ad x12)), (13, .int x13)]) hx hb dL_areSo_201 hl (by decide) rfl (fun ls hl => ?_)
      refine lv_iconst (v := (0 : Int32)) hx hb dL_areSo_203 (by decide) ?_
      refine lv_istore (lv' := [(16, .int ((0 : Int32))), (15, .int ((0 : Int32))), (14, .int ((0 : Int32))), (0, .ref (ad x0)), (1, .ref (ad x1)), (2, .ref (ad x2)), (3, .ref (ad x3)), (4, .ref (ad x4)), (5, .ref (ad x5)), (6, .ref (ad x6)), (7, .ref (ad x7)), (8, .ref (ad x8)), (11, .ref (ad x11)), (12, .ref (ad x12)), (13, .int x13)]) hx hb dL_areSo_204 hl (by decide) rfl (fun ls hl => ?_)
      refine w_L_areSo_L206 X hst 6 hf ⟨by omega, by omega⟩  (fun x13_22 x14_23 x15_24 d_25 hf cells slots hB H locs ls hl G => ?_) (lv_sub hl [3, 4, 5, 6, 7, 8, 9, 10, 11, 12, 13, 14, 2, 1, 0] rfl) G
      exact w_L_areSo_J333 X hst hf ⟨by omega, by omega⟩  (lv_sub hl [0, 1, 2, 3, 4, 5, 6, 7, 8, 9, 10, 11] rfl) G
    · have hf := aw_ite_t hc hf
      exact w_L_areSo_J194 X hst hf ⟨by omega, by omega⟩  (lv_sub hl [11] rfl) G
set_option maxHeartbeats 4000000 in
set_option maxRecDepth 100000 in
theorem w_L_areSo_J173 {z : Int32 × Dt} (X : aw_X p c cL_areSo 23 s RL m meth (some .boolean)) (hst : l.stackTraces = false) {kb109 : Int32 → Int32 → Dt → Option (Int32 × Dt)} {t0 : Int32} {x0 : Nat} {x1 : Nat} {x2 : Nat} {x3 : Nat} {x4 : Nat} {x5 : Nat} {x6 : Nat} {x7 : Nat} {x8 : Nat} {x11 : Nat} {x12 : Nat} {x14 : Int32} {x15 : Int32} {x16 : Int32} {d : Dt} (hf : f_L_areSo_J173 σ kb109 t0 x0 x1 x2 x3 x4 x5 x6 x7 x8 x11 x12 x14 x15 x16 d = some z) {nb109 cells slots : Nat} (hB : cells + (37 + nb109 * 3) ≤ 66 ∧ slots + 64 * (37 + nb109 * 3) ≤ 4224) (hkb109 : ∀ (y13 : Int32) (y16 : Int32) (d : Dt), kb109 y13 y16 d = some z → ∀ (cells slots : Nat), cells + (37 + nb109 * 3) ≤ 66 ∧ slots + 64 * (37 + nb109 * 3) ≤ 4224 → ∀ (H : Heap) (locs : List Loc) (ls : Array Slot), lv_has ls 23 [(0, .ref (ad x0)), (1, .ref (ad x1)), (2, .ref (ad x2)), (3, .ref (ad x3)), (4, .ref (ad x4)), (5, .ref (ad x5)), (6, .ref (ad x6)), (7, .ref (ad x7)), (8, .ref (ad x8)), (11, .ref (ad x11)), (12, .ref (ad x12)), (13, .int y13), (14, .int x14), (15, .int x15), (16, .int y16)] → aw_G D cA base ad σ d s H locs → W p l e rm_L_areSo s m args below meth c H locs cells slots (aw_Ej D cA base ad σ below args s 66 4224 z) (F0 m 109 ls [])) {H : Heap} {locs : List Loc} {ls : Array Slot} (hl : lv_has ls 23 [(0, .ref (ad x0)), (1, .ref (ad x1)), (2, .ref (ad x2)), (3, .ref (ad x3)), (4, .ref (ad x4)), (5, .ref (ad x5)), (6, .ref (ad x6)), (7, .ref (ad x7)), (8, .ref (ad x8)), (11, .ref (ad x11)), (12, .ref (ad x12)), (14, .int x14), (15, .int x15), (16, .int x16)]) (G : aw_G D cA base ad σ d s H locs) : W p l e rm_L_areSo s m args below meth c H locs cells slots (aw_Ej D cA base ad σ below args s 66 4224 z) (F0 m 173 ls [.int t0]) := by
  have hx := X.1; have hb := X.2.1; have hml := X.2.2.1; have hown := X.2.2.2.1
  unfold f_L_areSo_J173 at hf
  refine lv_istore (lv' := [(13, .int t0), (0, .ref (ad x0)), (1, .ref (ad x1)), (2, .ref (ad x2)), (3, .ref (ad x3)), (4, .ref (ad x4)), (5, .ref (ad x5)), (6, .ref (ad x6)), (7, .ref (ad x7)), (8, .ref (ad x8)), (11, .ref (ad x11)), (12, .ref (ad x12)), (14, .int x14), (15, .int x15), (16, .int x16)]) hx hb dL_areSo_173 hl (by decide) rfl (fun ls hl => ?_)
  refine lv_iinc (v := x16 + 1) (lv' := [(16, .int (x16 + 1)), (13, .int t0), (0, .ref (ad x0)), (1, .ref (ad x1)), (2, .ref (ad x2)), (3, .ref (ad x3)), (4, .ref (ad x4)), (5, .ref (ad x5)), (6, .ref (ad x6)), (7, .ref (ad x7)), (8, .ref (ad x8)), (11, .ref (ad x11)), (12, .ref (ad x12)), (14, .int x14), (15, .int x15)]) hx hb dL_areSo_175 hl (k := 14) rfl rfl (by decide) rfl (fun ls hl => ?_)
  refine lv_goto (tgt := 109) hx hb dL_areSo_178 (by decide) ?_
  exact hkb109 _ _ _ hf _ _ ⟨by omega, by omega⟩ _ _ _ (lv_sub hl [2, 3, 4, 5, 6, 7, 8, 9, 10, 11, 12, 1, 13, 14, 0] rfl) G
set_option maxHeartbeats 4000000 in
set_option maxRecDepth 100000 in
theorem w_L_areSo_J165 {z : Int32 × Dt} (X : aw_X p c cL_areSo 23 s RL m meth (some .boolean)) (hst : l.stackTraces = false) {kb109 : Int32 → Int32 → Dt → Option (Int32 × Dt)} {t1 : Int32} {t0 : Int32} {x0 : Nat} {x1 : Nat} {x2 : Nat} {x3 : Nat} {x4 : Nat} {x5 : Nat} {x6 : Nat} {x7 : Nat} {x8 : Nat} {x11 : Nat} {x12 : Nat} {x14 : Int32} {x15 : Int32} {x16 : Int32} {d : Dt} (hf : f_L_areSo_J165 σ kb109 t1 t0 x0 x1 x2 x3 x4 x5 x6 x7 x8 x11 x12 x14 x15 x16 d = some z) {nb109 cells slots : Nat} (hB : cells + (37 + nb109 * 3) ≤ 66 ∧ slots + 64 * (37 + nb109 * 3) ≤ 4224) (hkb109 : ∀ (y13 : Int32) (y16 : Int32) (d : Dt), kb109 y13 y16 d = some z → ∀ (cells slots : Nat), cells + (37 + nb109 * 3) ≤ 66 ∧ slots + 64 * (37 + nb109 * 3) ≤ 4224 → ∀ (H : Heap) (locs : List Loc) (ls : Array Slot), lv_has ls 23 [(0, .ref (ad x0)), (1, .ref (ad x1)), (2, .ref (ad x2)), (3, .ref (ad x3)), (4, .ref (ad x4)), (5, .ref (ad x5)), (6, .ref (ad x6)), (7, .ref (ad x7)), (8, .ref (ad x8)), (11, .ref (ad x11)), (12, .ref (ad x12)), (13, .int y13), (14, .int x14), (15, .int x15), (16, .int y16)] → aw_G D cA base ad σ d s H locs → W p l e rm_L_areSo s m args below meth c H locs cells slots (aw_Ej D cA base ad σ below args s 66 4224 z) (F0 m 109 ls [])) {H : Heap} {locs : List Loc} {ls : Array Slot} (hl : lv_has ls 23 [(0, .ref (ad x0)), (1, .ref (ad x1)), (2, .ref (ad x2)), (3, .ref (ad x3)), (4, .ref (ad x4)), (5, .ref (ad x5)), (6, .ref (ad x6)), (7, .ref (ad x7)), (8, .ref (ad x8)), (11, .ref (ad x11)), (12, .ref (ad x12)), (14, .int x14), (15, .int x15), (16, .int x16)]) (G : aw_G D cA base ad σ d s H locs) : W p l e rm_L_areSo s m args below meth c H locs cells slots (aw_Ej D cA base ad σ below args s 66 4224 z) (F0 m 165 ls [.int t1, .int t0]) := by
  have hx := X.1; have hb := X.2.1; have hml := X.2.2.1; have hown := X.2.2.2.1
  unfold f_L_areSo_J165 at hf
  refine lv_icmp_ne (tgt := 172) hx hb dL_areSo_165 (by decide) (fun hc => ?_) (fun hc => ?_)
  · have hf := aw_ite_f hc hf
    refine lv_iconst (v := (0 : Int32)) hx hb dL_areSo_172 (by decide) ?_
    exact w_L_areSo_J173 X hst (nb109 := nb109) hf ⟨by omega, by omega⟩ hkb109 (lv_sub hl [0, 1, 2, 3, 4, 5, 6, 7, 8, 9, 10, 11, 12, 13] rfl) G
  · have hf := aw_ite_t hc hf
    refine lv_iconst (v := (1 : Int32)) hx hb dL_areSo_168 (by decide) ?_
    refine lv_goto (tgt := 173) hx hb dL_areSo_169 (by decide) ?_
    exact w_L_areSo_J173 X hst (nb109 := nb109) hf ⟨by omega, by omega⟩ hkb109 (lv_sub hl [0, 1, 2, 3, 4, 5, 6, 7, 8, 9, 10, 11, 12, 13] rfl) G
set_option maxHeartbeats 4000000 in
set_option maxRecDepth 100000 in
theorem w_L_areSo_J133 {z : Int32 × Dt} (X : aw_X p c cL_areSo 23 s RL m meth (some .boolean)) (hst : l.stackTraces = false) {kb109 : Int32 → Int32 → Dt → Option (Int32 × Dt)} {t1 : Int32} {t0 : Nat} {x0 : Nat} {x1 : Nat} {x2 : Nat} {x3 : Nat} {x4 : Nat} {x5 : Nat} {x6 : Nat} {x7 : Nat} {x8 : Nat} {x11 : Nat} {x12 : Nat} {x14 : Int32} {x15 : Int32} {x16 : Int32} {d : Dt} (hf : f_L_areSo_J133 σ kb109 t1 t0 x0 x1 x2 x3 x4 x5 x6 x7 x8 x11 x12 x14 x15 x16 d = some z) {nb109 cells slots : Nat} (hB : cells + (40 + nb109 * 3) ≤ 66 ∧ slots + 64 * (40 + nb109 * 3) ≤ 4224) (hkb109 : ∀ (y13 : Int32) (y16 : Int32) (d : Dt), kb109 y13 y16 d = some z → ∀ (cells slots : Nat), cells + (37 + nb109 * 3) ≤ 66 ∧ slots + 64 * (37 + nb109 * 3) ≤ 4224 → ∀ (H : Heap) (locs : List Loc) (ls : Array Slot), lv_has ls 23 [(0, .ref (ad x0)), (1, .ref (ad x1)), (2, .ref (ad x2)), (3, .ref (ad x3)), (4, .ref (ad x4)), (5, .ref (ad x5)), (6, .ref (ad x6)), (7, .ref (ad x7)), (8, .ref (ad x8)), (11, .ref (ad x11)), (12, .ref (ad x12)), (13, .int y13), (14, .int x14), (15, .int x15), (16, .int y16)] → aw_G D cA base ad σ d s H locs → W p l e rm_L_areSo s m args below meth c H locs cells slots (aw_Ej D cA base ad σ below args s 66 4224 z) (F0 m 109 ls [])) {H : Heap} {locs : List Loc} {ls : Array Slot} (hl : lv_has ls 23 [(0, .ref (ad x0)), (1, .ref (ad x1)), (2, .ref (ad x2)), (3, .ref (ad x3)), (4, .ref (ad x4)), (5, .ref (ad x5)), (6, .ref (ad x6)), (7, .ref (ad x7)), (8, .ref (ad x8)), (11, .ref (ad x11)), (12, .ref (ad x12)), (14, .int x14), (15, .int x15), (16, .int x16)]) (G : aw_G D cA base ad σ d s H locs) : W p l e rm_L_areSo s m args below meth c H locs cells slots (aw_Ej D cA base ad σ below args s 66 4224 z) (F0 m 133 ls [.int t1, .ref (ad t0)]) := by
  have hx := X.1; have hb := X.2.1; have hml := X.2.2.1; have hown := X.2.2.2.1
  unfold f_L_areSo_J133 at hf
  refine lv_iload hx hb dL_areSo_133 (lv_at hl 11 rfl) ?_
  refine lv_iload hx hb dL_areSo_135 (lv_at hl 13 rfl) ?_
  obtain ⟨hc_88, hf⟩ := aw_chk_some hf
  obtain ⟨z_89, hz_90, hf⟩ := aw_bind_some hf
  obtain ⟨v_91, hv_92, hf⟩ := aw_nt_some hf
  refine aw_CXI (As := [.int t1, .int x14, .int x16]) (rest := []) X G hl.1 cr_L_40 (c_X10_spoken l hst hz_90) rfl rfl rfl (by decide) hc_88 rfl ⟨(Nat.le_of_ble_eq_true rfl), (Nat.le_of_ble_eq_true rfl)⟩ (Nat.le_of_ble_eq_true rfl) dL_areSo_137 3 18 ⟨(Nat.le_of_ble_eq_true rfl), (Nat.le_of_ble_eq_true rfl)⟩ ⟨by show cells + 3 ≤ 66; omega, by show slots + 18 ≤ 4224; omega⟩ hv_92 (fun H locs G => ?_)
  refine lv_iload hx hb dL_areSo_140 (lv_at hl 13 rfl) ?_
  refine lv_aload_n hx hb dL_areSo_142 rfl (lv_at hl 2 rfl) ?_
  refine lv_iload hx hb dL_areSo_143 (lv_at hl 11 rfl) ?_
  obtain ⟨hc_93, hf⟩ := aw_chk_some hf
  refine aw_ial hx hb G hc_93 dL_areSo_145 ?_
  refine lv_icmp_ge (tgt := 164) hx hb dL_areSo_146 (by decide) (fun hc => ?_) (fun hc => ?_)
  · have hf := aw_ite_t hc hf
    refine lv_iconst (v := (-1 : Int32)) hx hb dL_areSo_164 (by decide) ?_
    exact w_L_areSo_J165 X hst (nb109 := nb109) hf ⟨by omega, by omega⟩ hkb109 (lv_sub hl [0, 1, 2, 3, 4, 5, 6, 7, 8, 9, 10, 11, 12, 13] rfl) G
  · have hf := aw_ite_f hc hf
    refine lv_aload_n hx hb dL_areSo_149 rfl (lv_at hl 1 rfl) ?_
    refine lv_aload_n hx hb dL_areSo_150 rfl (lv_at hl 2 rfl) ?_
    refine lv_aload_n hx hb dL_areSo_151 rfl (lv_at hl 3 rfl) ?_
    refine lv_iload hx hb dL_areSo_152 (lv_at hl 12 rfl) ?_
    refine lv_iload hx hb dL_areSo_154 (lv_at hl 11 rfl) ?_
    refine lv_iload hx hb dL_areSo_156 (lv_at hl 13 rfl) ?_
    obtain ⟨z_94, hz_95, hf⟩ := aw_bind_some hf
    refine aw_SI (As := [.ref (ad x1), .ref (ad x2), .ref (ad x3), .int x15, .int x14, .int x16]) (rest := [.int v_91]) X G hl.1 cr_L_75 (c_L_speaks l hz_95) ⟨rfl, rfl⟩ rfl rfl rfl ⟨(Nat.le_of_ble_eq_true rfl), (Nat.le_of_ble_eq_true rfl)⟩ (Nat.le_of_ble_eq_true rfl) dL_areSo_158 ⟨by show cells + 3 + 0 ≤ 66; omega, by show slots + 18 + 0 ≤ 4224; omega⟩ (fun H locs G => ?_)
    refine lv_goto (tgt := 165) hx hb dL_areSo_161 (by decide) ?_
    exact w_L_areSo_J165 X hst (nb109 := nb109) hf ⟨by omega, by omega⟩ hkb109 (lv_sub hl [0, 1, 2, 3, 4, 5, 6, 7, 8, 9, 10, 11, 12, 13] rfl) G
set_option maxHeartbeats 4000000 in
set_option maxRecDepth 100000 in
theorem w_L_areSo_B109 {z : Int32 × Dt} (X : aw_X p c cL_areSo 23 s RL m meth (some .boolean)) (hst : l.stackTraces = false) {kb109 : Int32 → Int32 → Dt → Option (Int32 × Dt)} {k109 : Int32 → Dt → Option (Int32 × Dt)} {x0 : Nat} {x1 : Nat} {x2 : Nat} {x3 : Nat} {x4 : Nat} {x5 : Nat} {x6 : Nat} {x7 : Nat} {x8 : Nat} {x11 : Nat} {x12 : Nat} {x14 : Int32} {x15 : Int32} {x13 : Int32} {x16 : Int32} {d : Dt} (hf : f_L_areSo_B109 σ kb109 k109 x0 x1 x2 x3 x4 x5 x6 x7 x8 x11 x12 x14 x15 x13 x16 d = some z) {nb109 cells slots : Nat} (hB : cells + (40 + nb109 * 3) ≤ 66 ∧ slots + 64 * (40 + nb109 * 3) ≤ 4224) (hkb109 : ∀ (y13 : Int32) (y16 : Int32) (d : Dt), kb109 y13 y16 d = some z → ∀ (cells slots : Nat), cells + (37 + nb109 * 3) ≤ 66 ∧ slots + 64 * (37 + nb109 * 3) ≤ 4224 → ∀ (H : Heap) (locs : List Loc) (ls : Array Slot), lv_has ls 23 [(0, .ref (ad x0)), (1, .ref (ad x1)), (2, .ref (ad x2)), (3, .ref (ad x3)), (4, .ref (ad x4)), (5, .ref (ad x5)), (6, .ref (ad x6)), (7, .ref (ad x7)), (8, .ref (ad x8)), (11, .ref (ad x11)), (12, .ref (ad x12)), (13, .int y13), (14, .int x14), (15, .int x15), (16, .int y16)] → aw_G D cA base ad σ d s H locs → W p l e rm_L_areSo s m args below meth c H locs cells slots (aw_Ej D cA base ad σ below args s 66 4224 z) (F0 m 109 ls [])) (hk109 : ∀ (y13 : Int32) (d : Dt), k109 y13 d = some z → ∀ (cells slots : Nat), cells + (37) ≤ 66 ∧ slots + 64 * (37) ≤ 4224 → ∀ (H : Heap) (locs : List Loc) (ls : Array Slot), lv_has ls 23 [(0, .ref (ad x0)), (1, .ref (ad x1)), (2, .ref (ad x2)), (3, .ref (ad x3)), (4, .ref (ad x4)), (5, .ref (ad x5)), (6, .ref (ad x6)), (7, .ref (ad x7)), (8, .ref (ad x8)), (11, .ref (ad x11)), (12, .ref (ad x12)), (13, .int y13)] → aw_G D cA base ad σ d s H locs → W p l e rm_L_areSo s m args below meth c H locs cells slots (aw_Ej D cA base ad σ below args s 66 4224 z) (F0 m 181 ls [])) {H : Heap} {locs : List Loc} {ls : Array Slot} (hl : lv_has ls 23 [(0, .ref (ad x0)), (1, .ref (ad x1)), (2, .ref (ad x2)), (3, .ref (ad x3)), (4, .ref (ad x4)), (5, .ref (ad x5)), (6, .ref (ad x6)), (7, .ref (ad x7)), (8, .ref (ad x8)), (11, .ref (ad x11)), (12, .ref (ad x12)), (13, .int x13), (14, .int x14), (15, .int x15), (16, .int x16)]) (G : aw_G D cA base ad σ d s H locs) : W p l e rm_L_areSo s m args below meth c H locs cells slots (aw_Ej D cA base ad σ below args s 66 4224 z) (F0 m 109 ls []) := by
  have hx := X.1; have hb := X.2.1; have hml := X.2.2.1; have hown := X.2.2.2.1
  unfold f_L_areSo_B109 at hf
  refine lv_iload hx hb dL_areSo_109 (lv_at hl 14 rfl) ?_
  refine lv_iconst (v := (5 : Int32)) hx hb dL_areSo_111 (by decide) ?_
  refine lv_icmp_ge (tgt := 181) hx hb dL_areSo_112 (by decide) (fun hc => ?_) (fun hc => ?_)
  · have hf := aw_ite_t hc hf
    exact hk109 _ _ hf _ _ ⟨by omega, by omega⟩ _ _ _ (lv_sub hl [0, 1, 2, 3, 4, 5, 6, 7, 8, 9, 10, 11] rfl) G
  · have hf := aw_ite_f hc hf
    refine lv_iload hx hb dL_areSo_115 (lv_at hl 11 rfl) ?_
    refine lv_if_eq (tgt := 181) hx hb dL_areSo_117 (by decide) (fun hc => ?_) (fun hc => ?_)
    · have hf := aw_ite_t hc hf
      exact hk109 _ _ hf _ _ ⟨by omega, by omega⟩ _ _ _ (lv_sub hl [0, 1, 2, 3, 4, 5, 6, 7, 8, 9, 10, 11] rfl) G
    · have hf := aw_ite_f hc hf
      refine lv_aload_n hx hb dL_areSo_120 rfl (lv_at hl 0 rfl) ?_
      refine lv_iload hx hb dL_areSo_121 (lv_at hl 13 rfl) ?_
      refine lv_iconst (v := (3 : Int32)) hx hb dL_areSo_123 (by decide) ?_
      refine lv_icmp_ne (tgt := 131) hx hb dL_areSo_124 (by decide) (fun hc => ?_) (fun hc => ?_)
      · have hf := aw_ite_f hc hf
        refine lv_iload hx hb dL_areSo_131 (lv_at hl 13 rfl) ?_
        exact w_L_areSo_J133 X hst (nb109 := nb109) hf ⟨by omega, by omega⟩ hkb109 (lv_sub hl [0, 1, 2, 3, 4, 5, 6, 7, 8, 9, 10, 12, 13, 14] rfl) G
      · have hf := aw_ite_t hc hf
        refine lv_iconst (v := (-1 : Int32)) hx hb dL_areSo_127 (by decide) ?_
        refine lv_goto (tgt := 133) hx hb dL_areSo_128 (by decide) ?_
        exact w_L_areSo_J133 X hst (nb109 := nb109) hf ⟨by omega, by omega⟩ hkb109 (lv_sub hl [0, 1, 2, 3, 4, 5, 6, 7, 8, 9, 10, 12, 13, 14] rfl) G
theorem w_L_areSo_L109 {z : Int32 × Dt} (X : aw_X p c cL_areSo 23 s RL m meth (some .boolean)) (hst : l.stackTraces = false) {k109 : Int32 → Dt → Option (Int32 × Dt)} {x0 : Nat} {x1 : Nat} {x2 : Nat} {x3 : Nat} {x4 : Nat} {x5 : Nat} {x6 : Nat} {x7 : Nat} {x8 : Nat} {x11 : Nat} {x12 : Nat} {x14 : Int32} {x15 : Int32} (n : Nat) {x13 : Int32} {x16 : Int32} {d : Dt} (hf : f_L_areSo_L109 σ n k109 x0 x1 x2 x3 x4 x5 x6 x7 x8 x11 x12 x14 x15 x13 x16 d = some z) { cells slots : Nat} (hB : cells + (37 + n * 3) ≤ 66 ∧ slots + 64 * (37 + n * 3) ≤ 4224) (hk109 : ∀ (y13 : Int32) (d : Dt), k109 y13 d = some z → ∀ (cells slots : Nat), cells + (37) ≤ 66 ∧ slots + 64 * (37) ≤ 4224 → ∀ (H : Heap) (locs : List Loc) (ls : Array Slot), lv_has ls 23 [(0, .ref (ad x0)), (1, .ref (ad x1)), (2, .ref (ad x2)), (3, .ref (ad x3)), (4, .ref (ad x4)), (5, .ref (ad x5)), (6, .ref (ad x6)), (7, .ref (ad x7)), (8, .ref (ad x8)), (11, .ref (ad x11)), (12, .ref (ad x12)), (13, .int y13)] → aw_G D cA base ad σ d s H locs → W p l e rm_L_areSo s m args below meth c H locs cells slots (aw_Ej D cA base ad σ below args s 66 4224 z) (F0 m 181 ls [])) {H : Heap} {locs : List Loc} {ls : Array Slot} (hl : lv_has ls 23 [(0, .ref (ad x0)), (1, .ref (ad x1)), (2, .ref (ad x2)), (3, .ref (ad x3)), (4, .ref (ad x4)), (5, .ref (ad x5)), (6, .ref (ad x6)), (7, .ref (ad x7)), (8, .ref (ad x8)), (11, .ref (ad x11)), (12, .ref (ad x12)), (13, .int x13), (14, .int x14), (15, .int x15), (16, .int x16)]) (G : aw_G D cA base ad σ d s H locs) : W p l e rm_L_areSo s m args below meth c H locs cells slots (aw_Ej D cA base ad σ below args s 66 4224 z) (F0 m 109 ls []) := by
  induction n generalizing x13 x16 d cells slots H locs ls with
  | zero => exact absurd (show (none : Option (Int32 × Dt)) = some z from hf) (by simp)
  | succ n ih => exact w_L_areSo_B109 X hst (nb109 := n) (kb109 := f_L_areSo_L109 σ n k109 x0 x1 x2 x3 x4 x5 x6 x7 x8 x11 x12 x14 x15) hf ⟨by omega, by omega⟩  (fun x13 x16 d hf cells slots hB H locs ls hl G => ih hf hB hl G) hk109 hl G
set_option maxHeartbeats 4000000 in
set_option maxRecDepth 100000 in
theorem w_L_areSo_J77 {z : Int32 × Dt} (X : aw_X p c cL_areSo 23 s RL m meth (some .boolean)) (hst : l.stackTraces = false) {t0 : Int32} {x0 : Nat} {x1 : Nat} {x2 : Nat} {x3 : Nat} {x4 : Nat} {x5 : Nat} {x6 : Nat} {x7 : Nat} {x8 : Nat} {x9 : Int32} {x10 : Int32} {x11 : Nat} {x12 : Nat} {d : Dt} (hf : f_L_areSo_J77 σ t0 x0 x1 x2 x3 x4 x5 x6 x7 x8 x9 x10 x11 x12 d = some z) { cells slots : Nat} (hB : cells + (58) ≤ 66 ∧ slots + 64 * (58) ≤ 4224)  {H : Heap} {locs : List Loc} {ls : Array Slot} (hl : lv_has ls 23 [(0, .ref (ad x0)), (1, .ref (ad x1)), (2, .ref (ad x2)), (3, .ref (ad x3)), (4, .ref (ad x4)), (5, .ref (ad x5)), (6, .ref (ad x6)), (7, .ref (ad x7)), (8, .ref (ad x8)), (9, .int x9), (10, .int x10), (11, .ref (ad x11)), (12, .ref (ad x12))]) (G : aw_G D cA base ad σ d s H locs) : W p l e rm_L_areSo s m args below meth c H locs cells slots (aw_Ej D cA base ad σ below args s 66 4224 z) (F0 m 77 ls [.int t0]) := by
  have hx := X.1; have hb := X.2.1; have hml := X.2.2.1; have hown := X.2.2.2.1
  unfold f_L_areSo_J77 at hf
  refine lv_istore (lv' := [(13, .int t0), (0, .ref (ad x0)), (1, .ref (ad x1)), (2, .ref (ad x2)), (3, .ref (ad x3)), (4, .ref (ad x4)), (5, .ref (ad x5)), (6, .ref (ad x6)), (7, .ref (ad x7)), (8, .ref (ad x8)), (9, .int x9), (10, .int x10), (11, .ref (ad x11)), (12, .ref (ad x12))]) hx hb dL_areSo_77 hl (by decide) rfl (fun ls hl => ?_)
  refine lv_aload hx hb dL_areSo_79 (lv_at hl 9 rfl) ?_
  refine lv_iconst (v := (0 : Int32)) hx hb dL_areSo_81 (by decide) ?_
  obtain ⟨hc_4, hf⟩ := aw_chk_some hf
  refine aw_ial hx hb G hc_4 dL_areSo_82 ?_
  refine lv_if_le (tgt := 181) hx hb dL_areSo_83 (by decide) (fun hc => ?_) (fun hc => ?_)
  · have hf := aw_ite_t hc hf
    exact w_L_areSo_J181 X hst hf ⟨by omega, by omega⟩  (lv_sub hl [1, 2, 3, 4, 5, 6, 7, 8, 9, 12, 13, 0] rfl) G
  · have hf := aw_ite_f hc hf
    refine lv_iload hx hb dL_areSo_86 (lv_at hl 0 rfl) ?_
    refine lv_if_eq (tgt := 181) hx hb dL_areSo_88 (by decide) (fun hc => ?_) (fun hc => ?_)
    · have hf := aw_ite_t hc hf
      exact w_L_areSo_J181 X hst hf ⟨by omega, by omega⟩  (lv_sub hl [1, 2, 3, 4, 5, 6, 7, 8, 9, 12, 13, 0] rfl) G
    · have hf := aw_ite_f hc hf
      refine lv_iload hx hb dL_areSo_91 (lv_at hl 10 rfl) ?_
      refine lv_aload hx hb dL_areSo_93 (lv_at hl 9 rfl) ?_
      refine lv_iconst (v := (0 : Int32)) hx hb dL_areSo_95 (by decide) ?_
      refine aw_ial hx hb G hc_4 dL_areSo_96 ?_
      obtain ⟨hc_87, hf⟩ := aw_chk_some hf
      refine lv_irem hx hb dL_areSo_97 hc_87 ?_
      refine lv_istore (lv' := [(14, .int (x9 - x9 / (d.1 x8 ((0 : Int32)).toNatClampNeg) * (d.1 x8 ((0 : Int32)).toNatClampNeg))), (13, .int t0), (0, .ref (ad x0)), (1, .ref (ad x1)), (2, .ref (ad x2)), (3, .ref (ad x3)), (4, .ref (ad x4)), (5, .ref (ad x5)), (6, .ref (ad x6)), (7, .ref (ad x7)), (8, .ref (ad x8)), (9, .int x9), (10, .int x10), (11, .ref (ad x11)), (12, .ref (ad x12))]) hx hb dL_areSo_98 hl (by decide) rfl (fun ls hl => ?_)
      refine lv_iload hx hb dL_areSo_100 (lv_at hl 12 rfl) ?_
      refine lv_iconst (v := (4 : Int32)) hx hb dL_areSo_102 (by decide) ?_
      refine lv_irem hx hb dL_areSo_103 (by decide) ?_
      refine lv_istore (lv' := [(15, .int (x10 - x10 / (4 : Int32) * (4 : Int32))), (14, .int (x9 - x9 / (d.1 x8 ((0 : Int32)).toNatClampNeg) * (d.1 x8 ((0 : Int32)).toNatClampNeg))), (13, .int t0), (0, .ref (ad x0)), (1, .ref (ad x1)), (2, .ref (ad x2)), (3, .ref (ad x3)), (4, .ref (ad x4)), (5, .ref (ad x5)), (6, .ref (ad x6)), (7, .ref (ad x7)), (8, .ref (ad x8)), (9, .int x9), (10, .int x10), (11, .ref (ad x11)), (12, .ref (ad x12))]) hx hb dL_areSo_104 hl (by decide) rfl (fun ls hl => ?_)
      refine lv_iconst (v := (0 : Int32)) hx hb dL_areSo_106 (by decide) ?_
      refine lv_istore (lv' := [(16, .int ((0 : Int32))), (15, .int (x10 - x10 / (4 : Int32) * (4 : Int32))), (14, .int (x9 - x9 / (d.1 x8 ((0 : Int32)).toNatClampNeg) * (d.1 x8 ((0 : Int32)).toNatClampNeg))), (13, .int t0), (0, .ref (ad x0)), (1, .ref (ad x1)), (2, .ref (ad x2)), (3, .ref (ad x3)), (4, .ref (ad x4)), (5, .ref (ad x5)), (6, .ref (ad x6)), (7, .ref (ad x7)), (8, .ref (ad x8)), (9, .int x9), (10, .int x10), (11, .ref (ad x11)), (12, .ref (ad x12))]) hx hb dL_areSo_107 hl (by decide) rfl (fun ls hl => ?_)
      refine w_L_areSo_L109 X hst 7 hf ⟨by omega, by omega⟩  (fun x13_96 d_97 hf cells slots hB H locs ls hl G => ?_) (lv_sub hl [4, 5, 6, 7, 8, 9, 10, 11, 12, 15, 16, 3, 2, 1, 0] rfl) G
      exact w_L_areSo_J181 X hst hf ⟨by omega, by omega⟩  (lv_sub hl [0, 1, 2, 3, 4, 5, 6, 7, 8, 9, 10, 11] rfl) G
set_option maxHeartbeats 4000000 in
set_option maxRecDepth 100000 in
theorem w_L_areSo_J76 {z : Int32 × Dt} (X : aw_X p c cL_areSo 23 s RL m meth (some .boolean)) (hst : l.stackTraces = false) {x0 : Nat} {x1 : Nat} {x2 : Nat} {x3 : Nat} {x4 : Nat} {x5 : Nat} {x6 : Nat} {x7 : Nat} {x8 : Nat} {x9 : Int32} {x10 : Int32} {x11 : Nat} {x12 : Nat} {d : Dt} (hf : f_L_areSo_J76 σ x0 x1 x2 x3 x4 x5 x6 x7 x8 x9 x10 x11 x12 d = some z) { cells slots : Nat} (hB : cells + (58) ≤ 66 ∧ slots + 64 * (58) ≤ 4224)  {H : Heap} {locs : List Loc} {ls : Array Slot} (hl : lv_has ls 23 [(0, .ref (ad x0)), (1, .ref (ad x1)), (2, .ref (ad x2)), (3, .ref (ad x3)), (4, .ref (ad x4)), (5, .ref (ad x5)), (6, .ref (ad x6)), (7, .ref (ad x7)), (8, .ref (ad x8)), (9, .int x9), (10, .int x10), (11, .ref (ad x11)), (12, .ref (ad x12))]) (G : aw_G D cA base ad σ d s H locs) : W p l e rm_L_areSo s m args below meth c H locs cells slots (aw_Ej D cA base ad σ below args s 66 4224 z) (F0 m 76 ls []) := by
  have hx := X.1; have hb := X.2.1; have hml := X.2.2.1; have hown := X.2.2.2.1
  unfold f_L_areSo_J76 at hf
  refine lv_iconst (v := (0 : Int32)) hx hb dL_areSo_76 (by decide) ?_
  exact w_L_areSo_J77 X hst hf ⟨by omega, by omega⟩  (lv_sub hl [0, 1, 2, 3, 4, 5, 6, 7, 8, 9, 10, 11, 12] rfl) G
end W_L_areSo
set_option maxHeartbeats 4000000 in
set_option maxRecDepth 100000 in
theorem c_L_areSo (l : Launch) (hst : l.stackTraces = false) {σ : Sg} {x0 : Nat} {x1 : Nat} {x2 : Nat} {x3 : Nat} {x4 : Nat} {x5 : Nat} {x6 : Nat} {x7 : Nat} {x8 : Nat} {x9 : Int32} {x10 : Int32} {x11 : Nat} {x12 : Nat} {d : Dt} {z : Int32 × Dt} (hf : f_L_areSo σ x0 x1 x2 x3 x4 x5 x6 x7 x8 x9 x10 x11 x12 d = some z) : aw_Mi l yL_areSo (Cond.code yL_areSo cL_areSo 23 (some .boolean)) rm_L_areSo (fun ad => [.ref (ad x0), .ref (ad x1), .ref (ad x2), .ref (ad x3), .ref (ad x4), .ref (ad x5), .ref (ad x6), .ref (ad x7), .ref (ad x8), .int x9, .int x10, .ref (ad x11), .ref (ad x12)]) σ d z := by
  intro D cA base ad
  refine aw_ofW (own := RL) (cc := cL_areSo) (nL := 23) (ret := some .boolean) (by decide) rfl rfl ?_
  intro p e s m below meth c X hnm G
  have hx := X.1; have hb := X.2.1; have hml := X.2.2.1; have hown := X.2.2.2.1
  refine aw_ls (lv := [(0, .ref (ad x0)), (1, .ref (ad x1)), (2, .ref (ad x2)), (3, .ref (ad x3)), (4, .ref (ad x4)), (5, .ref (ad x5)), (6, .ref (ad x6)), (7, .ref (ad x7)), (8, .ref (ad x8)), (9, .int x9), (10, .int x10), (11, .ref (ad x11)), (12, .ref (ad x12))]) (Nat.le_of_ble_eq_true rfl) rfl (fun ls hl => ?_)
  have hB : 0 + 66 ≤ 66 ∧ 0 + 64 * 66 ≤ 4224 := by decide
  unfold f_L_areSo at hf
  refine lv_aload_n hx hb dL_areSo_0 rfl (lv_at hl 0 rfl) ?_
  refine lv_bipush (v := (9 : Int32)) hx hb dL_areSo_1 (by decide) ?_
  refine lv_aload hx hb dL_areSo_3 (lv_at hl 8 rfl) ?_
  refine lv_iconst (v := (1 : Int32)) hx hb dL_areSo_5 (by decide) ?_
  obtain ⟨hc_1, hf⟩ := aw_chk_some hf
  refine aw_ial hx hb G hc_1 dL_areSo_6 ?_
  refine lv_iconst (v := (0 : Int32)) hx hb dL_areSo_7 (by decide) ?_
  refine lv_iconst (v := (0 : Int32)) hx hb dL_areSo_8 (by decide) ?_
  refine lv_iconst (v := (0 : Int32)) hx hb dL_areSo_9 (by decide) ?_
  refine lv_iconst (v := (0 : Int32)) hx hb dL_areSo_10 (by decide) ?_
  obtain ⟨z_2, hz_3, hf⟩ := aw_bind_some hf
  refine aw_WI2 (As := [.ref (ad x0), .int ((9 : Int32)), .int (d.1 x8 ((1 : Int32)).toNatClampNeg), .int ((0 : Int32)), .int ((0 : Int32)), .int ((0 : Int32)), .int ((0 : Int32))]) (rest := []) X G hl.1 cr_L_123 (c_L_does_9 l hst hz_3) rfl rfl rfl ⟨(Nat.le_of_ble_eq_true rfl), (Nat.le_of_ble_eq_true rfl)⟩ (Nat.le_of_ble_eq_true rfl) dL_areSo_11 3 18 ⟨(Nat.le_of_ble_eq_true rfl), (Nat.le_of_ble_eq_true rfl)⟩ ⟨by show 0 + 3 ≤ 66; omega, by show 0 + 18 ≤ 4224; omega⟩ (fun H locs G => ?_)
  refine lv_ldc (v := (-3000000 : Int32)) hx hb hown (G.1.hts _ m_759) dL_areSo_14 ?_
  refine lv_icmp_ne (tgt := 76) hx hb dL_areSo_16 (by decide) (fun hc => ?_) (fun hc => ?_)
  · have hf := aw_ite_f hc hf
    exact w_L_areSo_J76 X hst hf ⟨by omega, by omega⟩  (lv_sub hl [0, 1, 2, 3, 4, 5, 6, 7, 8, 9, 10, 11, 12] rfl) G
  · have hf := aw_ite_t hc hf
    refine lv_aload_n hx hb dL_areSo_19 rfl (lv_at hl 0 rfl) ?_
    refine lv_bipush (v := (8 : Int32)) hx hb dL_areSo_20 (by decide) ?_
    refine lv_iconst (v := (3 : Int32)) hx hb dL_areSo_22 (by decide) ?_
    refine lv_iconst (v := (0 : Int32)) hx hb dL_areSo_23 (by decide) ?_
    refine lv_iconst (v := (0 : Int32)) hx hb dL_areSo_24 (by decide) ?_
    refine lv_iconst (v := (0 : Int32)) hx hb dL_areSo_25 (by decide) ?_
    refine lv_iconst (v := (0 : Int32)) hx hb dL_areSo_26 (by decide) ?_
    obtain ⟨z_98, hz_99, hf⟩ := aw_bind_some hf
    refine aw_WI2 (As := [.ref (ad x0), .int ((8 : Int32)), .int ((3 : Int32)), .int ((0 : Int32)), .int ((0 : Int32)), .int ((0 : Int32)), .int ((0 : Int32))]) (rest := []) X G hl.1 cr_L_123 (c_L_does_8 l hst hz_99) rfl rfl rfl ⟨(Nat.le_of_ble_eq_true rfl), (Nat.le_of_ble_eq_true rfl)⟩ (Nat.le_of_ble_eq_true rfl) dL_areSo_27 3 18 ⟨(Nat.le_of_ble_eq_true rfl), (Nat.le_of_ble_eq_true rfl)⟩ ⟨by show 0 + 3 + 3 ≤ 66; omega, by show 0 + 18 + 18 ≤ 4224; omega⟩ (fun H locs G => ?_)
    refine lv_ldc (v := (-3000000 : Int32)) hx hb hown (G.1.hts _ m_759) dL_areSo_30 ?_
    refine lv_icmp_ne (tgt := 76) hx hb dL_areSo_32 (by decide) (fun hc => ?_) (fun hc => ?_)
    · have hf := aw_ite_f hc hf
      exact w_L_areSo_J76 X hst hf ⟨by omega, by omega⟩  (lv_sub hl [0, 1, 2, 3, 4, 5, 6, 7, 8, 9, 10, 11, 12] rfl) G
    · have hf := aw_ite_t hc hf
      refine lv_aload_n hx hb dL_areSo_35 rfl (lv_at hl 0 rfl) ?_
      refine lv_iload hx hb dL_areSo_36 (lv_at hl 9 rfl) ?_
      refine lv_bipush (v := (50 : Int32)) hx hb dL_areSo_38 (by decide) ?_
      refine lv_irem hx hb dL_areSo_40 (by decide) ?_
      refine lv_iload hx hb dL_areSo_41 (lv_at hl 10 rfl) ?_
      refine lv_bipush (v := (50 : Int32)) hx hb dL_areSo_43 (by decide) ?_
      refine lv_irem hx hb dL_areSo_45 (by decide) ?_
      obtain ⟨hc_100, hf⟩ := aw_chk_some hf
      obtain ⟨z_101, hz_102, hf⟩ := aw_bind_some hf
      obtain ⟨v_103, hv_104, hf⟩ := aw_nt_some hf
      refine aw_CXI (As := [.int (x9 - x9 / (50 : Int32) * (50 : Int32)), .int (x10 - x10 / (50 : Int32) * (50 : Int32))]) (rest := []) X G hl.1 cr_L_178 (c_X10_apart l hst hz_102) rfl rfl rfl (by decide) hc_100 rfl ⟨(Nat.le_of_ble_eq_true rfl), (Nat.le_of_ble_eq_true rfl)⟩ (Nat.le_of_ble_eq_true rfl) dL_areSo_46 2 12 ⟨(Nat.le_of_ble_eq_true rfl), (Nat.le_of_ble_eq_true rfl)⟩ ⟨by show 0 + 3 + 3 + 2 ≤ 66; omega, by show 0 + 18 + 18 + 12 ≤ 4224; omega⟩ hv_104 (fun H locs G => ?_)
      refine lv_aload_n hx hb dL_areSo_49 rfl (lv_at hl 2 rfl) ?_
      refine lv_aload hx hb dL_areSo_50 (lv_at hl 6 rfl) ?_
      refine lv_iload hx hb dL_areSo_52 (lv_at hl 9 rfl) ?_
      refine lv_bipush (v := (50 : Int32)) hx hb dL_areSo_54 (by decide) ?_
      refine lv_irem hx hb dL_areSo_56 (by decide) ?_
      obtain ⟨hc_105, hf⟩ := aw_chk_some hf
      refine aw_ial hx hb G hc_105 dL_areSo_57 ?_
      refine lv_aload hx hb dL_areSo_58 (lv_at hl 6 rfl) ?_
      refine lv_iload hx hb dL_areSo_60 (lv_at hl 10 rfl) ?_
      refine lv_bipush (v := (50 : Int32)) hx hb dL_areSo_62 (by decide) ?_
      refine lv_irem hx hb dL_areSo_64 (by decide) ?_
      obtain ⟨hc_106, hf⟩ := aw_chk_some hf
      refine aw_ial hx hb G hc_106 dL_areSo_65 ?_
      obtain ⟨z_107, hz_108, hf⟩ := aw_bind_some hf
      refine aw_SI (As := [.ref (ad x2), .int (z_101.2.1 x6 (x9 - x9 / (50 : Int32) * (50 : Int32)).toNatClampNeg), .int (z_101.2.1 x6 (x10 - x10 / (50 : Int32) * (50 : Int32)).toNatClampNeg)]) (rest := [.int v_103]) X G hl.1 cr_L_111 (c_L_apart l hz_108) ⟨rfl, rfl⟩ rfl rfl rfl ⟨(Nat.le_of_ble_eq_true rfl), (Nat.le_of_ble_eq_true rfl)⟩ (Nat.le_of_ble_eq_true rfl) dL_areSo_66 ⟨by show 0 + 3 + 3 + 2 + 0 ≤ 66; omega, by show 0 + 18 + 18 + 12 + 0 ≤ 4224; omega⟩ (fun H locs G => ?_)
      refine lv_icmp_ne (tgt := 76) hx hb dL_areSo_69 (by decide) (fun hc => ?_) (fun hc => ?_)
      · have hf := aw_ite_f hc hf
        exact w_L_areSo_J76 X hst hf ⟨by omega, by omega⟩  (lv_sub hl [0, 1, 2, 3, 4, 5, 6, 7, 8, 9, 10, 11, 12] rfl) G
      · have hf := aw_ite_t hc hf
        refine lv_iconst (v := (1 : Int32)) hx hb dL_areSo_72 (by decide) ?_
        refine lv_goto (tgt := 77) hx hb dL_areSo_73 (by decide) ?_
        exact w_L_areSo_J77 X hst hf ⟨by omega, by omega⟩  (lv_sub hl [0, 1, 2, 3, 4, 5, 6, 7, 8, 9, 10, 11, 12] rfl) G
def rm_L_isWord : Room := { frames := 9, cells := 2, slots := 128, locals := 164 }
def f_L_isWord_J677 (σ : Sg) (t0 : Int32) (d : Dt) : Option (Int32 × Dt) :=
  aw_chk (t0 &&& 1 = t0) (some (t0, d))
def f_L_isWord_J669 (σ : Sg) (t1 : Int32) (t0 : Int32) (d : Dt) : Option (Int32 × Dt) :=
  if t0 = t1 then f_L_isWord_J677 σ ((1 : Int32)) d else f_L_isWord_J677 σ ((0 : Int32)) d
def f_L_isWord_J607 (σ : Sg) (x0 : Nat) (x3 : Nat) (x8 : Int32) (x9 : Int32) (x10 : Int32) (x11 : Int32) (x12 : Int32) (x13 : Int32) (x14 : Int32) (x15 : Int32) (d : Dt) : Option (Int32 × Dt) :=
  if x13 = 0 then (f_L_does_2 σ x0 x8 x9 x11 x12 ((0 : Int32)) d).bind (fun z_3 => if x14 = 0 then f_L_isWord_J669 σ ((-3000000 : Int32)) z_3.1 z_3.2 else if x11 = x10 then f_L_isWord_J669 σ ((-2000000 : Int32)) z_3.1 z_3.2 else if x15 = 0 then f_L_isWord_J669 σ ((-1000000 : Int32)) z_3.1 z_3.2 else aw_chk (aw_I σ 20 x3 (((18 : Int32)) + x8)) (f_L_isWord_J669 σ (z_3.2.1 x3 (((18 : Int32)) + x8).toNatClampNeg) z_3.1 z_3.2)) else (f_L_does_2 σ x0 x8 x9 x11 x12 ((1 : Int32)) d).bind (fun z_7 => if x14 = 0 then f_L_isWord_J669 σ ((-3000000 : Int32)) z_7.1 z_7.2 else if x11 = x10 then f_L_isWord_J669 σ ((-2000000 : Int32)) z_7.1 z_7.2 else if x15 = 0 then f_L_isWord_J669 σ ((-1000000 : Int32)) z_7.1 z_7.2 else aw_chk (aw_I σ 20 x3 (((18 : Int32)) + x8)) (f_L_isWord_J669 σ (z_7.2.1 x3 (((18 : Int32)) + x8).toNatClampNeg) z_7.1 z_7.2))
def f_L_isWord_J594 (σ : Sg) (t3 : Int32) (t2 : Int32) (t1 : Int32) (t0 : Nat) (x0 : Nat) (x3 : Nat) (x8 : Int32) (x9 : Int32) (x10 : Int32) (x11 : Int32) (x12 : Int32) (x13 : Int32) (x14 : Int32) (x15 : Int32) (d : Dt) : Option (Int32 × Dt) :=
  aw_chk (aw_I σ 20 t0 t1) (aw_chk (aw_I σ 20 x3 (((18 : Int32)) + x8)) (f_L_isWord_J607 σ x0 x3 x8 x9 x10 x11 x12 x13 x14 x15 (aw_sI (aw_sI d t0 t1.toNatClampNeg (t2 + t3)) x3 (((18 : Int32)) + x8).toNatClampNeg (((aw_sI d t0 t1.toNatClampNeg (t2 + t3)).1 x3 (((18 : Int32)) + x8).toNatClampNeg) + ((1 : Int32))))))
def f_L_isWord_J548 (σ : Sg) (t0 : Int32) (x0 : Nat) (x3 : Nat) (x8 : Int32) (x9 : Int32) (x10 : Int32) (x11 : Int32) (x12 : Int32) (x13 : Int32) (x14 : Int32) (d : Dt) : Option (Int32 × Dt) :=
  if t0 = 0 then f_L_isWord_J607 σ x0 x3 x8 x9 x10 x11 x12 x13 x14 t0 d else aw_chk (aw_I σ 20 x3 (((18 : Int32)) + x8)) (if x13 = 0 then f_L_isWord_J594 σ ((0 : Int32)) ((x9 + (((4 : Int32)) * x11)) + (((64 : Int32)) * x12)) ((((6 : Int32)) * x8) + (d.1 x3 (((18 : Int32)) + x8).toNatClampNeg)) x3 x0 x3 x8 x9 x10 x11 x12 x13 x14 t0 d else f_L_isWord_J594 σ ((1024 : Int32)) ((x9 + (((4 : Int32)) * x11)) + (((64 : Int32)) * x12)) ((((6 : Int32)) * x8) + (d.1 x3 (((18 : Int32)) + x8).toNatClampNeg)) x3 x0 x3 x8 x9 x10 x11 x12 x13 x14 t0 d)
def f_L_isWord_J547 (σ : Sg) (x0 : Nat) (x3 : Nat) (x8 : Int32) (x9 : Int32) (x10 : Int32) (x11 : Int32) (x12 : Int32) (x13 : Int32) (x14 : Int32) (d : Dt) : Option (Int32 × Dt) :=
  f_L_isWord_J548 σ ((0 : Int32)) x0 x3 x8 x9 x10 x11 x12 x13 x14 d
def f_L_isWord_J517 (σ : Sg) (t0 : Int32) (x0 : Nat) (x3 : Nat) (x8 : Int32) (x9 : Int32) (x10 : Int32) (x11 : Int32) (x12 : Int32) (x13 : Int32) (d : Dt) : Option (Int32 × Dt) :=
  if t0 = 0 then f_L_isWord_J547 σ x0 x3 x8 x9 x10 x11 x12 x13 t0 d else if x10 ≤ x11 then f_L_isWord_J547 σ x0 x3 x8 x9 x10 x11 x12 x13 t0 d else aw_chk (aw_I σ 20 x3 (((18 : Int32)) + x8)) (if ((6 : Int32)) ≤ (d.1 x3 (((18 : Int32)) + x8).toNatClampNeg) then f_L_isWord_J547 σ x0 x3 x8 x9 x10 x11 x12 x13 t0 d else f_L_isWord_J548 σ ((1 : Int32)) x0 x3 x8 x9 x10 x11 x12 x13 t0 d)
def f_L_isWord_J516 (σ : Sg) (x0 : Nat) (x3 : Nat) (x8 : Int32) (x9 : Int32) (x10 : Int32) (x11 : Int32) (x12 : Int32) (x13 : Int32) (d : Dt) : Option (Int32 × Dt) :=
  f_L_isWord_J517 σ ((0 : Int32)) x0 x3 x8 x9 x10 x11 x12 x13 d
def f_L_isWord_J498 (σ : Sg) (t0 : Int32) (x0 : Nat) (x3 : Nat) (x8 : Int32) (x9 : Int32) (x10 : Int32) (x11 : Int32) (x12 : Int32) (d : Dt) : Option (Int32 × Dt) :=
  if ((3 : Int32)) ≤ x8 then f_L_isWord_J516 σ x0 x3 x8 x9 x10 x11 x12 t0 d else if ((4 : Int32)) ≤ x9 then f_L_isWord_J516 σ x0 x3 x8 x9 x10 x11 x12 t0 d else f_L_isWord_J517 σ ((1 : Int32)) x0 x3 x8 x9 x10 x11 x12 t0 d
def f_L_isWord_J470 (σ : Sg) (t2 : Int32) (t1 : Int32) (t0 : Int32) (x0 : Nat) (x3 : Nat) (x7 : Int32) (x8 : Int32) (x9 : Int32) (x10 : Int32) (d : Dt) : Option (Int32 × Dt) :=
  aw_chk (¬ (t1 + t2) = 0) (aw_chk (¬ x10 = 0) (if ((x7 / (5 : Int32)) - (x7 / (5 : Int32)) / (3 : Int32) * (3 : Int32)) = 0 then f_L_isWord_J498 σ ((1 : Int32)) x0 x3 x8 x9 x10 (t0 - t0 / (t1 + t2) * (t1 + t2)) ((x7 / (13 : Int32)) - (x7 / (13 : Int32)) / x10 * x10) d else f_L_isWord_J498 σ ((0 : Int32)) x0 x3 x8 x9 x10 (t0 - t0 / (t1 + t2) * (t1 + t2)) ((x7 / (13 : Int32)) - (x7 / (13 : Int32)) / x10 * x10) d))
def f_L_isWord_J445 (σ : Sg) (t0 : Int32) (x0 : Nat) (x3 : Nat) (x6 : Int32) (x7 : Int32) (x8 : Int32) (x9 : Int32) (d : Dt) : Option (Int32 × Dt) :=
  if ((x7 / (13 : Int32)) - (x7 / (13 : Int32)) / (11 : Int32) * (11 : Int32)) = 0 then f_L_isWord_J470 σ ((1 : Int32)) t0 (x6 / (13 : Int32)) x0 x3 x7 x8 x9 t0 d else f_L_isWord_J470 σ ((0 : Int32)) t0 (x6 / (13 : Int32)) x0 x3 x7 x8 x9 t0 d
def f_L_isWord_J421 (σ : Sg) (t0 : Int32) (x0 : Nat) (x3 : Nat) (x6 : Int32) (x7 : Int32) (x8 : Int32) (d : Dt) : Option (Int32 × Dt) :=
  if t0 = ((1 : Int32)) then f_L_isWord_J445 σ ((4 : Int32)) x0 x3 x6 x7 x8 t0 d else if t0 = ((3 : Int32)) then f_L_isWord_J445 σ ((3 : Int32)) x0 x3 x6 x7 x8 t0 d else f_L_isWord_J445 σ ((9 : Int32)) x0 x3 x6 x7 x8 t0 d
def f_L_isWord_J401 (σ : Sg) (t0 : Int32) (x0 : Nat) (x3 : Nat) (x6 : Int32) (x7 : Int32) (d : Dt) : Option (Int32 × Dt) :=
  if (x7 - x7 / (13 : Int32) * (13 : Int32)) = ((12 : Int32)) then f_L_isWord_J421 σ ((4 : Int32)) x0 x3 x6 x7 t0 d else f_L_isWord_J421 σ (x7 - x7 / (4 : Int32) * (4 : Int32)) x0 x3 x6 x7 t0 d
def f_L_isWord_J382 (σ : Sg) (t0 : Int32) (d : Dt) : Option (Int32 × Dt) :=
  aw_chk (t0 &&& 1 = t0) (some (t0, d))
def f_L_isWord_J374 (σ : Sg) (t1 : Int32) (t0 : Int32) (d : Dt) : Option (Int32 × Dt) :=
  if t0 = t1 then f_L_isWord_J382 σ ((1 : Int32)) d else f_L_isWord_J382 σ ((0 : Int32)) d
def f_L_isWord_J337 (σ : Sg) (x0 : Nat) (x4 : Nat) (x8 : Int32) (x9 : Int32) (x10 : Int32) (d : Dt) : Option (Int32 × Dt) :=
  (f_L_does_1 σ x0 x8 ((0 : Int32)) ((0 : Int32)) ((0 : Int32)) ((0 : Int32)) d).bind (fun z_15 => if x9 = 0 then f_L_isWord_J374 σ ((-2000000 : Int32)) z_15.1 z_15.2 else if x10 = 0 then f_L_isWord_J374 σ ((-1000000 : Int32)) z_15.1 z_15.2 else aw_chk (aw_I σ 20 x4 ((0 : Int32))) (f_L_isWord_J374 σ ((z_15.2.1 x4 ((0 : Int32)).toNatClampNeg) - ((1 : Int32))) z_15.1 z_15.2))
def f_L_isWord_B270 (σ : Sg) (kb270 : Int32 → Dt → Option (Int32 × Dt)) (k270 : Dt → Option (Int32 × Dt)) (x0 : Nat) (x1 : Nat) (x2 : Nat) (x4 : Nat) (x8 : Int32) (x9 : Int32) (x10 : Int32) (x11 : Int32) (d : Dt) : Option (Int32 × Dt) :=
  aw_chk (aw_I σ 20 x2 ((6 : Int32))) (if (d.1 x2 ((6 : Int32)).toNatClampNeg) ≤ x11 then k270 d else aw_chk (aw_I σ 20 x4 ((0 : Int32))) (aw_chk (aw_I σ 20 x1 (((24 : Int32)) + x11)) (aw_chk (aw_I σ 20 x1 ((((4 : Int32)) * (d.1 x4 ((0 : Int32)).toNatClampNeg)) + x11)) (kb270 (x11 + 1) (aw_sI d x1 ((((4 : Int32)) * (d.1 x4 ((0 : Int32)).toNatClampNeg)) + x11).toNatClampNeg (d.1 x1 (((24 : Int32)) + x11).toNatClampNeg))))))
def f_L_isWord_L270 (σ : Sg) (n : Nat) (k270 : Dt → Option (Int32 × Dt)) (x0 : Nat) (x1 : Nat) (x2 : Nat) (x4 : Nat) (x8 : Int32) (x9 : Int32) (x10 : Int32) : Int32 → Dt → Option (Int32 × Dt) := match n with
  | 0 => fun _ _ => none
  | n + 1 => fun x11 d => f_L_isWord_B270 σ (f_L_isWord_L270 σ n k270 x0 x1 x2 x4 x8 x9 x10) k270 x0 x1 x2 x4 x8 x9 x10 x11 d
def f_L_isWord_J260 (σ : Sg) (t0 : Int32) (x0 : Nat) (x1 : Nat) (x2 : Nat) (x4 : Nat) (x8 : Int32) (x9 : Int32) (d : Dt) : Option (Int32 × Dt) :=
  if t0 = 0 then f_L_isWord_J337 σ x0 x4 x8 x9 t0 d else f_L_isWord_L270 σ aw_FU (fun d_23 => aw_chk (aw_I σ 20 x4 ((0 : Int32))) (aw_chk (aw_I σ 20 x2 ((6 : Int32))) (aw_chk (aw_I σ 20 x2 (d_23.1 x4 ((0 : Int32)).toNatClampNeg)) (aw_chk (aw_I σ 20 x2 (((8 : Int32)) + ((aw_sI d_23 x2 (d_23.1 x4 ((0 : Int32)).toNatClampNeg).toNatClampNeg (d_23.1 x2 ((6 : Int32)).toNatClampNeg)).1 x4 ((0 : Int32)).toNatClampNeg))) (f_L_isWord_J337 σ x0 x4 x8 x9 t0 (aw_sI (aw_sI (aw_sI (aw_sI d_23 x2 (d_23.1 x4 ((0 : Int32)).toNatClampNeg).toNatClampNeg (d_23.1 x2 ((6 : Int32)).toNatClampNeg)) x2 (((8 : Int32)) + ((aw_sI d_23 x2 (d_23.1 x4 ((0 : Int32)).toNatClampNeg).toNatClampNeg (d_23.1 x2 ((6 : Int32)).toNatClampNeg)).1 x4 ((0 : Int32)).toNatClampNeg)).toNatClampNeg x8) x2 ((6 : Int32)).toNatClampNeg ((0 : Int32))) x4 ((0 : Int32)).toNatClampNeg (((aw_sI (aw_sI (aw_sI d_23 x2 (d_23.1 x4 ((0 : Int32)).toNatClampNeg).toNatClampNeg (d_23.1 x2 ((6 : Int32)).toNatClampNeg)) x2 (((8 : Int32)) + ((aw_sI d_23 x2 (d_23.1 x4 ((0 : Int32)).toNatClampNeg).toNatClampNeg (d_23.1 x2 ((6 : Int32)).toNatClampNeg)).1 x4 ((0 : Int32)).toNatClampNeg)).toNatClampNeg x8) x2 ((6 : Int32)).toNatClampNeg ((0 : Int32))).1 x4 ((0 : Int32)).toNatClampNeg) + ((1 : Int32))))))))) x0 x1 x2 x4 x8 x9 t0 ((0 : Int32)) d
def f_L_isWord_J259 (σ : Sg) (x0 : Nat) (x1 : Nat) (x2 : Nat) (x4 : Nat) (x8 : Int32) (x9 : Int32) (d : Dt) : Option (Int32 × Dt) :=
  f_L_isWord_J260 σ ((0 : Int32)) x0 x1 x2 x4 x8 x9 d
def f_L_isWord_J241 (σ : Sg) (t0 : Int32) (x0 : Nat) (x1 : Nat) (x2 : Nat) (x4 : Nat) (x8 : Int32) (d : Dt) : Option (Int32 × Dt) :=
  if t0 = 0 then f_L_isWord_J259 σ x0 x1 x2 x4 x8 t0 d else aw_chk (aw_I σ 20 x2 ((6 : Int32))) (if (d.1 x2 ((6 : Int32)).toNatClampNeg) ≤ 0 then f_L_isWord_J259 σ x0 x1 x2 x4 x8 t0 d else f_L_isWord_J260 σ ((1 : Int32)) x0 x1 x2 x4 x8 t0 d)
def f_L_isWord_J240 (σ : Sg) (x0 : Nat) (x1 : Nat) (x2 : Nat) (x4 : Nat) (x8 : Int32) (d : Dt) : Option (Int32 × Dt) :=
  f_L_isWord_J241 σ ((0 : Int32)) x0 x1 x2 x4 x8 d
def f_L_isWord_J221 (σ : Sg) (t0 : Int32) (x0 : Nat) (x1 : Nat) (x2 : Nat) (x4 : Nat) (d : Dt) : Option (Int32 × Dt) :=
  if t0 ≤ 0 then f_L_isWord_J240 σ x0 x1 x2 x4 t0 d else if ((1000 : Int32)) ≤ t0 then f_L_isWord_J240 σ x0 x1 x2 x4 t0 d else f_L_isWord_J241 σ ((1 : Int32)) x0 x1 x2 x4 t0 d
def f_L_isWord_J172 (σ : Sg) (t0 : Int32) (d : Dt) : Option (Int32 × Dt) :=
  aw_chk (t0 &&& 1 = t0) (some (t0, d))
def f_L_isWord_J164 (σ : Sg) (t1 : Int32) (t0 : Int32) (d : Dt) : Option (Int32 × Dt) :=
  if t0 = t1 then f_L_isWord_J172 σ ((1 : Int32)) d else f_L_isWord_J172 σ ((0 : Int32)) d
def f_L_isWord_J126 (σ : Sg) (x0 : Nat) (x2 : Nat) (x8 : Int32) (x9 : Int32) (d : Dt) : Option (Int32 × Dt) :=
  (f_L_does_0 σ x0 x8 ((0 : Int32)) ((0 : Int32)) ((0 : Int32)) ((0 : Int32)) d).bind (fun z_30 => if x8 ≤ ((971 : Int32)) then if x9 = 0 then f_L_isWord_J164 σ ((-1000000 : Int32)) z_30.1 z_30.2 else aw_chk (aw_I σ 20 x2 ((6 : Int32))) (f_L_isWord_J164 σ (z_30.2.1 x2 ((6 : Int32)).toNatClampNeg) z_30.1 z_30.2) else f_L_isWord_J164 σ ((-2000000 : Int32)) z_30.1 z_30.2)
def f_L_isWord_J100 (σ : Sg) (t0 : Int32) (x0 : Nat) (x1 : Nat) (x2 : Nat) (x8 : Int32) (d : Dt) : Option (Int32 × Dt) :=
  if t0 = 0 then f_L_isWord_J126 σ x0 x2 x8 t0 d else aw_chk (aw_I σ 20 x2 ((6 : Int32))) (aw_chk (aw_I σ 20 x1 (((24 : Int32)) + (d.1 x2 ((6 : Int32)).toNatClampNeg))) (f_L_isWord_J126 σ x0 x2 x8 t0 (aw_sI (aw_sI d x1 (((24 : Int32)) + (d.1 x2 ((6 : Int32)).toNatClampNeg)).toNatClampNeg x8) x2 ((6 : Int32)).toNatClampNeg (((aw_sI d x1 (((24 : Int32)) + (d.1 x2 ((6 : Int32)).toNatClampNeg)).toNatClampNeg x8).1 x2 ((6 : Int32)).toNatClampNeg) + ((1 : Int32))))))
def f_L_isWord_J99 (σ : Sg) (x0 : Nat) (x1 : Nat) (x2 : Nat) (x8 : Int32) (d : Dt) : Option (Int32 × Dt) :=
  f_L_isWord_J100 σ ((0 : Int32)) x0 x1 x2 x8 d
def f_L_isWord_J77 (σ : Sg) (t0 : Int32) (x0 : Nat) (x1 : Nat) (x2 : Nat) (d : Dt) : Option (Int32 × Dt) :=
  if ((972 : Int32)) ≤ t0 then f_L_isWord_J99 σ x0 x1 x2 t0 d else aw_chk (aw_I σ 20 x2 ((6 : Int32))) (if ((4 : Int32)) ≤ (d.1 x2 ((6 : Int32)).toNatClampNeg) then f_L_isWord_J99 σ x0 x1 x2 t0 d else f_L_isWord_J100 σ ((1 : Int32)) x0 x1 x2 t0 d)
def f_L_isWord (σ : Sg) (x0 : Nat) (x1 : Nat) (x2 : Nat) (x3 : Nat) (x4 : Nat) (x5 : Int32) (x6 : Int32) (x7 : Int32) (d : Dt) : Option (Int32 × Dt) :=
  if x5 = 0 then if (x6 - x6 / (23 : Int32) * (23 : Int32)) = ((22 : Int32)) then f_L_isWord_J77 σ ((972 : Int32)) x0 x1 x2 d else if (x6 - x6 / (3 : Int32) * (3 : Int32)) = 0 then f_L_isWord_J77 σ (x6 - x6 / (972 : Int32) * (972 : Int32)) x0 x1 x2 d else f_L_isWord_J77 σ ((((((108 : Int32)) * ((x6 - x6 / (2 : Int32) * (2 : Int32)) * ((8 : Int32)))) + (((27 : Int32)) * ((x6 / (2 : Int32)) - (x6 / (2 : Int32)) / (2 : Int32) * (2 : Int32)))) + (((3 : Int32)) * (((x6 / (4 : Int32)) - (x6 / (4 : Int32)) / (2 : Int32) * (2 : Int32)) * ((8 : Int32))))) + ((x6 / (8 : Int32)) - (x6 / (8 : Int32)) / (2 : Int32) * (2 : Int32))) x0 x1 x2 d else if x5 = ((1 : Int32)) then aw_chk (aw_I σ 20 x4 ((0 : Int32))) (if (d.1 x4 ((0 : Int32)).toNatClampNeg) = ((6 : Int32)) then aw_chk (((1 : Int32)) &&& 1 = ((1 : Int32))) (some ((1 : Int32), d)) else if (x6 - x6 / (13 : Int32) * (13 : Int32)) = ((12 : Int32)) then f_L_isWord_J221 σ (((x6 / (13 : Int32)) - (x6 / (13 : Int32)) / (2 : Int32) * (2 : Int32)) * ((1000 : Int32))) x0 x1 x2 x4 d else f_L_isWord_J221 σ (((1 : Int32)) + (x6 - x6 / (40 : Int32) * (40 : Int32))) x0 x1 x2 x4 d) else if (x6 - x6 / (13 : Int32) * (13 : Int32)) = ((12 : Int32)) then f_L_isWord_J401 σ ((3 : Int32)) x0 x3 x6 x7 d else f_L_isWord_J401 σ (x6 - x6 / (3 : Int32) * (3 : Int32)) x0 x3 x6 x7 d
section W_L_isWord
variable {p : Program} {l : Launch} {e : Env} {s : State} {m : MethodId} {args : Array Value} {below : List Frame} {meth : Method} {c : Code}
variable {D : va_G} {cA : Nat → ClassId} {base : Nat} {ad : Nat → Nat} {σ : Sg}
set_option maxHeartbeats 4000000 in
set_option maxRecDepth 100000 in
theorem w_L_isWord_J677 {z : Int32 × Dt} (X : aw_X p c cL_isWord 16 s RL m meth (some .boolean)) (hst : l.stackTraces = false) {t0 : Int32} {d : Dt} (hf : f_L_isWord_J677 σ t0 d = some z) { cells slots : Nat} (hB : cells + (0) ≤ 2 ∧ slots + 64 * (0) ≤ 128)  {H : Heap} {locs : List Loc} {ls : Array Slot} (hl : lv_has ls 16 []) (G : aw_G D cA base ad σ d s H locs) : W p l e rm_L_isWord s m args below meth c H locs cells slots (aw_Ej D cA base ad σ below args s 2 128 z) (F0 m 677 ls [.int t0]) := by
  have hx := X.1; have hb := X.2.1; have hml := X.2.2.1; have hown := X.2.2.2.1
  unfold f_L_isWord_J677 at hf
  obtain ⟨hc_5, hf⟩ := aw_chk_some hf
  exact aw_retjZ X G hf hc_5 dL_isWord_677 (by omega) (by omega)
set_option maxHeartbeats 4000000 in
set_option maxRecDepth 100000 in
theorem w_L_isWord_J669 {z : Int32 × Dt} (X : aw_X p c cL_isWord 16 s RL m meth (some .boolean)) (hst : l.stackTraces = false) {t1 : Int32} {t0 : Int32} {d : Dt} (hf : f_L_isWord_J669 σ t1 t0 d = some z) { cells slots : Nat} (hB : cells + (0) ≤ 2 ∧ slots + 64 * (0) ≤ 128)  {H : Heap} {locs : List Loc} {ls : Array Slot} (hl : lv_has ls 16 []) (G : aw_G D cA base ad σ d s H locs) : W p l e rm_L_isWord s m args below meth c H locs cells slots (aw_Ej D cA base ad σ below args s 2 128 z) (F0 m 669 ls [.int t1, .int t0]) := by
  have hx := X.1; have hb := X.2.1; have hml := X.2.2.1; have hown := X.2.2.2.1
  unfold f_L_isWord_J669 at hf
  refine lv_icmp_ne (tgt := 676) hx hb dL_isWord_669 (by decide) (fun hc => ?_) (fun hc => ?_)
  · have hf := aw_ite_f hc hf
    refine lv_iconst (v := (0 : Int32)) hx hb dL_isWord_676 (by decide) ?_
    exact w_L_isWord_J677 X hst hf ⟨by omega, by omega⟩  (lv_sub hl [] rfl) G
  · have hf := aw_ite_t hc hf
    refine lv_iconst (v := (1 : Int32)) hx hb dL_isWord_672 (by decide) ?_
    refine lv_goto (tgt := 677) hx hb dL_isWord_673 (by decide) ?_
    exact w_L_isWord_J677 X hst hf ⟨by omega, by omega⟩  (lv_sub hl [] rfl) G
set_option maxHeartbeats 4000000 in
set_option maxRecDepth 100000 in
theorem w_L_isWord_J607 {z : Int32 × Dt} (X : aw_X p c cL_isWord 16 s RL m meth (some .boolean)) (hst : l.stackTraces = false) {x0 : Nat} {x3 : Nat} {x8 : Int32} {x9 : Int32} {x10 : Int32} {x11 : Int32} {x12 : Int32} {x13 : Int32} {x14 : Int32} {x15 : Int32} {d : Dt} (hf : f_L_isWord_J607 σ x0 x3 x8 x9 x10 x11 x12 x13 x14 x15 d = some z) { cells slots : Nat} (hB : cells + (2) ≤ 2 ∧ slots + 64 * (2) ≤ 128)  {H : Heap} {locs : List Loc} {ls : Array Slot} (hl : lv_has ls 16 [(0, .ref (ad x0)), (3, .ref (ad x3)), (8, .int x8), (9, .int x9), (10, .int x10), (11, .int x11), (12, .int x12), (13, .int x13), (14, .int x14), (15, .int x15)]) (G : aw_G D cA base ad σ d s H locs) : W p l e rm_L_isWord s m args below meth c H locs cells slots (aw_Ej D cA base ad σ below args s 2 128 z) (F0 m 607 ls []) := by
  have hx := X.1; have hb := X.2.1; have hml := X.2.2.1; have hown := X.2.2.2.1
  unfold f_L_isWord_J607 at hf
  refine lv_aload_n hx hb dL_isWord_607 rfl (lv_at hl 0 rfl) ?_
  refine lv_iconst (v := (2 : Int32)) hx hb dL_isWord_608 (by decide) ?_
  refine lv_iload hx hb dL_isWord_609 (lv_at hl 2 rfl) ?_
  refine lv_iload hx hb dL_isWord_611 (lv_at hl 3 rfl) ?_
  refine lv_iload hx hb dL_isWord_613 (lv_at hl 5 rfl) ?_
  refine lv_iload hx hb dL_isWord_615 (lv_at hl 6 rfl) ?_
  refine lv_iload hx hb dL_isWord_617 (lv_at hl 7 rfl) ?_
  refine lv_if_eq (tgt := 626) hx hb dL_isWord_619 (by decide) (fun hc => ?_) (fun hc => ?_)
  · have hf := aw_ite_t hc hf
    refine lv_iconst (v := (0 : Int32)) hx hb dL_isWord_626 (by decide) ?_
    obtain ⟨z_3, hz_4, hf⟩ := aw_bind_some hf
    refine aw_WI2 (As := [.ref (ad x0), .int ((2 : Int32)), .int x8, .int x9, .int x11, .int x12, .int ((0 : Int32))]) (rest := []) X G hl.1 cr_L_123 (c_L_does_2 l hst hz_4) rfl rfl rfl ⟨(Nat.le_of_ble_eq_true rfl), (Nat.le_of_ble_eq_true rfl)⟩ (Nat.le_of_ble_eq_true rfl) dL_isWord_627 2 12 ⟨(Nat.le_of_ble_eq_true rfl), (Nat.le_of_ble_eq_true rfl)⟩ ⟨by show cells + 2 ≤ 2; omega, by show slots + 12 ≤ 128; omega⟩ (fun H locs G => ?_)
    refine lv_iload hx hb dL_isWord_630 (lv_at hl 8 rfl) ?_
    refine lv_if_ne (tgt := 640) hx hb dL_isWord_632 (by decide) (fun hc => ?_) (fun hc => ?_)
    · have hf := aw_ite_f hc hf
      refine lv_iload hx hb dL_isWord_640 (lv_at hl 5 rfl) ?_
      refine lv_iload hx hb dL_isWord_642 (lv_at hl 4 rfl) ?_
      refine lv_icmp_ne (tgt := 652) hx hb dL_isWord_644 (by decide) (fun hc => ?_) (fun hc => ?_)
      · have hf := aw_ite_f hc hf
        refine lv_iload hx hb dL_isWord_652 (lv_at hl 9 rfl) ?_
        refine lv_if_eq (tgt := 667) hx hb dL_isWord_654 (by decide) (fun hc => ?_) (fun hc => ?_)
        · have hf := aw_ite_t hc hf
          refine lv_ldc (v := (-1000000 : Int32)) hx hb hown (G.1.hts _ m_761) dL_isWord_667 ?_
          exact w_L_isWord_J669 X hst hf ⟨by omega, by omega⟩  (lv_sub hl [] rfl) G
        · have hf := aw_ite_f hc hf
          refine lv_aload_n hx hb dL_isWord_657 rfl (lv_at hl 1 rfl) ?_
          refine lv_bipush (v := (18 : Int32)) hx hb dL_isWord_658 (by decide) ?_
          refine lv_iload hx hb dL_isWord_660 (lv_at hl 2 rfl) ?_
          refine lv_iadd hx hb dL_isWord_662 ?_
          obtain ⟨hc_6, hf⟩ := aw_chk_some hf
          refine aw_ial hx hb G hc_6 dL_isWord_663 ?_
          refine lv_goto (tgt := 669) hx hb dL_isWord_664 (by decide) ?_
          exact w_L_isWord_J669 X hst hf ⟨by omega, by omega⟩  (lv_sub hl [] rfl) G
      · have hf := aw_ite_t hc hf
        refine lv_ldc (v := (-2000000 : Int32)) hx hb hown (G.1.hts _ m_760) dL_isWord_647 ?_
        refine lv_goto (tgt := 669) hx hb dL_isWord_649 (by decide) ?_
        exact w_L_isWord_J669 X hst hf ⟨by omega, by omega⟩  (lv_sub hl [] rfl) G
    · have hf := aw_ite_t hc hf
      refine lv_ldc (v := (-3000000 : Int32)) hx hb hown (G.1.hts _ m_759) dL_isWord_635 ?_
      refine lv_goto (tgt := 669) hx hb dL_isWord_637 (by decide) ?_
      exact w_L_isWord_J669 X hst hf ⟨by omega, by omega⟩  (lv_sub hl [] rfl) G
  · have hf := aw_ite_f hc hf
    refine lv_iconst (v := (1 : Int32)) hx hb dL_isWord_622 (by decide) ?_
    refine lv_goto (tgt := 627) hx hb dL_isWord_623 (by decide) ?_
    obtain ⟨z_7, hz_8, hf⟩ := aw_bind_some hf
    refine aw_WI2 (As := [.ref (ad x0), .int ((2 : Int32)), .int x8, .int x9, .int x11, .int x12, .int ((1 : Int32))]) (rest := []) X G hl.1 cr_L_123 (c_L_does_2 l hst hz_8) rfl rfl rfl ⟨(Nat.le_of_ble_eq_true rfl), (Nat.le_of_ble_eq_true rfl)⟩ (Nat.le_of_ble_eq_true rfl) dL_isWord_627 2 12 ⟨(Nat.le_of_ble_eq_true rfl), (Nat.le_of_ble_eq_true rfl)⟩ ⟨by show cells + 2 ≤ 2; omega, by show slots + 12 ≤ 128; omega⟩ (fun H locs G => ?_)
    refine lv_iload hx hb dL_isWord_630 (lv_at hl 8 rfl) ?_
    refine lv_if_ne (tgt := 640) hx hb dL_isWord_632 (by decide) (fun hc => ?_) (fun hc => ?_)
    · have hf := aw_ite_f hc hf
      refine lv_iload hx hb dL_isWord_640 (lv_at hl 5 rfl) ?_
      refine lv_iload hx hb dL_isWord_642 (lv_at hl 4 rfl) ?_
      refine lv_icmp_ne (tgt := 652) hx hb dL_isWord_644 (by decide) (fun hc => ?_) (fun hc => ?_)
      · have hf := aw_ite_f hc hf
        refine lv_iload hx hb dL_isWord_652 (lv_at hl 9 rfl) ?_
        refine lv_if_eq (tgt := 667) hx hb dL_isWord_654 (by decide) (fun hc => ?_) (fun hc => ?_)
        · have hf := aw_ite_t hc hf
          refine lv_ldc (v := (-1000000 : Int32)) hx hb hown (G.1.hts _ m_761) dL_isWord_667 ?_
          exact w_L_isWord_J669 X hst hf ⟨by omega, by omega⟩  (lv_sub hl [] rfl) G
        · have hf := aw_ite_f hc hf
          refine lv_aload_n hx hb dL_isWord_657 rfl (lv_at hl 1 rfl) ?_
          refine lv_bipush (v := (18 : Int32)) hx hb dL_isWord_658 (by decide) ?_
          refine lv_iload hx hb dL_isWord_660 (lv_at hl 2 rfl) ?_
          refine lv_iadd hx hb dL_isWord_662 ?_
          obtain ⟨hc_9, hf⟩ := aw_chk_some hf
          refine aw_ial hx hb G hc_9 dL_isWord_663 ?_
          refine lv_goto (tgt := 669) hx hb dL_isWord_664 (by decide) ?_
          exact w_L_isWord_J669 X hst hf ⟨by omega, by omega⟩  (lv_sub hl [] rfl) G
      · have hf := aw_ite_t hc hf
        refine lv_ldc (v := (-2000000 : Int32)) hx hb hown (G.1.hts _ m_760) dL_isWord_647 ?_
        refine lv_goto (tgt := 669) hx hb dL_isWord_649 (by decide) ?_
        exact w_L_isWord_J669 X hst hf ⟨by omega, by omega⟩  (lv_sub hl [] rfl) G
    · have hf := aw_ite_t hc hf
      refine lv_ldc (v := (-3000000 : Int32)) hx hb hown (G.1.hts _ m_759) dL_isWord_635 ?_
      refine lv_goto (tgt := 669) hx hb dL_isWord_637 (by decide) ?_
      exact w_L_isWord_J669 X hst hf ⟨by omega, by omega⟩  (lv_sub hl [] rfl) G
set_option maxHeartbeats 4000000 in
set_option maxRecDepth 100000 in
theorem w_L_isWord_J594 {z : Int32 × Dt} (X : aw_X p c cL_isWord 16 s RL m meth (some .boolean)) (hst : l.stackTraces = false) {t3 : Int32} {t2 : Int32} {t1 : Int32} {t0 : Nat} {x0 : Nat} {x3 : Nat} {x8 : Int32} {x9 : Int32} {x10 : Int32} {x11 : Int32} {x12 : Int32} {x13 : Int32} {x14 : Int32} {x15 : Int32} {d : Dt} (hf : f_L_isWord_J594 σ t3 t2 t1 t0 x0 x3 x8 x9 x10 x11 x12 x13 x14 x15 d = some z) { cells slots : Nat} (hB : cells + (2) ≤ 2 ∧ slots + 64 * (2) ≤ 128)  {H : Heap} {locs : List Loc} {ls : Array Slot} (hl : lv_has ls 16 [(0, .ref (ad x0)), (3, .ref (ad x3)), (8, .int x8), (9, .int x9), (10, .int x10), (11, .int x11), (12, .int x12), (13, .int x13), (14, .int x14), (15, .int x15)]) (G : aw_G D cA base ad σ d s H locs) : W p l e rm_L_isWord s m args below meth c H locs cells slots (aw_Ej D cA base ad σ below args s 2 128 z) (F0 m 594 ls [.int t3, .int t2, .int t1, .ref (ad t0)]) := by
  have hx := X.1; have hb := X.2.1; have hml := X.2.2.1; have hown := X.2.2.2.1
  unfold f_L_isWord_J594 at hf
  refine lv_iadd hx hb dL_isWord_594 ?_
  obtain ⟨hc_11, hf⟩ := aw_chk_some hf
  refine aw_ias hx hb G hc_11 dL_isWord_595 (fun H locs G => ?_)
  refine lv_aload_n hx hb dL_isWord_596 rfl (lv_at hl 1 rfl) ?_
  refine lv_bipush (v := (18 : Int32)) hx hb dL_isWord_597 (by decide) ?_
  refine lv_iload hx hb dL_isWord_599 (lv_at hl 2 rfl) ?_
  refine lv_iadd hx hb dL_isWord_601 ?_
  refine lv_dup2_11 hx hb dL_isWord_602 rfl rfl ?_
  obtain ⟨hc_12, hf⟩ := aw_chk_some hf
  refine aw_ial hx hb G hc_12 dL_isWord_603 ?_
  refine lv_iconst (v := (1 : Int32)) hx hb dL_isWord_604 (by decide) ?_
  refine lv_iadd hx hb dL_isWord_605 ?_
  refine aw_ias hx hb G hc_12 dL_isWord_606 (fun H locs G => ?_)
  exact w_L_isWord_J607 X hst hf ⟨by omega, by omega⟩  (lv_sub hl [0, 1, 2, 3, 4, 5, 6, 7, 8, 9] rfl) G
set_option maxHeartbeats 4000000 in
set_option maxRecDepth 100000 in
theorem w_L_isWord_J548 {z : Int32 × Dt} (X : aw_X p c cL_isWord 16 s RL m meth (some .boolean)) (hst : l.stackTraces = false) {t0 : Int32} {x0 : Nat} {x3 : Nat} {x8 : Int32} {x9 : Int32} {x10 : Int32} {x11 : Int32} {x12 : Int32} {x13 : Int32} {x14 : Int32} {d : Dt} (hf : f_L_isWord_J548 σ t0 x0 x3 x8 x9 x10 x11 x12 x13 x14 d = some z) { cells slots : Nat} (hB : cells + (2) ≤ 2 ∧ slots + 64 * (2) ≤ 128)  {H : Heap} {locs : List Loc} {ls : Array Slot} (hl : lv_has ls 16 [(0, .ref (ad x0)), (3, .ref (ad x3)), (8, .int x8), (9, .int x9), (10, .int x10), (11, .int x11), (12, .int x12), (13, .int x13), (14, .int x14)]) (G : aw_G D cA base ad σ d s H locs) : W p l e rm_L_isWord s m args below meth c H locs cells slots (aw_Ej D cA base ad σ below args s 2 128 z) (F0 m 548 ls [.int t0]) := by
  have hx := X.1; have hb := X.2.1; have hml := X.2.2.1; have hown := X.2.2.2.1
  unfold f_L_isWord_J548 at hf
  refine lv_istore (lv' := [(15, .int t0), (0, .ref (ad x0)), (3, .ref (ad x3)), (8, .int x8), (9, .int x9), (10, .int x10), (11, .int x11), (12, .int x12), (13, .int x13), (14, .int x14)]) hx hb dL_isWord_548 hl (by decide) rfl (fun ls hl => ?_)
  refine lv_iload hx hb dL_isWord_550 (lv_at hl 0 rfl) ?_
  refine lv_if_eq (tgt := 607) hx hb dL_isWord_552 (by decide) (fun hc => ?_) (fun hc => ?_)
  · have hf := aw_ite_t hc hf
    exact w_L_isWord_J607 X hst hf ⟨by omega, by omega⟩  (lv_sub hl [1, 2, 3, 4, 5, 6, 7, 8, 9, 0] rfl) G
  · have hf := aw_ite_f hc hf
    refine lv_aload_n hx hb dL_isWord_555 rfl (lv_at hl 2 rfl) ?_
    refine lv_bipush (v := (6 : Int32)) hx hb dL_isWord_556 (by decide) ?_
    refine lv_iload hx hb dL_isWord_558 (lv_at hl 3 rfl) ?_
    refine lv_imul hx hb dL_isWord_560 ?_
    refine lv_aload_n hx hb dL_isWord_561 rfl (lv_at hl 2 rfl) ?_
    refine lv_bipush (v := (18 : Int32)) hx hb dL_isWord_562 (by decide) ?_
    refine lv_iload hx hb dL_isWord_564 (lv_at hl 3 rfl) ?_
    refine lv_iadd hx hb dL_isWord_566 ?_
    obtain ⟨hc_10, hf⟩ := aw_chk_some hf
    refine aw_ial hx hb G hc_10 dL_isWord_567 ?_
    refine lv_iadd hx hb dL_isWord_568 ?_
    refine lv_iload hx hb dL_isWord_569 (lv_at hl 4 rfl) ?_
    refine lv_iconst (v := (4 : Int32)) hx hb dL_isWord_571 (by decide) ?_
    refine lv_iload hx hb dL_isWord_572 (lv_at hl 6 rfl) ?_
    refine lv_imul hx hb dL_isWord_574 ?_
    refine lv_iadd hx hb dL_isWord_575 ?_
    refine lv_bipush (v := (64 : Int32)) hx hb dL_isWord_576 (by decide) ?_
    refine lv_iload hx hb dL_isWord_578 (lv_at hl 7 rfl) ?_
    refine lv_imul hx hb dL_isWord_580 ?_
    refine lv_iadd hx hb dL_isWord_581 ?_
    refine lv_iload hx hb dL_isWord_582 (lv_at hl 8 rfl) ?_
    refine lv_if_eq (tgt := 593) hx hb dL_isWord_584 (by decide) (fun hc => ?_) (fun hc => ?_)
    · have hf := aw_ite_t hc hf
      refine lv_iconst (v := (0 : Int32)) hx hb dL_isWord_593 (by decide) ?_
      exact w_L_isWord_J594 X hst hf ⟨by omega, by omega⟩  (lv_sub hl [1, 2, 3, 4, 5, 6, 7, 8, 9, 0] rfl) G
    · have hf := aw_ite_f hc hf
      refine lv_sipush (v := (1024 : Int32)) hx hb dL_isWord_587 (by decide) ?_
      refine lv_goto (tgt := 594) hx hb dL_isWord_590 (by decide) ?_
      exact w_L_isWord_J594 X hst hf ⟨by omega, by omega⟩  (lv_sub hl [1, 2, 3, 4, 5, 6, 7, 8, 9, 0] rfl) G
set_option maxHeartbeats 4000000 in
set_option maxRecDepth 100000 in
theorem w_L_isWord_J547 {z : Int32 × Dt} (X : aw_X p c cL_isWord 16 s RL m meth (some .boolean)) (hst : l.stackTraces = false) {x0 : Nat} {x3 : Nat} {x8 : Int32} {x9 : Int32} {x10 : Int32} {x11 : Int32} {x12 : Int32} {x13 : Int32} {x14 : Int32} {d : Dt} (hf : f_L_isWord_J547 σ x0 x3 x8 x9 x10 x11 x12 x13 x14 d = some z) { cells slots : Nat} (hB : cells + (2) ≤ 2 ∧ slots + 64 * (2) ≤ 128)  {H : Heap} {locs : List Loc} {ls : Array Slot} (hl : lv_has ls 16 [(0, .ref (ad x0)), (3, .ref (ad x3)), (8, .int x8), (9, .int x9), (10, .int x10), (11, .int x11), (12, .int x12), (13, .int x13), (14, .int x14)]) (G : aw_G D cA base ad σ d s H locs) : W p l e rm_L_isWord s m args below meth c H locs cells slots (aw_Ej D cA base ad σ below args s 2 128 z) (F0 m 547 ls []) := by
  have hx := X.1; have hb := X.2.1; have hml := X.2.2.1; have hown := X.2.2.2.1
  unfold f_L_isWord_J547 at hf
  refine lv_iconst (v := (0 : Int32)) hx hb dL_isWord_547 (by decide) ?_
  exact w_L_isWord_J548 X hst hf ⟨by omega, by omega⟩  (lv_sub hl [0, 1, 2, 3, 4, 5, 6, 7, 8] rfl) G
set_option maxHeartbeats 4000000 in
set_option maxRecDepth 100000 in
theorem w_L_isWord_J517 {z : Int32 × Dt} (X : aw_X p c cL_isWord 16 s RL m meth (some .boolean)) (hst : l.stackTraces = false) {t0 : Int32} {x0 : Nat} {x3 : Nat} {x8 : Int32} {x9 : Int32} {x10 : Int32} {x11 : Int32} {x12 : Int32} {x13 : Int32} {d : Dt} (hf : f_L_isWord_J517 σ t0 x0 x3 x8 x9 x10 x11 x12 x13 d = some z) { cells slots : Nat} (hB : cells + (2) ≤ 2 ∧ slots + 64 * (2) ≤ 128)  {H : Heap} {locs : List Loc} {ls : Array Slot} (hl : lv_has ls 16 [(0, .ref (ad x0)), (3, .ref (ad x3)), (8, .int x8), (9, .int x9), (10, .int x10), (11, .int x11), (12, .int x12), (13, .int x13)]) (G : aw_G D cA base ad σ d s H locs) : W p l e rm_L_isWord s m args below meth c H locs cells slots (aw_Ej D cA base ad σ below args s 2 128 z) (F0 m 517 ls [.int t0]) := by
  have hx := X.1; have hb := X.2.1; have hml := X.2.2.1; have hown := X.2.2.2.1
  unfold f_L_isWord_J517 at hf
  refine lv_istore (lv' := [(14, .int t0), (0, .ref (ad x0)), (3, .ref (ad x3)), (8, .int x8), (9, .int x9), (10, .int x10), (11, .int x11), (12, .int x12), (13, .int x13)]) hx hb dL_isWord_517 hl (by decide) rfl (fun ls hl => ?_)
  refine lv_iload hx hb dL_isWord_519 (lv_at hl 0 rfl) ?_
  refine lv_if_eq (tgt := 547) hx hb dL_isWord_521 (by decide) (fun hc => ?_) (fun hc => ?_)
  · have hf := aw_ite_t hc hf
    exact w_L_isWord_J547 X hst hf ⟨by omega, by omega⟩  (lv_sub hl [1, 2, 3, 4, 5, 6, 7, 8, 0] rfl) G
  · have hf := aw_ite_f hc hf
    refine lv_iload hx hb dL_isWord_524 (lv_at hl 6 rfl) ?_
    refine lv_iload hx hb dL_isWord_526 (lv_at hl 5 rfl) ?_
    refine lv_icmp_ge (tgt := 547) hx hb dL_isWord_528 (by decide) (fun hc => ?_) (fun hc => ?_)
    · have hf := aw_ite_t hc hf
      exact w_L_isWord_J547 X hst hf ⟨by omega, by omega⟩  (lv_sub hl [1, 2, 3, 4, 5, 6, 7, 8, 0] rfl) G
    · have hf := aw_ite_f hc hf
      refine lv_aload_n hx hb dL_isWord_531 rfl (lv_at hl 2 rfl) ?_
      refine lv_bipush (v := (18 : Int32)) hx hb dL_isWord_532 (by decide) ?_
      refine lv_iload hx hb dL_isWord_534 (lv_at hl 3 rfl) ?_
      refine lv_iadd hx hb dL_isWord_536 ?_
      obtain ⟨hc_13, hf⟩ := aw_chk_some hf
      refine aw_ial hx hb G hc_13 dL_isWord_537 ?_
      refine lv_bipush (v := (6 : Int32)) hx hb dL_isWord_538 (by decide) ?_
      refine lv_icmp_ge (tgt := 547) hx hb dL_isWord_540 (by decide) (fun hc => ?_) (fun hc => ?_)
      · have hf := aw_ite_t hc hf
        exact w_L_isWord_J547 X hst hf ⟨by omega, by omega⟩  (lv_sub hl [1, 2, 3, 4, 5, 6, 7, 8, 0] rfl) G
      · have hf := aw_ite_f hc hf
        refine lv_iconst (v := (1 : Int32)) hx hb dL_isWord_543 (by decide) ?_
        refine lv_goto (tgt := 548) hx hb dL_isWord_544 (by decide) ?_
        exact w_L_isWord_J548 X hst hf ⟨by omega, by omega⟩  (lv_sub hl [1, 2, 3, 4, 5, 6, 7, 8, 0] rfl) G
set_option maxHeartbeats 4000000 in
set_option maxRecDepth 100000 in
theorem w_L_isWord_J516 {z : Int32 × Dt} (X : aw_X p c cL_isWord 16 s RL m meth (some .boolean)) (hst : l.stackTraces = false) {x0 : Nat} {x3 : Nat} {x8 : Int32} {x9 : Int32} {x10 : Int32} {x11 : Int32} {x12 : Int32} {x13 : Int32} {d : Dt} (hf : f_L_isWord_J516 σ x0 x3 x8 x9 x10 x11 x12 x13 d = some z) { cells slots : Nat} (hB : cells + (2) ≤ 2 ∧ slots + 64 * (2) ≤ 128)  {H : Heap} {locs : List Loc} {ls : Array Slot} (hl : lv_has ls 16 [(0, .ref (ad x0)), (3, .ref (ad x3)), (8, .int x8), (9, .int x9), (10, .int x10), (11, .int x11), (12, .int x12), (13, .int x13)]) (G : aw_G D cA base ad σ d s H locs) : W p l e rm_L_isWord s m args below meth c H locs cells slots (aw_Ej D cA base ad σ below args s 2 128 z) (F0 m 516 ls []) := by
  have hx := X.1; have hb := X.2.1; have hml := X.2.2.1; have hown := X.2.2.2.1
  unfold f_L_isWord_J516 at hf
  refine lv_iconst (v := (0 : Int32)) hx hb dL_isWord_516 (by decide) ?_
  exact w_L_isWord_J517 X hst hf ⟨by omega, by omega⟩  (lv_sub hl [0, 1, 2, 3, 4, 5, 6, 7] rfl) G
set_option maxHeartbeats 4000000 in
set_option maxRecDepth 100000 in
theorem w_L_isWord_J498 {z : Int32 × Dt} (X : aw_X p c cL_isWord 16 s RL m meth (some .boolean)) (hst : l.stackTraces = false) {t0 : Int32} {x0 : Nat} {x3 : Nat} {x8 : Int32} {x9 : Int32} {x10 : Int32} {x11 : Int32} {x12 : Int32} {d : Dt} (hf : f_L_isWord_J498 σ t0 x0 x3 x8 x9 x10 x11 x12 d = some z) { cells slots : Nat} (hB : cells + (2) ≤ 2 ∧ slots + 64 * (2) ≤ 128)  {H : Heap} {locs : List Loc} {ls : Array Slot} (hl : lv_has ls 16 [(0, .ref (ad x0)), (3, .ref (ad x3)), (8, .int x8), (9, .int x9), (10, .int x10), (11, .int x11), (12, .int x12)]) (G : aw_G D cA base ad σ d s H locs) : W p l e rm_L_isWord s m args below meth c H locs cells slots (aw_Ej D cA base ad σ below args s 2 128 z) (F0 m 498 ls [.int t0]) := by
  have hx := X.1; have hb := X.2.1; have hml := X.2.2.1; have hown := X.2.2.2.1
  unfold f_L_isWord_J498 at hf
  refine lv_istore (lv' := [(13, .int t0), (0, .ref (ad x0)), (3, .ref (ad x3)), (8, .int x8), (9, .int x9), (10, .int x10), (11, .int x11), (12, .int x12)]) hx hb dL_isWord_498 hl (by decide) rfl (fun ls hl => ?_)
  refine lv_iload hx hb dL_isWord_500 (lv_at hl 3 rfl) ?_
  refine lv_iconst (v := (3 : Int32)) hx hb dL_isWord_502 (by decide) ?_
  refine lv_icmp_ge (tgt := 516) hx hb dL_isWord_503 (by decide) (fun hc => ?_) (fun hc => ?_)
  · have hf := aw_ite_t hc hf
    exact w_L_isWord_J516 X hst hf ⟨by omega, by omega⟩  (lv_sub hl [1, 2, 3, 4, 5, 6, 7, 0] rfl) G
  · have hf := aw_ite_f hc hf
    refine lv_iload hx hb dL_isWord_506 (lv_at hl 4 rfl) ?_
    refine lv_iconst (v := (4 : Int32)) hx hb dL_isWord_508 (by decide) ?_
    refine lv_icmp_ge (tgt := 516) hx hb dL_isWord_509 (by decide) (fun hc => ?_) (fun hc => ?_)
    · have hf := aw_ite_t hc hf
      exact w_L_isWord_J516 X hst hf ⟨by omega, by omega⟩  (lv_sub hl [1, 2, 3, 4, 5, 6, 7, 0] rfl) G
    · have hf := aw_ite_f hc hf
      refine lv_iconst (v := (1 : Int32)) hx hb dL_isWord_512 (by decide) ?_
      refine lv_goto (tgt := 517) hx hb dL_isWord_513 (by decide) ?_
      exact w_L_isWord_J517 X hst hf ⟨by omega, by omega⟩  (lv_sub hl [1, 2, 3, 4, 5, 6, 7, 0] rfl) G
set_option maxHeartbeats 4000000 in
set_option maxRecDepth 100000 in
theorem w_L_isWord_J470 {z : Int32 × Dt} (X : aw_X p c cL_isWord 16 s RL m meth (some .boolean)) (hst : l.stackTraces = false) {t2 : Int32} {t1 : Int32} {t0 : Int32} {x0 : Nat} {x3 : Nat} {x7 : Int32} {x8 : Int32} {x9 : Int32} {x10 : Int32} {d : Dt} (hf : f_L_isWord_J470 σ t2 t1 t0 x0 x3 x7 x8 x9 x10 d = some z) { cells slots : Nat} (hB : cells + (2) ≤ 2 ∧ slots + 64 * (2) ≤ 128)  {H : Heap} {locs : List Loc} {ls : Array Slot} (hl : lv_has ls 16 [(0, .ref (ad x0)), (3, .ref (ad x3)), (7, .int x7), (8, .int x8), (9, .int x9), (10, .int x10)]) (G : aw_G D cA base ad σ d s H locs) : W p l e rm_L_isWord s m args below meth c H locs cells slots (aw_Ej D cA base ad σ below args s 2 128 z) (F0 m 470 ls [.int t2, .int t1, .int t0]) := by
  have hx := X.1; have hb := X.2.1; have hml := X.2.2.1; have hown := X.2.2.2.1
  unfold f_L_isWord_J470 at hf
  refine lv_iadd hx hb dL_isWord_470 ?_
  obtain ⟨hc_1, hf⟩ := aw_chk_some hf
  refine lv_irem hx hb dL_isWord_471 hc_1 ?_
  refine lv_istore (lv' := [(11, .int (t0 - t0 / (t1 + t2) * (t1 + t2))), (0, .ref (ad x0)), (3, .ref (ad x3)), (7, .int x7), (8, .int x8), (9, .int x9), (10, .int x10)]) hx hb dL_isWord_472 hl (by decide) rfl (fun ls hl => ?_)
  refine lv_iload hx hb dL_isWord_474 (lv_at hl 3 rfl) ?_
  refine lv_bipush (v := (13 : Int32)) hx hb dL_isWord_476 (by decide) ?_
  refine lv_idiv hx hb dL_isWord_478 (by decide) ?_
  refine lv_iload hx hb dL_isWord_479 (lv_at hl 6 rfl) ?_
  obtain ⟨hc_2, hf⟩ := aw_chk_some hf
  refine lv_irem hx hb dL_isWord_481 hc_2 ?_
  refine lv_istore (lv' := [(12, .int ((x7 / (13 : Int32)) - (x7 / (13 : Int32)) / x10 * x10)), (11, .int (t0 - t0 / (t1 + t2) * (t1 + t2))), (0, .ref (ad x0)), (3, .ref (ad x3)), (7, .int x7), (8, .int x8), (9, .int x9), (10, .int x10)]) hx hb dL_isWord_482 hl (by decide) rfl (fun ls hl => ?_)
  refine lv_iload hx hb dL_isWord_484 (lv_at hl 4 rfl) ?_
  refine lv_iconst (v := (5 : Int32)) hx hb dL_isWord_486 (by decide) ?_
  refine lv_idiv hx hb dL_isWord_487 (by decide) ?_
  refine lv_iconst (v := (3 : Int32)) hx hb dL_isWord_488 (by decide) ?_
  refine lv_irem hx hb dL_isWord_489 (by decide) ?_
  refine lv_if_ne (tgt := 497) hx hb dL_isWord_490 (by decide) (fun hc => ?_) (fun hc => ?_)
  · have hf := aw_ite_f hc hf
    refine lv_iconst (v := (0 : Int32)) hx hb dL_isWord_497 (by decide) ?_
    exact w_L_isWord_J498 X hst hf ⟨by omega, by omega⟩  (lv_sub hl [2, 3, 5, 6, 7, 1, 0] rfl) G
  · have hf := aw_ite_t hc hf
    refine lv_iconst (v := (1 : Int32)) hx hb dL_isWord_493 (by decide) ?_
    refine lv_goto (tgt := 498) hx hb dL_isWord_494 (by decide) ?_
    exact w_L_isWord_J498 X hst hf ⟨by omega, by omega⟩  (lv_sub hl [2, 3, 5, 6, 7, 1, 0] rfl) G
set_option maxHeartbeats 4000000 in
set_option maxRecDepth 100000 in
theorem w_L_isWord_J445 {z : Int32 × Dt} (X : aw_X p c cL_isWord 16 s RL m meth (some .boolean)) (hst : l.stackTraces = false) {t0 : Int32} {x0 : Nat} {x3 : Nat} {x6 : Int32} {x7 : Int32} {x8 : Int32} {x9 : Int32} {d : Dt} (hf : f_L_isWord_J445 σ t0 x0 x3 x6 x7 x8 x9 d = some z) { cells slots : Nat} (hB : cells + (2) ≤ 2 ∧ slots + 64 * (2) ≤ 128)  {H : Heap} {locs : List Loc} {ls : Array Slot} (hl : lv_has ls 16 [(0, .ref (ad x0)), (3, .ref (ad x3)), (6, .int x6), (7, .int x7), (8, .int x8), (9, .int x9)]) (G : aw_G D cA base ad σ d s H locs) : W p l e rm_L_isWord s m args below meth c H locs cells slots (aw_Ej D cA base ad σ below args s 2 128 z) (F0 m 445 ls [.int t0]) := by
  have hx := X.1; have hb := X.2.1; have hml := X.2.2.1; have hown := X.2.2.2.1
  unfold f_L_isWord_J445 at hf
  refine lv_istore (lv' := [(10, .int t0), (0, .ref (ad x0)), (3, .ref (ad x3)), (6, .int x6), (7, .int x7), (8, .int x8), (9, .int x9)]) hx hb dL_isWord_445 hl (by decide) rfl (fun ls hl => ?_)
  refine lv_iload hx hb dL_isWord_447 (lv_at hl 3 rfl) ?_
  refine lv_bipush (v := (13 : Int32)) hx hb dL_isWord_449 (by decide) ?_
  refine lv_idiv hx hb dL_isWord_451 (by decide) ?_
  refine lv_iload hx hb dL_isWord_452 (lv_at hl 0 rfl) ?_
  refine lv_iload hx hb dL_isWord_454 (lv_at hl 4 rfl) ?_
  refine lv_bipush (v := (13 : Int32)) hx hb dL_isWord_456 (by decide) ?_
  refine lv_idiv hx hb dL_isWord_458 (by decide) ?_
  refine lv_bipush (v := (11 : Int32)) hx hb dL_isWord_459 (by decide) ?_
  refine lv_irem hx hb dL_isWord_461 (by decide) ?_
  refine lv_if_ne (tgt := 469) hx hb dL_isWord_462 (by decide) (fun hc => ?_) (fun hc => ?_)
  · have hf := aw_ite_f hc hf
    refine lv_iconst (v := (0 : Int32)) hx hb dL_isWord_469 (by decide) ?_
    exact w_L_isWord_J470 X hst hf ⟨by omega, by omega⟩  (lv_sub hl [1, 2, 4, 5, 6, 0] rfl) G
  · have hf := aw_ite_t hc hf
    refine lv_iconst (v := (1 : Int32)) hx hb dL_isWord_465 (by decide) ?_
    refine lv_goto (tgt := 470) hx hb dL_isWord_466 (by decide) ?_
    exact w_L_isWord_J470 X hst hf ⟨by omega, by omega⟩  (lv_sub hl [1, 2, 4, 5, 6, 0] rfl) G
set_option maxHeartbeats 4000000 in
set_option maxRecDepth 100000 in
theorem w_L_isWord_J421 {z : Int32 × Dt} (X : aw_X p c cL_isWord 16 s RL m meth (some .boolean)) (hst : l.stackTraces = false) {t0 : Int32} {x0 : Nat} {x3 : Nat} {x6 : Int32} {x7 : Int32} {x8 : Int32} {d : Dt} (hf : f_L_isWord_J421 σ t0 x0 x3 x6 x7 x8 d = some z) { cells slots : Nat} (hB : cells + (2) ≤ 2 ∧ slots + 64 * (2) ≤ 128)  {H : Heap} {locs : List Loc} {ls : Array Slot} (hl : lv_has ls 16 [(0, .ref (ad x0)), (3, .ref (ad x3)), (6, .int x6), (7, .int x7), (8, .int x8)]) (G : aw_G D cA base ad σ d s H locs) : W p l e rm_L_isWord s m args below meth c H locs cells slots (aw_Ej D cA base ad σ below args s 2 128 z) (F0 m 421 ls [.int t0]) := by
  have hx := X.1; have hb := X.2.1; have hml := X.2.2.1; have hown := X.2.2.2.1
  unfold f_L_isWord_J421 at hf
  refine lv_istore (lv' := [(9, .int t0), (0, .ref (ad x0)), (3, .ref (ad x3)), (6, .int x6), (7, .int x7), (8, .int x8)]) hx hb dL_isWord_421 hl (by decide) rfl (fun ls hl => ?_)
  refine lv_iload hx hb dL_isWord_423 (lv_at hl 0 rfl) ?_
  refine lv_iconst (v := (1 : Int32)) hx hb dL_isWord_425 (by decide) ?_
  refine lv_icmp_ne (tgt := 433) hx hb dL_isWord_426 (by decide) (fun hc => ?_) (fun hc => ?_)
  · have hf := aw_ite_f hc hf
    refine lv_iload hx hb dL_isWord_433 (lv_at hl 0 rfl) ?_
    refine lv_iconst (v := (3 : Int32)) hx hb dL_isWord_435 (by decide) ?_
    refine lv_icmp_ne (tgt := 443) hx hb dL_isWord_436 (by decide) (fun hc => ?_) (fun hc => ?_)
    · have hf := aw_ite_f hc hf
      refine lv_bipush (v := (9 : Int32)) hx hb dL_isWord_443 (by decide) ?_
      exact w_L_isWord_J445 X hst hf ⟨by omega, by omega⟩  (lv_sub hl [1, 2, 3, 4, 5, 0] rfl) G
    · have hf := aw_ite_t hc hf
      refine lv_iconst (v := (3 : Int32)) hx hb dL_isWord_439 (by decide) ?_
      refine lv_goto (tgt := 445) hx hb dL_isWord_440 (by decide) ?_
      exact w_L_isWord_J445 X hst hf ⟨by omega, by omega⟩  (lv_sub hl [1, 2, 3, 4, 5, 0] rfl) G
  · have hf := aw_ite_t hc hf
    refine lv_iconst (v := (4 : Int32)) hx hb dL_isWord_429 (by decide) ?_
    refine lv_goto (tgt := 445) hx hb dL_isWord_430 (by decide) ?_
    exact w_L_isWord_J445 X hst hf ⟨by omega, by omega⟩  (lv_sub hl [1, 2, 3, 4, 5, 0] rfl) G
set_option maxHeartbeats 4000000 in
set_option maxRecDepth 100000 in
theorem w_L_isWord_J401 {z : Int32 × Dt} (X : aw_X p c cL_isWord 16 s RL m meth (some .boolean)) (hst : l.stackTraces = false) {t0 : Int32} {x0 : Nat} {x3 : Nat} {x6 : Int32} {x7 : Int32} {d : Dt} (hf : f_L_isWord_J401 σ t0 x0 x3 x6 x7 d = some z) { cells slots : Nat} (hB : cells + (2) ≤ 2 ∧ slots + 64 * (2) ≤ 128)  {H : Heap} {locs : List Loc} {ls : Array Slot} (hl : lv_has ls 16 [(0, .ref (ad x0)), (3, .ref (ad x3)), (6, .int x6), (7, .int x7)]) (G : aw_G D cA base ad σ d s H locs) : W p l e rm_L_isWord s m args below meth c H locs cells slots (aw_Ej D cA base ad σ below args s 2 128 z) (F0 m 401 ls [.int t0]) := by
  have hx := X.1; have hb := X.2.1; have hml := X.2.2.1; have hown := X.2.2.2.1
  unfold f_L_isWord_J401 at hf
  refine lv_istore (lv' := [(8, .int t0), (0, .ref (ad x0)), (3, .ref (ad x3)), (6, .int x6), (7, .int x7)]) hx hb dL_isWord_401 hl (by decide) rfl (fun ls hl => ?_)
  refine lv_iload hx hb dL_isWord_403 (lv_at hl 4 rfl) ?_
  refine lv_bipush (v := (13 : Int32)) hx hb dL_isWord_405 (by decide) ?_
  refine lv_irem hx hb dL_isWord_407 (by decide) ?_
  refine lv_bipush (v := (12 : Int32)) hx hb dL_isWord_408 (by decide) ?_
  refine lv_icmp_ne (tgt := 417) hx hb dL_isWord_410 (by decide) (fun hc => ?_) (fun hc => ?_)
  · have hf := aw_ite_f hc hf
    refine lv_iload hx hb dL_isWord_417 (lv_at hl 4 rfl) ?_
    refine lv_iconst (v := (4 : Int32)) hx hb dL_isWord_419 (by decide) ?_
    refine lv_irem hx hb dL_isWord_420 (by decide) ?_
    exact w_L_isWord_J421 X hst hf ⟨by omega, by omega⟩  (lv_sub hl [1, 2, 3, 4, 0] rfl) G
  · have hf := aw_ite_t hc hf
    refine lv_iconst (v := (4 : Int32)) hx hb dL_isWord_413 (by decide) ?_
    refine lv_goto (tgt := 421) hx hb dL_isWord_414 (by decide) ?_
    exact w_L_isWord_J421 X hst hf ⟨by omega, by omega⟩  (lv_sub hl [1, 2, 3, 4, 0] rfl) G
set_option maxHeartbeats 4000000 in
set_option maxRecDepth 100000 in
theorem w_L_isWord_J382 {z : Int32 × Dt} (X : aw_X p c cL_isWord 16 s RL m meth (some .boolean)) (hst : l.stackTraces = false) {t0 : Int32} {d : Dt} (hf : f_L_isWord_J382 σ t0 d = some z) { cells slots : Nat} (hB : cells + (0) ≤ 2 ∧ slots + 64 * (0) ≤ 128)  {H : Heap} {locs : List Loc} {ls : Array Slot} (hl : lv_has ls 16 []) (G : aw_G D cA base ad σ d s H locs) : W p l e rm_L_isWord s m args below meth c H locs cells slots (aw_Ej D cA base ad σ below args s 2 128 z) (F0 m 382 ls [.int t0]) := by
  have hx := X.1; have hb := X.2.1; have hml := X.2.2.1; have hown := X.2.2.2.1
  unfold f_L_isWord_J382 at hf
  obtain ⟨hc_17, hf⟩ := aw_chk_some hf
  exact aw_retjZ X G hf hc_17 dL_isWord_382 (by omega) (by omega)
set_option maxHeartbeats 4000000 in
set_option maxRecDepth 100000 in
theorem w_L_isWord_J374 {z : Int32 × Dt} (X : aw_X p c cL_isWord 16 s RL m meth (some .boolean)) (hst : l.stackTraces = false) {t1 : Int32} {t0 : Int32} {d : Dt} (hf : f_L_isWord_J374 σ t1 t0 d = some z) { cells slots : Nat} (hB : cells + (0) ≤ 2 ∧ slots + 64 * (0) ≤ 128)  {H : Heap} {locs : List Loc} {ls : Array Slot} (hl : lv_has ls 16 []) (G : aw_G D cA base ad σ d s H locs) : W p l e rm_L_isWord s m args below meth c H locs cells slots (aw_Ej D cA base ad σ below args s 2 128 z) (F0 m 374 ls [.int t1, .int t0]) := by
  have hx := X.1; have hb := X.2.1; have hml := X.2.2.1; have hown := X.2.2.2.1
  unfold f_L_isWord_J374 at hf
  refine lv_icmp_ne (tgt := 381) hx hb dL_isWord_374 (by decide) (fun hc => ?_) (fun hc => ?_)
  · have hf := aw_ite_f hc hf
    refine lv_iconst (v := (0 : Int32)) hx hb dL_isWord_381 (by decide) ?_
    exact w_L_isWord_J382 X hst hf ⟨by omega, by omega⟩  (lv_sub hl [] rfl) G
  · have hf := aw_ite_t hc hf
    refine lv_iconst (v := (1 : Int32)) hx hb dL_isWord_377 (by decide) ?_
    refine lv_goto (tgt := 382) hx hb dL_isWord_378 (by decide) ?_
    exact w_L_isWord_J382 X hst hf ⟨by omega, by omega⟩  (lv_sub hl [] rfl) G
set_option maxHeartbeats 4000000 in
set_option maxRecDepth 100000 in
theorem w_L_isWord_J337 {z : Int32 × Dt} (X : aw_X p c cL_isWord 16 s RL m meth (some .boolean)) (hst : l.stackTraces = false) {x0 : Nat} {x4 : Nat} {x8 : Int32} {x9 : Int32} {x10 : Int32} {d : Dt} (hf : f_L_isWord_J337 σ x0 x4 x8 x9 x10 d = some z) { cells slots : Nat} (hB : cells + (1) ≤ 2 ∧ slots + 64 * (1) ≤ 128)  {H : Heap} {locs : List Loc} {ls : Array Slot} (hl : lv_has ls 16 [(0, .ref (ad x0)), (4, .ref (ad x4)), (8, .int x8), (9, .int x9), (10, .int x10)]) (G : aw_G D cA base ad σ d s H locs) : W p l e rm_L_isWord s m args below meth c H locs cells slots (aw_Ej D cA base ad σ below args s 2 128 z) (F0 m 337 ls []) := by
  have hx := X.1; have hb := X.2.1; have hml := X.2.2.1; have hown := X.2.2.2.1
  unfold f_L_isWord_J337 at hf
  refine lv_aload_n hx hb dL_isWord_337 rfl (lv_at hl 0 rfl) ?_
  refine lv_iconst (v := (1 : Int32)) hx hb dL_isWord_338 (by decide) ?_
  refine lv_iload hx hb dL_isWord_339 (lv_at hl 2 rfl) ?_
  refine lv_iconst (v := (0 : Int32)) hx hb dL_isWord_341 (by decide) ?_
  refine lv_iconst (v := (0 : Int32)) hx hb dL_isWord_342 (by decide) ?_
  refine lv_iconst (v := (0 : Int32)) hx hb dL_isWord_343 (by decide) ?_
  refine lv_iconst (v := (0 : Int32)) hx hb dL_isWord_344 (by decide) ?_
  obtain ⟨z_15, hz_16, hf⟩ := aw_bind_some hf
  refine aw_WI2 (As := [.ref (ad x0), .int ((1 : Int32)), .int x8, .int ((0 : Int32)), .int ((0 : Int32)), .int ((0 : Int32)), .int ((0 : Int32))]) (rest := []) X G hl.1 cr_L_123 (c_L_does_1 l hst hz_16) rfl rfl rfl ⟨(Nat.le_of_ble_eq_true rfl), (Nat.le_of_ble_eq_true rfl)⟩ (Nat.le_of_ble_eq_true rfl) dL_isWord_345 1 6 ⟨(Nat.le_of_ble_eq_true rfl), (Nat.le_of_ble_eq_true rfl)⟩ ⟨by show cells + 1 ≤ 2; omega, by show slots + 6 ≤ 128; omega⟩ (fun H locs G => ?_)
  refine lv_iload hx hb dL_isWord_348 (lv_at hl 3 rfl) ?_
  refine lv_if_ne (tgt := 358) hx hb dL_isWord_350 (by decide) (fun hc => ?_) (fun hc => ?_)
  · have hf := aw_ite_f hc hf
    refine lv_iload hx hb dL_isWord_358 (lv_at hl 4 rfl) ?_
    refine lv_if_eq (tgt := 372) hx hb dL_isWord_360 (by decide) (fun hc => ?_) (fun hc => ?_)
    · have hf := aw_ite_t hc hf
      refine lv_ldc (v := (-1000000 : Int32)) hx hb hown (G.1.hts _ m_761) dL_isWord_372 ?_
      exact w_L_isWord_J374 X hst hf ⟨by omega, by omega⟩  (lv_sub hl [] rfl) G
    · have hf := aw_ite_f hc hf
      refine lv_aload hx hb dL_isWord_363 (lv_at hl 1 rfl) ?_
      refine lv_iconst (v := (0 : Int32)) hx hb dL_isWord_365 (by decide) ?_
      obtain ⟨hc_18, hf⟩ := aw_chk_some hf
      refine aw_ial hx hb G hc_18 dL_isWord_366 ?_
      refine lv_iconst (v := (1 : Int32)) hx hb dL_isWord_367 (by decide) ?_
      refine lv_isub hx hb dL_isWord_368 ?_
      refine lv_goto (tgt := 374) hx hb dL_isWord_369 (by decide) ?_
      exact w_L_isWord_J374 X hst hf ⟨by omega, by omega⟩  (lv_sub hl [] rfl) G
  · have hf := aw_ite_t hc hf
    refine lv_ldc (v := (-2000000 : Int32)) hx hb hown (G.1.hts _ m_760) dL_isWord_353 ?_
    refine lv_goto (tgt := 374) hx hb dL_isWord_355 (by decide) ?_
    exact w_L_isWord_J374 X hst hf ⟨by omega, by omega⟩  (lv_sub hl [] rfl) G
set_option maxHeartbeats 4000000 in
set_option maxRecDepth 100000 in
theorem w_L_isWord_B270 {z : Int32 × Dt} (X : aw_X p c cL_isWord 16 s RL m meth (some .boolean)) (hst : l.stackTraces = false) {kb270 : Int32 → Dt → Option (Int32 × Dt)} {k270 : Dt → Option (Int32 × Dt)} {x0 : Nat} {x1 : Nat} {x2 : Nat} {x4 : Nat} {x8 : Int32} {x9 : Int32} {x10 : Int32} {x11 : Int32} {d : Dt} (hf : f_L_isWord_B270 σ kb270 k270 x0 x1 x2 x4 x8 x9 x10 x11 d = some z) { cells slots : Nat} (hB : cells + (1) ≤ 2 ∧ slots + 64 * (1) ≤ 128) (hkb270 : ∀ (y11 : Int32) (d : Dt), kb270 y11 d = some z → ∀ (cells slots : Nat), cells + (1) ≤ 2 ∧ slots + 64 * (1) ≤ 128 → ∀ (H : Heap) (locs : List Loc) (ls : Array Slot), lv_has ls 16 [(0, .ref (ad x0)), (1, .ref (ad x1)), (2, .ref (ad x2)), (4, .ref (ad x4)), (8, .int x8), (9, .int x9), (10, .int x10), (11, .int y11)] → aw_G D cA base ad σ d s H locs → W p l e rm_L_isWord s m args below meth c H locs cells slots (aw_Ej D cA base ad σ below args s 2 128 z) (F0 m 270 ls [])) (hk270 : ∀ (d : Dt), k270 d = some z → ∀ (cells slots : Nat), cells + (1) ≤ 2 ∧ slots + 64 * (1) ≤ 128 → ∀ (H : Heap) (locs : List Loc) (ls : Array Slot), lv_has ls 16 [(0, .ref (ad x0)), (2, .ref (ad x2)), (4, .ref (ad x4)), (8, .int x8), (9, .int x9), (10, .int x10)] → aw_G D cA base ad σ d s H locs → W p l e rm_L_isWord s m args below meth c H locs cells slots (aw_Ej D cA base ad σ below args s 2 128 z) (F0 m 303 ls [])) {H : Heap} {locs : List Loc} {ls : Array Slot} (hl : lv_has ls 16 [(0, .ref (ad x0)), (1, .ref (ad x1)), (2, .ref (ad x2)), (4, .ref (ad x4)), (8, .int x8), (9, .int x9), (10, .int x10), (11, .int x11)]) (G : aw_G D cA base ad σ d s H locs) : W p l e rm_L_isWord s m args below meth c H locs cells slots (aw_Ej D cA base ad σ below args s 2 128 z) (F0 m 270 ls []) := by
  have hx := X.1; have hb := X.2.1; have hml := X.2.2.1; have hown := X.2.2.2.1
  unfold f_L_isWord_B270 at hf
  refine lv_iload hx hb dL_isWord_270 (lv_at hl 7 rfl) ?_
  refine lv_aload_n hx hb dL_isWord_272 rfl (lv_at hl 2 rfl) ?_
  refine lv_bipush (v := (6 : Int32)) hx hb dL_isWord_273 (by decide) ?_
  obtain ⟨hc_19, hf⟩ := aw_chk_some hf
  refine aw_ial hx hb G hc_19 dL_isWord_275 ?_
  refine lv_icmp_ge (tgt := 303) hx hb dL_isWord_276 (by decide) (fun hc => ?_) (fun hc => ?_)
  · have hf := aw_ite_t hc hf
    exact hk270 _ hf _ _ ⟨by omega, by omega⟩ _ _ _ (lv_sub hl [0, 2, 3, 4, 5, 6] rfl) G
  · have hf := aw_ite_f hc hf
    refine lv_aload_n hx hb dL_isWord_279 rfl (lv_at hl 1 rfl) ?_
    refine lv_iconst (v := (4 : Int32)) hx hb dL_isWord_280 (by decide) ?_
    refine lv_aload hx hb dL_isWord_281 (lv_at hl 3 rfl) ?_
    refine lv_iconst (v := (0 : Int32)) hx hb dL_isWord_283 (by decide) ?_
    obtain ⟨hc_20, hf⟩ := aw_chk_some hf
    refine aw_ial hx hb G hc_20 dL_isWord_284 ?_
    refine lv_imul hx hb dL_isWord_285 ?_
    refine lv_iload hx hb dL_isWord_286 (lv_at hl 7 rfl) ?_
    refine lv_iadd hx hb dL_isWord_288 ?_
    refine lv_aload_n hx hb dL_isWord_289 rfl (lv_at hl 1 rfl) ?_
    refine lv_bipush (v := (24 : Int32)) hx hb dL_isWord_290 (by decide) ?_
    refine lv_iload hx hb dL_isWord_292 (lv_at hl 7 rfl) ?_
    refine lv_iadd hx hb dL_isWord_294 ?_
    obtain ⟨hc_21, hf⟩ := aw_chk_some hf
    refine aw_ial hx hb G hc_21 dL_isWord_295 ?_
    obtain ⟨hc_22, hf⟩ := aw_chk_some hf
    refine aw_ias hx hb G hc_22 dL_isWord_296 (fun H locs G => ?_)
    refine lv_iinc (v := x11 + 1) (lv' := [(11, .int (x11 + 1)), (0, .ref (ad x0)), (1, .ref (ad x1)), (2, .ref (ad x2)), (4, .ref (ad x4)), (8, .int x8), (9, .int x9), (10, .int x10)]) hx hb dL_isWord_297 hl (k := 7) rfl rfl (by decide) rfl (fun ls hl => ?_)
    refine lv_goto (tgt := 270) hx hb dL_isWord_300 (by decide) ?_
    exact hkb270 _ _ hf _ _ ⟨by omega, by omega⟩ _ _ _ (lv_sub hl [1, 2, 3, 4, 5, 6, 7, 0] rfl) G
theorem w_L_isWord_L270 {z : Int32 × Dt} (X : aw_X p c cL_isWord 16 s RL m meth (some .boolean)) (hst : l.stackTraces = false) {k270 : Dt → Option (Int32 × Dt)} {x0 : Nat} {x1 : Nat} {x2 : Nat} {x4 : Nat} {x8 : Int32} {x9 : Int32} {x10 : Int32} (n : Nat) {x11 : Int32} {d : Dt} (hf : f_L_isWord_L270 σ n k270 x0 x1 x2 x4 x8 x9 x10 x11 d = some z) { cells slots : Nat} (hB : cells + (1) ≤ 2 ∧ slots + 64 * (1) ≤ 128) (hk270 : ∀ (d : Dt), k270 d = some z → ∀ (cells slots : Nat), cells + (1) ≤ 2 ∧ slots + 64 * (1) ≤ 128 → ∀ (H : Heap) (locs : List Loc) (ls : Array Slot), lv_has ls 16 [(0, .ref (ad x0)), (2, .ref (ad x2)), (4, .ref (ad x4)), (8, .int x8), (9, .int x9), (10, .int x10)] → aw_G D cA base ad σ d s H locs → W p l e rm_L_isWord s m args below meth c H locs cells slots (aw_Ej D cA base ad σ below args s 2 128 z) (F0 m 303 ls [])) {H : Heap} {locs : List Loc} {ls : Array Slot} (hl : lv_has ls 16 [(0, .ref (ad x0)), (1, .ref (ad x1)), (2, .ref (ad x2)), (4, .ref (ad x4)), (8, .int x8), (9, .int x9), (10, .int x10), (11, .int x11)]) (G : aw_G D cA base ad σ d s H locs) : W p l e rm_L_isWord s m args below meth c H locs cells slots (aw_Ej D cA base ad σ below args s 2 128 z) (F0 m 270 ls []) := by
  induction n generalizing x11 d cells slots H locs ls with
  | zero => exact absurd (show (none : Option (Int32 × Dt)) = some z from hf) (by simp)
  | succ n ih => exact w_L_isWord_B270 X hst (kb270 := f_L_isWord_L270 σ n k270 x0 x1 x2 x4 x8 x9 x10) hf ⟨by omega, by omega⟩  (fun x11 d hf cells slots hB H locs ls hl G => ih hf hB hl G) hk270 hl G
set_option maxHeartbeats 4000000 in
set_option maxRecDepth 100000 in
theorem w_L_isWord_J260 {z : Int32 × Dt} (X : aw_X p c cL_isWord 16 s RL m meth (some .boolean)) (hst : l.stackTraces = false) {t0 : Int32} {x0 : Nat} {x1 : Nat} {x2 : Nat} {x4 : Nat} {x8 : Int32} {x9 : Int32} {d : Dt} (hf : f_L_isWord_J260 σ t0 x0 x1 x2 x4 x8 x9 d = some z) { cells slots : Nat} (hB : cells + (1) ≤ 2 ∧ slots + 64 * (1) ≤ 128)  {H : Heap} {locs : List Loc} {ls : Array Slot} (hl : lv_has ls 16 [(0, .ref (ad x0)), (1, .ref (ad x1)), (2, .ref (ad x2)), (4, .ref (ad x4)), (8, .int x8), (9, .int x9)]) (G : aw_G D cA base ad σ d s H locs) : W p l e rm_L_isWord s m args below meth c H locs cells slots (aw_Ej D cA base ad σ below args s 2 128 z) (F0 m 260 ls [.int t0]) := by
  have hx := X.1; have hb := X.2.1; have hml := X.2.2.1; have hown := X.2.2.2.1
  unfold f_L_isWord_J260 at hf
  refine lv_istore (lv' := [(10, .int t0), (0, .ref (ad x0)), (1, .ref (ad x1)), (2, .ref (ad x2)), (4, .ref (ad x4)), (8, .int x8), (9, .int x9)]) hx hb dL_isWord_260 hl (by decide) rfl (fun ls hl => ?_)
  refine lv_iload hx hb dL_isWord_262 (lv_at hl 0 rfl) ?_
  refine lv_if_eq (tgt := 337) hx hb dL_isWord_264 (by decide) (fun hc => ?_) (fun hc => ?_)
  · have hf := aw_ite_t hc hf
    exact w_L_isWord_J337 X hst hf ⟨by omega, by omega⟩  (lv_sub hl [1, 4, 5, 6, 0] rfl) G
  · have hf := aw_ite_f hc hf
    refine lv_iconst (v := (0 : Int32)) hx hb dL_isWord_267 (by decide) ?_
    refine lv_istore (lv' := [(11, .int ((0 : Int32))), (10, .int t0), (0, .ref (ad x0)), (1, .ref (ad x1)), (2, .ref (ad x2)), (4, .ref (ad x4)), (8, .int x8), (9, .int x9)]) hx hb dL_isWord_268 hl (by decide) rfl (fun ls hl => ?_)
    refine w_L_isWord_L270 X hst aw_FU hf ⟨by omega, by omega⟩  (fun d_23 hf cells slots hB H locs ls hl G => ?_) (lv_sub hl [2, 3, 4, 5, 6, 7, 1, 0] rfl) G
    refine lv_aload_n hx hb dL_isWord_303 rfl (lv_at hl 1 rfl) ?_
    refine lv_aload hx hb dL_isWord_304 (lv_at hl 2 rfl) ?_
    refine lv_iconst (v := (0 : Int32)) hx hb dL_isWord_306 (by decide) ?_
    obtain ⟨hc_24, hf⟩ := aw_chk_some hf
    refine aw_ial hx hb G hc_24 dL_isWord_307 ?_
    refine lv_aload_n hx hb dL_isWord_308 rfl (lv_at hl 1 rfl) ?_
    refine lv_bipush (v := (6 : Int32)) hx hb dL_isWord_309 (by decide) ?_
    obtain ⟨hc_25, hf⟩ := aw_chk_some hf
    refine aw_ial hx hb G hc_25 dL_isWord_311 ?_
    obtain ⟨hc_26, hf⟩ := aw_chk_some hf
    refine aw_ias hx hb G hc_26 dL_isWord_312 (fun H locs G => ?_)
    refine lv_aload_n hx hb dL_isWord_313 rfl (lv_at hl 1 rfl) ?_
    refine lv_bipush (v := (8 : Int32)) hx hb dL_isWord_314 (by decide) ?_
    refine lv_aload hx hb dL_isWord_316 (lv_at hl 2 rfl) ?_
    refine lv_iconst (v := (0 : Int32)) hx hb dL_isWord_318 (by decide) ?_
    refine aw_ial hx hb G hc_24 dL_isWord_319 ?_
    refine lv_iadd hx hb dL_isWord_320 ?_
    refine lv_iload hx hb dL_isWord_321 (lv_at hl 3 rfl) ?_
    obtain ⟨hc_27, hf⟩ := aw_chk_some hf
    refine aw_ias hx hb G hc_27 dL_isWord_323 (fun H locs G => ?_)
    refine lv_aload_n hx hb dL_isWord_324 rfl (lv_at hl 1 rfl) ?_
    refine lv_bipush (v := (6 : Int32)) hx hb dL_isWord_325 (by decide) ?_
    refine lv_iconst (v := (0 : Int32)) hx hb dL_isWord_327 (by decide) ?_
    refine aw_ias hx hb G hc_25 dL_isWord_328 (fun H locs G => ?_)
    refine lv_aload hx hb dL_isWord_329 (lv_at hl 2 rfl) ?_
    refine lv_iconst (v := (0 : Int32)) hx hb dL_isWord_331 (by decide) ?_
    refine lv_dup2_11 hx hb dL_isWord_332 rfl rfl ?_
    refine aw_ial hx hb G hc_24 dL_isWord_333 ?_
    refine lv_iconst (v := (1 : Int32)) hx hb dL_isWord_334 (by decide) ?_
    refine lv_iadd hx hb dL_isWord_335 ?_
    refine aw_ias hx hb G hc_24 dL_isWord_336 (fun H locs G => ?_)
    exact w_L_isWord_J337 X hst hf ⟨by omega, by omega⟩  (lv_sub hl [0, 2, 3, 4, 5] rfl) G
set_option maxHeartbeats 4000000 in
set_option maxRecDepth 100000 in
theorem w_L_isWord_J259 {z : Int32 × Dt} (X : aw_X p c cL_isWord 16 s RL m meth (some .boolean)) (hst : l.stackTraces = false) {x0 : Nat} {x1 : Nat} {x2 : Nat} {x4 : Nat} {x8 : Int32} {x9 : Int32} {d : Dt} (hf : f_L_isWord_J259 σ x0 x1 x2 x4 x8 x9 d = some z) { cells slots : Nat} (hB : cells + (1) ≤ 2 ∧ slots + 64 * (1) ≤ 128)  {H : Heap} {locs : List Loc} {ls : Array Slot} (hl : lv_has ls 16 [(0, .ref (ad x0)), (1, .ref (ad x1)), (2, .ref (ad x2)), (4, .ref (ad x4)), (8, .int x8), (9, .int x9)]) (G : aw_G D cA base ad σ d s H locs) : W p l e rm_L_isWord s m args below meth c H locs cells slots (aw_Ej D cA base ad σ below args s 2 128 z) (F0 m 259 ls []) := by
  have hx := X.1; have hb := X.2.1; have hml := X.2.2.1; have hown := X.2.2.2.1
  unfold f_L_isWord_J259 at hf
  refine lv_iconst (v := (0 : Int32)) hx hb dL_isWord_259 (by decide) ?_
  exact w_L_isWord_J260 X hst hf ⟨by omega, by omega⟩  (lv_sub hl [0, 1, 2, 3, 4, 5] rfl) G
set_option maxHeartbeats 4000000 in
set_option maxRecDepth 100000 in
theorem w_L_isWord_J241 {z : Int32 × Dt} (X : aw_X p c cL_isWord 16 s RL m meth (some .boolean)) (hst : l.stackTraces = false) {t0 : Int32} {x0 : Nat} {x1 : Nat} {x2 : Nat} {x4 : Nat} {x8 : Int32} {d : Dt} (hf : f_L_isWord_J241 σ t0 x0 x1 x2 x4 x8 d = some z) { cells slots : Nat} (hB : cells + (1) ≤ 2 ∧ slots + 64 * (1) ≤ 128)  {H : Heap} {locs : List Loc} {ls : Array Slot} (hl : lv_has ls 16 [(0, .ref (ad x0)), (1, .ref (ad x1)), (2, .ref (ad x2)), (4, .ref (ad x4)), (8, .int x8)]) (G : aw_G D cA base ad σ d s H locs) : W p l e rm_L_isWord s m args below meth c H locs cells slots (aw_Ej D cA base ad σ below args s 2 128 z) (F0 m 241 ls [.int t0]) := by
  have hx := X.1; have hb := X.2.1; have hml := X.2.2.1; have hown := X.2.2.2.1
  unfold f_L_isWord_J241 at hf
  refine lv_istore (lv' := [(9, .int t0), (0, .ref (ad x0)), (1, .ref (ad x1)), (2, .ref (ad x2)), (4, .ref (ad x4)), (8, .int x8)]) hx hb dL_isWord_241 hl (by decide) rfl (fun ls hl => ?_)
  refine lv_iload hx hb dL_isWord_243 (lv_at hl 0 rfl) ?_
  refine lv_if_eq (tgt := 259) hx hb dL_isWord_245 (by decide) (fun hc => ?_) (fun hc => ?_)
  · have hf := aw_ite_t hc hf
    exact w_L_isWord_J259 X hst hf ⟨by omega, by omega⟩  (lv_sub hl [1, 2, 3, 4, 5, 0] rfl) G
  · have hf := aw_ite_f hc hf
    refine lv_aload_n hx hb dL_isWord_248 rfl (lv_at hl 3 rfl) ?_
    refine lv_bipush (v := (6 : Int32)) hx hb dL_isWord_249 (by decide) ?_
    obtain ⟨hc_28, hf⟩ := aw_chk_some hf
    refine aw_ial hx hb G hc_28 dL_isWord_251 ?_
    refine lv_if_le (tgt := 259) hx hb dL_isWord_252 (by decide) (fun hc => ?_) (fun hc => ?_)
    · have hf := aw_ite_t hc hf
      exact w_L_isWord_J259 X hst hf ⟨by omega, by omega⟩  (lv_sub hl [1, 2, 3, 4, 5, 0] rfl) G
    · have hf := aw_ite_f hc hf
      refine lv_iconst (v := (1 : Int32)) hx hb dL_isWord_255 (by decide) ?_
      refine lv_goto (tgt := 260) hx hb dL_isWord_256 (by decide) ?_
      exact w_L_isWord_J260 X hst hf ⟨by omega, by omega⟩  (lv_sub hl [1, 2, 3, 4, 5, 0] rfl) G
set_option maxHeartbeats 4000000 in
set_option maxRecDepth 100000 in
theorem w_L_isWord_J240 {z : Int32 × Dt} (X : aw_X p c cL_isWord 16 s RL m meth (some .boolean)) (hst : l.stackTraces = false) {x0 : Nat} {x1 : Nat} {x2 : Nat} {x4 : Nat} {x8 : Int32} {d : Dt} (hf : f_L_isWord_J240 σ x0 x1 x2 x4 x8 d = some z) { cells slots : Nat} (hB : cells + (1) ≤ 2 ∧ slots + 64 * (1) ≤ 128)  {H : Heap} {locs : List Loc} {ls : Array Slot} (hl : lv_has ls 16 [(0, .ref (ad x0)), (1, .ref (ad x1)), (2, .ref (ad x2)), (4, .ref (ad x4)), (8, .int x8)]) (G : aw_G D cA base ad σ d s H locs) : W p l e rm_L_isWord s m args below meth c H locs cells slots (aw_Ej D cA base ad σ below args s 2 128 z) (F0 m 240 ls []) := by
  have hx := X.1; have hb := X.2.1; have hml := X.2.2.1; have hown := X.2.2.2.1
  unfold f_L_isWord_J240 at hf
  refine lv_iconst (v := (0 : Int32)) hx hb dL_isWord_240 (by decide) ?_
  exact w_L_isWord_J241 X hst hf ⟨by omega, by omega⟩  (lv_sub hl [0, 1, 2, 3, 4] rfl) G
set_option maxHeartbeats 4000000 in
set_option maxRecDepth 100000 in
theorem w_L_isWord_J221 {z : Int32 × Dt} (X : aw_X p c cL_isWord 16 s RL m meth (some .boolean)) (hst : l.stackTraces = false) {t0 : Int32} {x0 : Nat} {x1 : Nat} {x2 : Nat} {x4 : Nat} {d : Dt} (hf : f_L_isWord_J221 σ t0 x0 x1 x2 x4 d = some z) { cells slots : Nat} (hB : cells + (1) ≤ 2 ∧ slots + 64 * (1) ≤ 128)  {H : Heap} {locs : List Loc} {ls : Array Slot} (hl : lv_has ls 16 [(0, .ref (ad x0)), (1, .ref (ad x1)), (2, .ref (ad x2)), (4, .ref (ad x4))]) (G : aw_G D cA base ad σ d s H locs) : W p l e rm_L_isWord s m args below meth c H locs cells slots (aw_Ej D cA base ad σ below args s 2 128 z) (F0 m 221 ls [.int t0]) := by
  have hx := X.1; have hb := X.2.1; have hml := X.2.2.1; have hown := X.2.2.2.1
  unfold f_L_isWord_J221 at hf
  refine lv_istore (lv' := [(8, .int t0), (0, .ref (ad x0)), (1, .ref (ad x1)), (2, .ref (ad x2)), (4, .ref (ad x4))]) hx hb dL_isWord_221 hl (by decide) rfl (fun ls hl => ?_)
  refine lv_iload hx hb dL_isWord_223 (lv_at hl 0 rfl) ?_
  refine lv_if_le (tgt := 240) hx hb dL_isWord_225 (by decide) (fun hc => ?_) (fun hc => ?_)
  · have hf := aw_ite_t hc hf
    exact w_L_isWord_J240 X hst hf ⟨by omega, by omega⟩  (lv_sub hl [1, 2, 3, 4, 0] rfl) G
  · have hf := aw_ite_f hc hf
    refine lv_iload hx hb dL_isWord_228 (lv_at hl 0 rfl) ?_
    refine lv_sipush (v := (1000 : Int32)) hx hb dL_isWord_230 (by decide) ?_
    refine lv_icmp_ge (tgt := 240) hx hb dL_isWord_233 (by decide) (fun hc => ?_) (fun hc => ?_)
    · have hf := aw_ite_t hc hf
      exact w_L_isWord_J240 X hst hf ⟨by omega, by omega⟩  (lv_sub hl [1, 2, 3, 4, 0] rfl) G
    · have hf := aw_ite_f hc hf
      refine lv_iconst (v := (1 : Int32)) hx hb dL_isWord_236 (by decide) ?_
      refine lv_goto (tgt := 241) hx hb dL_isWord_237 (by decide) ?_
      exact w_L_isWord_J241 X hst hf ⟨by omega, by omega⟩  (lv_sub hl [1, 2, 3, 4, 0] rfl) G
set_option maxHeartbeats 4000000 in
set_option maxRecDepth 100000 in
theorem w_L_isWord_J172 {z : Int32 × Dt} (X : aw_X p c cL_isWord 16 s RL m meth (some .boolean)) (hst : l.stackTraces = false) {t0 : Int32} {d : Dt} (hf : f_L_isWord_J172 σ t0 d = some z) { cells slots : Nat} (hB : cells + (0) ≤ 2 ∧ slots + 64 * (0) ≤ 128)  {H : Heap} {locs : List Loc} {ls : Array Slot} (hl : lv_has ls 16 []) (G : aw_G D cA base ad σ d s H locs) : W p l e rm_L_isWord s m args below meth c H locs cells slots (aw_Ej D cA base ad σ below args s 2 128 z) (F0 m 172 ls [.int t0]) := by
  have hx := X.1; have hb := X.2.1; have hml := X.2.2.1; have hown := X.2.2.2.1
  unfold f_L_isWord_J172 at hf
  obtain ⟨hc_32, hf⟩ := aw_chk_some hf
  exact aw_retjZ X G hf hc_32 dL_isWord_172 (by omega) (by omega)
set_option maxHeartbeats 4000000 in
set_option maxRecDepth 100000 in
theorem w_L_isWord_J164 {z : Int32 × Dt} (X : aw_X p c cL_isWord 16 s RL m meth (some .boolean)) (hst : l.stackTraces = false) {t1 : Int32} {t0 : Int32} {d : Dt} (hf : f_L_isWord_J164 σ t1 t0 d = some z) { cells slots : Nat} (hB : cells + (0) ≤ 2 ∧ slots + 64 * (0) ≤ 128)  {H : Heap} {locs : List Loc} {ls : Array Slot} (hl : lv_has ls 16 []) (G : aw_G D cA base ad σ d s H locs) : W p l e rm_L_isWord s m args below meth c H locs cells slots (aw_Ej D cA base ad σ below args s 2 128 z) (F0 m 164 ls [.int t1, .int t0]) := by
  have hx := X.1; have hb := X.2.1; have hml := X.2.2.1; have hown := X.2.2.2.1
  unfold f_L_isWord_J164 at hf
  refine lv_icmp_ne (tgt := 171) hx hb dL_isWord_164 (by decide) (fun hc => ?_) (fun hc => ?_)
  · have hf := aw_ite_f hc hf
    refine lv_iconst (v := (0 : Int32)) hx hb dL_isWord_171 (by decide) ?_
    exact w_L_isWord_J172 X hst hf ⟨by omega, by omega⟩  (lv_sub hl [] rfl) G
  · have hf := aw_ite_t hc hf
    refine lv_iconst (v := (1 : Int32)) hx hb dL_isWord_167 (by decide) ?_
    refine lv_goto (tgt := 172) hx hb dL_isWord_168 (by decide) ?_
    exact w_L_isWord_J172 X hst hf ⟨by omega, by omega⟩  (lv_sub hl [] rfl) G
set_option maxHeartbeats 4000000 in
set_option maxRecDepth 100000 in
theorem w_L_isWord_J126 {z : Int32 × Dt} (X : aw_X p c cL_isWord 16 s RL m meth (some .boolean)) (hst : l.stackTraces = false) {x0 : Nat} {x2 : Nat} {x8 : Int32} {x9 : Int32} {d : Dt} (hf : f_L_isWord_J126 σ x0 x2 x8 x9 d = some z) { cells slots : Nat} (hB : cells + (1) ≤ 2 ∧ slots + 64 * (1) ≤ 128)  {H : Heap} {locs : List Loc} {ls : Array Slot} (hl : lv_has ls 16 [(0, .ref (ad x0)), (2, .ref (ad x2)), (8, .int x8), (9, .int x9)]) (G : aw_G D cA base ad σ d s H locs) : W p l e rm_L_isWord s m args below meth c H locs cells slots (aw_Ej D cA base ad σ below args s 2 128 z) (F0 m 126 ls []) := by
  have hx := X.1; have hb := X.2.1; have hml := X.2.2.1; have hown := X.2.2.2.1
  unfold f_L_isWord_J126 at hf
  refine lv_aload_n hx hb dL_isWord_126 rfl (lv_at hl 0 rfl) ?_
  refine lv_iconst (v := (0 : Int32)) hx hb dL_isWord_127 (by decide) ?_
  refine lv_iload hx hb dL_isWord_128 (lv_at hl 2 rfl) ?_
  refine lv_iconst (v := (0 : Int32)) hx hb dL_isWord_130 (by decide) ?_
  refine lv_iconst (v := (0 : Int32)) hx hb dL_isWord_131 (by decide) ?_
  refine lv_iconst (v := (0 : Int32)) hx hb dL_isWord_132 (by decide) ?_
  refine lv_iconst (v := (0 : Int32)) hx hb dL_isWord_133 (by decide) ?_
  obtain ⟨z_30, hz_31, hf⟩ := aw_bind_some hf
  refine aw_WI2 (As := [.ref (ad x0), .int ((0 : Int32)), .int x8, .int ((0 : Int32)), .int ((0 : Int32)), .int ((0 : Int32)), .int ((0 : Int32))]) (rest := []) X G hl.1 cr_L_123 (c_L_does_0 l hst hz_31) rfl rfl rfl ⟨(Nat.le_of_ble_eq_true rfl), (Nat.le_of_ble_eq_true rfl)⟩ (Nat.le_of_ble_eq_true rfl) dL_isWord_134 1 6 ⟨(Nat.le_of_ble_eq_true rfl), (Nat.le_of_ble_eq_true rfl)⟩ ⟨by show cells + 1 ≤ 2; omega, by show slots + 6 ≤ 128; omega⟩ (fun H locs G => ?_)
  refine lv_iload hx hb dL_isWord_137 (lv_at hl 2 rfl) ?_
  refine lv_sipush (v := (971 : Int32)) hx hb dL_isWord_139 (by decide) ?_
  refine lv_icmp_le (tgt := 150) hx hb dL_isWord_142 (by decide) (fun hc => ?_) (fun hc => ?_)
  · have hf := aw_ite_t hc hf
    refine lv_iload hx hb dL_isWord_150 (lv_at hl 3 rfl) ?_
    refine lv_if_eq (tgt := 162) hx hb dL_isWord_152 (by decide) (fun hc => ?_) (fun hc => ?_)
    · have hf := aw_ite_t hc hf
      refine lv_ldc (v := (-1000000 : Int32)) hx hb hown (G.1.hts _ m_761) dL_isWord_162 ?_
      exact w_L_isWord_J164 X hst hf ⟨by omega, by omega⟩  (lv_sub hl [] rfl) G
    · have hf := aw_ite_f hc hf
      refine lv_aload_n hx hb dL_isWord_155 rfl (lv_at hl 1 rfl) ?_
      refine lv_bipush (v := (6 : Int32)) hx hb dL_isWord_156 (by decide) ?_
      obtain ⟨hc_33, hf⟩ := aw_chk_some hf
      refine aw_ial hx hb G hc_33 dL_isWord_158 ?_
      refine lv_goto (tgt := 164) hx hb dL_isWord_159 (by decide) ?_
      exact w_L_isWord_J164 X hst hf ⟨by omega, by omega⟩  (lv_sub hl [] rfl) G
  · have hf := aw_ite_f hc hf
    refine lv_ldc (v := (-2000000 : Int32)) hx hb hown (G.1.hts _ m_760) dL_isWord_145 ?_
    refine lv_goto (tgt := 164) hx hb dL_isWord_147 (by decide) ?_
    exact w_L_isWord_J164 X hst hf ⟨by omega, by omega⟩  (lv_sub hl [] rfl) G
set_option maxHeartbeats 4000000 in
set_option maxRecDepth 100000 in
theorem w_L_isWord_J100 {z : Int32 × Dt} (X : aw_X p c cL_isWord 16 s RL m meth (some .boolean)) (hst : l.stackTraces = false) {t0 : Int32} {x0 : Nat} {x1 : Nat} {x2 : Nat} {x8 : Int32} {d : Dt} (hf : f_L_isWord_J100 σ t0 x0 x1 x2 x8 d = some z) { cells slots : Nat} (hB : cells + (1) ≤ 2 ∧ slots + 64 * (1) ≤ 128)  {H : Heap} {locs : List Loc} {ls : Array Slot} (hl : lv_has ls 16 [(0, .ref (ad x0)), (1, .ref (ad x1)), (2, .ref (ad x2)), (8, .int x8)]) (G : aw_G D cA base ad σ d s H locs) : W p l e rm_L_isWord s m args below meth c H locs cells slots (aw_Ej D cA base ad σ below args s 2 128 z) (F0 m 100 ls [.int t0]) := by
  have hx := X.1; have hb := X.2.1; have hml := X.2.2.1; have hown := X.2.2.2.1
  unfold f_L_isWord_J100 at hf
  refine lv_istore (lv' := [(9, .int t0), (0, .ref (ad x0)), (1, .ref (ad x1)), (2, .ref (ad x2)), (8, .int x8)]) hx hb dL_isWord_100 hl (by decide) rfl (fun ls hl => ?_)
  refine lv_iload hx hb dL_isWord_102 (lv_at hl 0 rfl) ?_
  refine lv_if_eq (tgt := 126) hx hb dL_isWord_104 (by decide) (fun hc => ?_) (fun hc => ?_)
  · have hf := aw_ite_t hc hf
    exact w_L_isWord_J126 X hst hf ⟨by omega, by omega⟩  (lv_sub hl [1, 3, 4, 0] rfl) G
  · have hf := aw_ite_f hc hf
    refine lv_aload_n hx hb dL_isWord_107 rfl (lv_at hl 2 rfl) ?_
    refine lv_bipush (v := (24 : Int32)) hx hb dL_isWord_108 (by decide) ?_
    refine lv_aload_n hx hb dL_isWord_110 rfl (lv_at hl 3 rfl) ?_
    refine lv_bipush (v := (6 : Int32)) hx hb dL_isWord_111 (by decide) ?_
    obtain ⟨hc_34, hf⟩ := aw_chk_some hf
    refine aw_ial hx hb G hc_34 dL_isWord_113 ?_
    refine lv_iadd hx hb dL_isWord_114 ?_
    refine lv_iload hx hb dL_isWord_115 (lv_at hl 4 rfl) ?_
    obtain ⟨hc_35, hf⟩ := aw_chk_some hf
    refine aw_ias hx hb G hc_35 dL_isWord_117 (fun H locs G => ?_)
    refine lv_aload_n hx hb dL_isWord_118 rfl (lv_at hl 3 rfl) ?_
    refine lv_bipush (v := (6 : Int32)) hx hb dL_isWord_119 (by decide) ?_
    refine lv_dup2_11 hx hb dL_isWord_121 rfl rfl ?_
    refine aw_ial hx hb G hc_34 dL_isWord_122 ?_
    refine lv_iconst (v := (1 : Int32)) hx hb dL_isWord_123 (by decide) ?_
    refine lv_iadd hx hb dL_isWord_124 ?_
    refine aw_ias hx hb G hc_34 dL_isWord_125 (fun H locs G => ?_)
    exact w_L_isWord_J126 X hst hf ⟨by omega, by omega⟩  (lv_sub hl [1, 3, 4, 0] rfl) G
set_option maxHeartbeats 4000000 in
set_option maxRecDepth 100000 in
theorem w_L_isWord_J99 {z : Int32 × Dt} (X : aw_X p c cL_isWord 16 s RL m meth (some .boolean)) (hst : l.stackTraces = false) {x0 : Nat} {x1 : Nat} {x2 : Nat} {x8 : Int32} {d : Dt} (hf : f_L_isWord_J99 σ x0 x1 x2 x8 d = some z) { cells slots : Nat} (hB : cells + (1) ≤ 2 ∧ slots + 64 * (1) ≤ 128)  {H : Heap} {locs : List Loc} {ls : Array Slot} (hl : lv_has ls 16 [(0, .ref (ad x0)), (1, .ref (ad x1)), (2, .ref (ad x2)), (8, .int x8)]) (G : aw_G D cA base ad σ d s H locs) : W p l e rm_L_isWord s m args below meth c H locs cells slots (aw_Ej D cA base ad σ below args s 2 128 z) (F0 m 99 ls []) := by
  have hx := X.1; have hb := X.2.1; have hml := X.2.2.1; have hown := X.2.2.2.1
  unfold f_L_isWord_J99 at hf
  refine lv_iconst (v := (0 : Int32)) hx hb dL_isWord_99 (by decide) ?_
  exact w_L_isWord_J100 X hst hf ⟨by omega, by omega⟩  (lv_sub hl [0, 1, 2, 3] rfl) G
set_option maxHeartbeats 4000000 in
set_option maxRecDepth 100000 in
theorem w_L_isWord_J77 {z : Int32 × Dt} (X : aw_X p c cL_isWord 16 s RL m meth (some .boolean)) (hst : l.stackTraces = false) {t0 : Int32} {x0 : Nat} {x1 : Nat} {x2 : Nat} {d : Dt} (hf : f_L_isWord_J77 σ t0 x0 x1 x2 d = some z) { cells slots : Nat} (hB : cells + (1) ≤ 2 ∧ slots + 64 * (1) ≤ 128)  {H : Heap} {locs : List Loc} {ls : Array Slot} (hl : lv_has ls 16 [(0, .ref (ad x0)), (1, .ref (ad x1)), (2, .ref (ad x2))]) (G : aw_G D cA base ad σ d s H locs) : W p l e rm_L_isWord s m args below meth c H locs cells slots (aw_Ej D cA base ad σ below args s 2 128 z) (F0 m 77 ls [.int t0]) := by
  have hx := X.1; have hb := X.2.1; have hml := X.2.2.1; have hown := X.2.2.2.1
  unfold f_L_isWord_J77 at hf
  refine lv_istore (lv' := [(8, .int t0), (0, .ref (ad x0)), (1, .ref (ad x1)), (2, .ref (ad x2))]) hx hb dL_isWord_77 hl (by decide) rfl (fun ls hl => ?_)
  refine lv_iload hx hb dL_isWord_79 (lv_at hl 0 rfl) ?_
  refine lv_sipush (v := (972 : Int32)) hx hb dL_isWord_81 (by decide) ?_
  refine lv_icmp_ge (tgt := 99) hx hb dL_isWord_84 (by decide) (fun hc => ?_) (fun hc => ?_)
  · have hf := aw_ite_t hc hf
    exact w_L_isWord_J99 X hst hf ⟨by omega, by omega⟩  (lv_sub hl [1, 2, 3, 0] rfl) G
  · have hf := aw_ite_f hc hf
    refine lv_aload_n hx hb dL_isWord_87 rfl (lv_at hl 3 rfl) ?_
    refine lv_bipush (v := (6 : Int32)) hx hb dL_isWord_88 (by decide) ?_
    obtain ⟨hc_36, hf⟩ := aw_chk_some hf
    refine aw_ial hx hb G hc_36 dL_isWord_90 ?_
    refine lv_iconst (v := (4 : Int32)) hx hb dL_isWord_91 (by decide) ?_
    refine lv_icmp_ge (tgt := 99) hx hb dL_isWord_92 (by decide) (fun hc => ?_) (fun hc => ?_)
    · have hf := aw_ite_t hc hf
      exact w_L_isWord_J99 X hst hf ⟨by omega, by omega⟩  (lv_sub hl [1, 2, 3, 0] rfl) G
    · have hf := aw_ite_f hc hf
      refine lv_iconst (v := (1 : Int32)) hx hb dL_isWord_95 (by decide) ?_
      refine lv_goto (tgt := 100) hx hb dL_isWord_96 (by decide) ?_
      exact w_L_isWord_J100 X hst hf ⟨by omega, by omega⟩  (lv_sub hl [1, 2, 3, 0] rfl) G
end W_L_isWord
set_option maxHeartbeats 4000000 in
set_option maxRecDepth 100000 in
theorem c_L_isWord (l : Launch) (hst : l.stackTraces = false) {σ : Sg} {x0 : Nat} {x1 : Nat} {x2 : Nat} {x3 : Nat} {x4 : Nat} {x5 : Int32} {x6 : Int32} {x7 : Int32} {d : Dt} {z : Int32 × Dt} (hf : f_L_isWord σ x0 x1 x2 x3 x4 x5 x6 x7 d = some z) : aw_Mi l yL_isWord (Cond.code yL_isWord cL_isWord 16 (some .boolean)) rm_L_isWord (fun ad => [.ref (ad x0), .ref (ad x1), .ref (ad x2), .ref (ad x3), .ref (ad x4), .int x5, .int x6, .int x7]) σ d z := by
  intro D cA base ad
  refine aw_ofW (own := RL) (cc := cL_isWord) (nL := 16) (ret := some .boolean) (by decide) rfl rfl ?_
  intro p e s m below meth c X hnm G
  have hx := X.1; have hb := X.2.1; have hml := X.2.2.1; have hown := X.2.2.2.1
  refine aw_ls (lv := [(0, .ref (ad x0)), (1, .ref (ad x1)), (2, .ref (ad x2)), (3, .ref (ad x3)), (4, .ref (ad x4)), (5, .int x5), (6, .int x6), (7, .int x7)]) (Nat.le_of_ble_eq_true rfl) rfl (fun ls hl => ?_)
  have hB : 0 + 2 ≤ 2 ∧ 0 + 64 * 2 ≤ 128 := by decide
  unfold f_L_isWord at hf
  refine lv_iload hx hb dL_isWord_0 (lv_at hl 5 rfl) ?_
  refine lv_if_ne (tgt := 173) hx hb dL_isWord_2 (by decide) (fun hc => ?_) (fun hc => ?_)
  · have hf := aw_ite_f hc hf
    refine lv_iload hx hb dL_isWord_173 (lv_at hl 5 rfl) ?_
    refine lv_iconst (v := (1 : Int32)) hx hb dL_isWord_175 (by decide) ?_
    refine lv_icmp_ne (tgt := 383) hx hb dL_isWord_176 (by decide) (fun hc => ?_) (fun hc => ?_)
    · have hf := aw_ite_f hc hf
      refine lv_iload hx hb dL_isWord_383 (lv_at hl 6 rfl) ?_
      refine lv_bipush (v := (13 : Int32)) hx hb dL_isWord_385 (by decide) ?_
      refine lv_irem hx hb dL_isWord_387 (by decide) ?_
      refine lv_bipush (v := (12 : Int32)) hx hb dL_isWord_388 (by decide) ?_
      refine lv_icmp_ne (tgt := 397) hx hb dL_isWord_390 (by decide) (fun hc => ?_) (fun hc => ?_)
      · have hf := aw_ite_f hc hf
        refine lv_iload hx hb dL_isWord_397 (lv_at hl 6 rfl) ?_
        refine lv_iconst (v := (3 : Int32)) hx hb dL_isWord_399 (by decide) ?_
        refine lv_irem hx hb dL_isWord_400 (by decide) ?_
        exact w_L_isWord_J401 X hst hf ⟨by omega, by omega⟩  (lv_sub hl [0, 3, 6, 7] rfl) G
      · have hf := aw_ite_t hc hf
        refine lv_iconst (v := (3 : Int32)) hx hb dL_isWord_393 (by decide) ?_
        refine lv_goto (tgt := 401) hx hb dL_isWord_394 (by decide) ?_
        exact w_L_isWord_J401 X hst hf ⟨by omega, by omega⟩  (lv_sub hl [0, 3, 6, 7] rfl) G
    · have hf := aw_ite_t hc hf
      refine lv_aload hx hb dL_isWord_179 (lv_at hl 4 rfl) ?_
      refine lv_iconst (v := (0 : Int32)) hx hb dL_isWord_181 (by decide) ?_
      obtain ⟨hc_14, hf⟩ := aw_chk_some hf
      refine aw_ial hx hb G hc_14 dL_isWord_182 ?_
      refine lv_bipush (v := (6 : Int32)) hx hb dL_isWord_183 (by decide) ?_
      refine lv_icmp_ne (tgt := 190) hx hb dL_isWord_185 (by decide) (fun hc => ?_) (fun hc => ?_)
      · have hf := aw_ite_f hc hf
        refine lv_iload hx hb dL_isWord_190 (lv_at hl 6 rfl) ?_
        refine lv_bipush (v := (13 : Int32)) hx hb dL_isWord_192 (by decide) ?_
        refine lv_irem hx hb dL_isWord_194 (by decide) ?_
        refine lv_bipush (v := (12 : Int32)) hx hb dL_isWord_195 (by decide) ?_
        refine lv_icmp_ne (tgt := 214) hx hb dL_isWord_197 (by decide) (fun hc => ?_) (fun hc => ?_)
        · have hf := aw_ite_f hc hf
          refine lv_iconst (v := (1 : Int32)) hx hb dL_isWord_214 (by decide) ?_
          refine lv_iload hx hb dL_isWord_215 (lv_at hl 6 rfl) ?_
          refine lv_bipush (v := (40 : Int32)) hx hb dL_isWord_217 (by decide) ?_
          refine lv_irem hx hb dL_isWord_219 (by decide) ?_
          refine lv_iadd hx hb dL_isWord_220 ?_
          exact w_L_isWord_J221 X hst hf ⟨by omega, by omega⟩  (lv_sub hl [0, 1, 2, 4] rfl) G
        · have hf := aw_ite_t hc hf
          refine lv_iload hx hb dL_isWord_200 (lv_at hl 6 rfl) ?_
          refine lv_bipush (v := (13 : Int32)) hx hb dL_isWord_202 (by decide) ?_
          refine lv_idiv hx hb dL_isWord_204 (by decide) ?_
          refine lv_iconst (v := (2 : Int32)) hx hb dL_isWord_205 (by decide) ?_
          refine lv_irem hx hb dL_isWord_206 (by decide) ?_
          refine lv_sipush (v := (1000 : Int32)) hx hb dL_isWord_207 (by decide) ?_
          refine lv_imul hx hb dL_isWord_210 ?_
          refine lv_goto (tgt := 221) hx hb dL_isWord_211 (by decide) ?_
          exact w_L_isWord_J221 X hst hf ⟨by omega, by omega⟩  (lv_sub hl [0, 1, 2, 4] rfl) G
      · have hf := aw_ite_t hc hf
        refine lv_iconst (v := (1 : Int32)) hx hb dL_isWord_188 (by decide) ?_
        obtain ⟨hc_29, hf⟩ := aw_chk_some hf
        exact aw_retjZ X G hf hc_29 dL_isWord_189 (by omega) (by omega)
  · have hf := aw_ite_t hc hf
    refine lv_iload hx hb dL_isWord_5 (lv_at hl 6 rfl) ?_
    refine lv_bipush (v := (23 : Int32)) hx hb dL_isWord_7 (by decide) ?_
    refine lv_irem hx hb dL_isWord_9 (by decide) ?_
    refine lv_bipush (v := (22 : Int32)) hx hb dL_isWord_10 (by decide) ?_
    refine lv_icmp_ne (tgt := 21) hx hb dL_isWord_12 (by decide) (fun hc => ?_) (fun hc => ?_)
    · have hf := aw_ite_f hc hf
      refine lv_iload hx hb dL_isWord_21 (lv_at hl 6 rfl) ?_
      refine lv_iconst (v := (3 : Int32)) hx hb dL_isWord_23 (by decide) ?_
      refine lv_irem hx hb dL_isWord_24 (by decide) ?_
      refine lv_if_ne (tgt := 37) hx hb dL_isWord_25 (by decide) (fun hc => ?_) (fun hc => ?_)
      · have hf := aw_ite_f hc hf
        refine lv_bipush (v := (108 : Int32)) hx hb dL_isWord_37 (by decide) ?_
        refine lv_iload hx hb dL_isWord_39 (lv_at hl 6 rfl) ?_
        refine lv_iconst (v := (2 : Int32)) hx hb dL_isWord_41 (by decide) ?_
        refine lv_irem hx hb dL_isWord_42 (by decide) ?_
        refine lv_bipush (v := (8 : Int32)) hx hb dL_isWord_43 (by decide) ?_
        refine lv_imul hx hb dL_isWord_45 ?_
        refine lv_imul hx hb dL_isWord_46 ?_
        refine lv_bipush (v := (27 : Int32)) hx hb dL_isWord_47 (by decide) ?_
        refine lv_iload hx hb dL_isWord_49 (lv_at hl 6 rfl) ?_
        refine lv_iconst (v := (2 : Int32)) hx hb dL_isWord_51 (by decide) ?_
        refine lv_idiv hx hb dL_isWord_52 (by decide) ?_
        refine lv_iconst (v := (2 : Int32)) hx hb dL_isWord_53 (by decide) ?_
        refine lv_irem hx hb dL_isWord_54 (by decide) ?_
        refine lv_imul hx hb dL_isWord_55 ?_
        refine lv_iadd hx hb dL_isWord_56 ?_
        refine lv_iconst (v := (3 : Int32)) hx hb dL_isWord_57 (by decide) ?_
        refine lv_iload hx hb dL_isWord_58 (lv_at hl 6 rfl) ?_
        refine lv_iconst (v := (4 : Int32)) hx hb dL_isWord_60 (by decide) ?_
        refine lv_idiv hx hb dL_isWord_61 (by decide) ?_
        refine lv_iconst (v := (2 : Int32)) hx hb dL_isWord_62 (by decide) ?_
        refine lv_irem hx hb dL_isWord_63 (by decide) ?_
        refine lv_bipush (v := (8 : Int32)) hx hb dL_isWord_64 (by decide) ?_
        refine lv_imul hx hb dL_isWord_66 ?_
        refine lv_imul hx hb dL_isWord_67 ?_
        refine lv_iadd hx hb dL_isWord_68 ?_
        refine lv_iload hx hb dL_isWord_69 (lv_at hl 6 rfl) ?_
        refine lv_bipush (v := (8 : Int32)) hx hb dL_isWord_71 (by decide) ?_
        refine lv_idiv hx hb dL_isWord_73 (by decide) ?_
        refine lv_iconst (v := (2 : Int32)) hx hb dL_isWord_74 (by decide) ?_
        refine lv_irem hx hb dL_isWord_75 (by decide) ?_
        refine lv_iadd hx hb dL_isWord_76 ?_
        exact w_L_isWord_J77 X hst hf ⟨by omega, by omega⟩  (lv_sub hl [0, 1, 2] rfl) G
      · have hf := aw_ite_t hc hf
        refine lv_iload hx hb dL_isWord_28 (lv_at hl 6 rfl) ?_
        refine lv_sipush (v := (972 : Int32)) hx hb dL_isWord_30 (by decide) ?_
        refine lv_irem hx hb dL_isWord_33 (by decide) ?_
        refine lv_goto (tgt := 77) hx hb dL_isWord_34 (by decide) ?_
        exact w_L_isWord_J77 X hst hf ⟨by omega, by omega⟩  (lv_sub hl [0, 1, 2] rfl) G
    · have hf := aw_ite_t hc hf
      refine lv_sipush (v := (972 : Int32)) hx hb dL_isWord_15 (by decide) ?_
      refine lv_goto (tgt := 77) hx hb dL_isWord_18 (by decide) ?_
      exact w_L_isWord_J77 X hst hf ⟨by omega, by omega⟩  (lv_sub hl [0, 1, 2] rfl) G
def rm_L_isDesign : Room := { frames := 9, cells := 3, slots := 192, locals := 163 }
def f_L_isDesign_J506 (σ : Sg) (kb466 : Int32 → Dt → Option (Int32 × Dt)) (t2 : Int32) (t1 : Int32) (t0 : Nat) (x0 : Nat) (x2 : Nat) (x4 : Int32) (x8 : Int32) (x9 : Int32) (x10 : Int32) (x11 : Int32) (x12 : Int32) (d : Dt) : Option (Int32 × Dt) :=
  aw_chk (aw_I σ 20 t0 t1) (kb466 (x12 + 1) (aw_sI d t0 t1.toNatClampNeg t2))
def f_L_isDesign_B466 (σ : Sg) (kb466 : Int32 → Dt → Option (Int32 × Dt)) (k466 : Dt → Option (Int32 × Dt)) (x0 : Nat) (x2 : Nat) (x4 : Int32) (x8 : Int32) (x9 : Int32) (x10 : Int32) (x11 : Int32) (x12 : Int32) (d : Dt) : Option (Int32 × Dt) :=
  if ((50 : Int32)) ≤ x12 then k466 d else if x8 = 0 then k466 d else if ((50 : Int32)) ≤ x9 then k466 d else aw_chk (aw_I σ 20 x2 x12) (if (d.1 x2 x12.toNatClampNeg) = x10 then f_L_isDesign_J506 σ kb466 x11 x12 x2 x0 x2 x4 x8 x9 x10 x11 x12 d else f_L_isDesign_J506 σ kb466 (d.1 x2 x12.toNatClampNeg) x12 x2 x0 x2 x4 x8 x9 x10 x11 x12 d)
def f_L_isDesign_L466 (σ : Sg) (n : Nat) (k466 : Dt → Option (Int32 × Dt)) (x0 : Nat) (x2 : Nat) (x4 : Int32) (x8 : Int32) (x9 : Int32) (x10 : Int32) (x11 : Int32) : Int32 → Dt → Option (Int32 × Dt) := match n with
  | 0 => fun _ _ => none
  | n + 1 => fun x12 d => f_L_isDesign_B466 σ (f_L_isDesign_L466 σ n k466 x0 x2 x4 x8 x9 x10 x11) k466 x0 x2 x4 x8 x9 x10 x11 x12 d
def f_L_isDesign_J572 (σ : Sg) (t0 : Int32) (d : Dt) : Option (Int32 × Dt) :=
  aw_chk (t0 &&& 1 = t0) (some (t0, d))
def f_L_isDesign_J564 (σ : Sg) (t1 : Int32) (t0 : Int32) (d : Dt) : Option (Int32 × Dt) :=
  if t0 = t1 then f_L_isDesign_J572 σ ((1 : Int32)) d else f_L_isDesign_J572 σ ((0 : Int32)) d
def f_L_isDesign_J562 (σ : Sg) (t0 : Int32) (d : Dt) : Option (Int32 × Dt) :=
  f_L_isDesign_J564 σ ((-3000000 : Int32)) t0 d
def f_L_isDesign_J531 (σ : Sg) (x0 : Nat) (x4 : Int32) (x8 : Int32) (x9 : Int32) (x10 : Int32) (x11 : Int32) (d : Dt) : Option (Int32 × Dt) :=
  (f_L_does_6 σ x0 x4 x9 x10 ((0 : Int32)) ((0 : Int32)) d).bind (fun z_5 => if x8 = 0 then f_L_isDesign_J562 σ z_5.1 z_5.2 else if ((50 : Int32)) ≤ x9 then f_L_isDesign_J562 σ z_5.1 z_5.2 else f_L_isDesign_J564 σ x11 z_5.1 z_5.2)
def f_L_isDesign_J513 (σ : Sg) (x0 : Nat) (x2 : Nat) (x4 : Int32) (x8 : Int32) (x9 : Int32) (x10 : Int32) (x11 : Int32) (d : Dt) : Option (Int32 × Dt) :=
  if x8 = 0 then f_L_isDesign_J531 σ x0 x4 x8 x9 x10 x11 d else if ((50 : Int32)) ≤ x9 then f_L_isDesign_J531 σ x0 x4 x8 x9 x10 x11 d else aw_chk (aw_I σ 20 x2 x9) (f_L_isDesign_J531 σ x0 x4 x8 x9 x10 x11 (aw_sI d x2 x9.toNatClampNeg x10))
def f_L_isDesign_J461 (σ : Sg) (t0 : Int32) (x0 : Nat) (x2 : Nat) (x4 : Int32) (x8 : Int32) (x9 : Int32) (x10 : Int32) (d : Dt) : Option (Int32 × Dt) :=
  f_L_isDesign_L466 σ aw_FU (fun d_4 => f_L_isDesign_J513 σ x0 x2 x4 x8 x9 x10 t0 d_4) x0 x2 x4 x8 x9 x10 t0 ((0 : Int32)) d
def f_L_isDesign_J460 (σ : Sg) (x0 : Nat) (x2 : Nat) (x4 : Int32) (x8 : Int32) (x9 : Int32) (x10 : Int32) (d : Dt) : Option (Int32 × Dt) :=
  f_L_isDesign_J461 σ ((0 : Int32)) x0 x2 x4 x8 x9 x10 d
def f_L_isDesign_J432 (σ : Sg) (t0 : Int32) (x0 : Nat) (x2 : Nat) (x4 : Int32) (x7 : Int32) (x8 : Int32) (d : Dt) : Option (Int32 × Dt) :=
  if x8 = 0 then f_L_isDesign_J460 σ x0 x2 x4 x8 t0 (x7 - x7 / (50 : Int32) * (50 : Int32)) d else if ((50 : Int32)) ≤ t0 then f_L_isDesign_J460 σ x0 x2 x4 x8 t0 (x7 - x7 / (50 : Int32) * (50 : Int32)) d else aw_chk (aw_I σ 20 x2 t0) (f_L_isDesign_J461 σ (d.1 x2 t0.toNatClampNeg) x0 x2 x4 x8 t0 (x7 - x7 / (50 : Int32) * (50 : Int32)) d)
def f_L_isDesign_J411 (σ : Sg) (t0 : Int32) (d : Dt) : Option (Int32 × Dt) :=
  aw_chk (t0 &&& 1 = t0) (some (t0, d))
def f_L_isDesign_J389 (σ : Sg) (t3 : Int32) (t2 : Int32) (t1 : Int32) (t0 : Nat) (x0 : Nat) (x4 : Int32) (x9 : Int32) (x10 : Int32) (x11 : Int32) (d : Dt) : Option (Int32 × Dt) :=
  aw_chk (aw_I σ 20 t0 t1) (aw_chk (aw_O σ 10 13 x0) ((f_X10_mark σ x0 x4 x9 x11 (aw_sI d t0 t1.toNatClampNeg (t2 ^^^ t3))).bind (fun z_14 => aw_nt z_14 (fun v_16 => if v_16 = x10 then f_L_isDesign_J411 σ ((1 : Int32)) z_14.2 else f_L_isDesign_J411 σ ((0 : Int32)) z_14.2))))
def f_L_isDesign_J367 (σ : Sg) (t0 : Int32) (x0 : Nat) (x1 : Nat) (x4 : Int32) (x9 : Int32) (x10 : Int32) (d : Dt) : Option (Int32 × Dt) :=
  aw_chk (aw_I σ 20 x1 ((49 : Int32))) (if x10 = t0 then f_L_isDesign_J389 σ ((0 : Int32)) (d.1 x1 ((49 : Int32)).toNatClampNeg) ((49 : Int32)) x1 x0 x4 x9 x10 t0 d else f_L_isDesign_J389 σ (((1 : Int32)) <<< (x9 &&& 31)) (d.1 x1 ((49 : Int32)).toNatClampNeg) ((49 : Int32)) x1 x0 x4 x9 x10 t0 d)
def f_L_isDesign_J353 (σ : Sg) (t0 : Int32) (x0 : Nat) (x1 : Nat) (x4 : Int32) (x7 : Int32) (x9 : Int32) (d : Dt) : Option (Int32 × Dt) :=
  if (x7 - x7 / (2 : Int32) * (2 : Int32)) = 0 then f_L_isDesign_J367 σ ((1 : Int32)) x0 x1 x4 x9 t0 d else f_L_isDesign_J367 σ ((0 : Int32)) x0 x1 x4 x9 t0 d
def f_L_isDesign_J188 (σ : Sg) (kb146 : Int32 → Int32 → Dt → Option (Int32 × Dt)) (t0 : Int32) (x0 : Nat) (x1 : Nat) (x4 : Int32) (x9 : Int32) (x10 : Int32) (x11 : Int32) (x12 : Int32) (x14 : Int32) (d : Dt) : Option (Int32 × Dt) :=
  kb146 t0 (x14 + 1) d
def f_L_isDesign_J183 (σ : Sg) (kb146 : Int32 → Int32 → Dt → Option (Int32 × Dt)) (x0 : Nat) (x1 : Nat) (x4 : Int32) (x9 : Int32) (x10 : Int32) (x11 : Int32) (x12 : Int32) (x14 : Int32) (d : Dt) : Option (Int32 × Dt) :=
  f_L_isDesign_J188 σ kb146 ((1 : Int32)) x0 x1 x4 x9 x10 x11 x12 x14 d
def f_L_isDesign_J187 (σ : Sg) (kb146 : Int32 → Int32 → Dt → Option (Int32 × Dt)) (x0 : Nat) (x1 : Nat) (x4 : Int32) (x9 : Int32) (x10 : Int32) (x11 : Int32) (x12 : Int32) (x14 : Int32) (d : Dt) : Option (Int32 × Dt) :=
  f_L_isDesign_J188 σ kb146 ((0 : Int32)) x0 x1 x4 x9 x10 x11 x12 x14 d
def f_L_isDesign_B146 (σ : Sg) (kb146 : Int32 → Int32 → Dt → Option (Int32 × Dt)) (k146 : Int32 → Dt → Option (Int32 × Dt)) (x0 : Nat) (x1 : Nat) (x4 : Int32) (x9 : Int32) (x10 : Int32) (x11 : Int32) (x12 : Int32) (x13 : Int32) (x14 : Int32) (d : Dt) : Option (Int32 × Dt) :=
  if ((47 : Int32)) ≤ x14 then k146 x13 d else if x13 = 0 then if x14 = x9 then f_L_isDesign_J187 σ kb146 x0 x1 x4 x9 x10 x11 x12 x14 d else (f_L_isUnit σ x1 x14 d).bind (fun z_20 => if z_20.1 = 0 then f_L_isDesign_J187 σ kb146 x0 x1 x4 x9 x10 x11 x12 x14 z_20.2 else aw_chk (aw_I σ 20 x1 x14) (if (z_20.2.1 x1 x14.toNatClampNeg) = x10 then f_L_isDesign_J183 σ kb146 x0 x1 x4 x9 x10 x11 x12 x14 z_20.2 else f_L_isDesign_J187 σ kb146 x0 x1 x4 x9 x10 x11 x12 x14 z_20.2)) else f_L_isDesign_J183 σ kb146 x0 x1 x4 x9 x10 x11 x12 x14 d
def f_L_isDesign_L146 (σ : Sg) (n : Nat) (k146 : Int32 → Dt → Option (Int32 × Dt)) (x0 : Nat) (x1 : Nat) (x4 : Int32) (x9 : Int32) (x10 : Int32) (x11 : Int32) (x12 : Int32) : Int32 → Int32 → Dt → Option (Int32 × Dt) := match n with
  | 0 => fun _ _ _ => none
  | n + 1 => fun x13 x14 d => f_L_isDesign_B146 σ (f_L_isDesign_L146 σ n k146 x0 x1 x4 x9 x10 x11 x12) k146 x0 x1 x4 x9 x10 x11 x12 x13 x14 d
def f_L_isDesign_J315 (σ : Sg) (t0 : Int32) (d : Dt) : Option (Int32 × Dt) :=
  aw_chk (t0 &&& 1 = t0) (some (t0, d))
def f_L_isDesign_J307 (σ : Sg) (t1 : Int32) (t0 : Int32) (d : Dt) : Option (Int32 × Dt) :=
  if t0 = t1 then f_L_isDesign_J315 σ ((1 : Int32)) d else f_L_isDesign_J315 σ ((0 : Int32)) d
def f_L_isDesign_J251 (σ : Sg) (x0 : Nat) (x4 : Int32) (x9 : Int32) (x10 : Int32) (x11 : Int32) (x12 : Int32) (x14 : Int32) (x15 : Int32) (d : Dt) : Option (Int32 × Dt) :=
  if x11 = 0 then (f_L_does_4 σ x0 x4 x9 x10 ((0 : Int32)) ((0 : Int32)) d).bind (fun z_25 => if x12 = 0 then f_L_isDesign_J307 σ ((-3000000 : Int32)) z_25.1 z_25.2 else if x10 = ((50 : Int32)) then f_L_isDesign_J307 σ ((-2000000 : Int32)) z_25.1 z_25.2 else if x14 = 0 then f_L_isDesign_J307 σ ((-1000000 : Int32)) z_25.1 z_25.2 else f_L_isDesign_J307 σ x15 z_25.1 z_25.2) else (f_L_does_4 σ x0 x4 x9 x10 ((1 : Int32)) ((0 : Int32)) d).bind (fun z_28 => if x12 = 0 then f_L_isDesign_J307 σ ((-3000000 : Int32)) z_28.1 z_28.2 else if x10 = ((50 : Int32)) then f_L_isDesign_J307 σ ((-2000000 : Int32)) z_28.1 z_28.2 else if x14 = 0 then f_L_isDesign_J307 σ ((-1000000 : Int32)) z_28.1 z_28.2 else f_L_isDesign_J307 σ x15 z_28.1 z_28.2)
def f_L_isDesign_J238 (σ : Sg) (t0 : Int32) (x0 : Nat) (x1 : Nat) (x4 : Int32) (x9 : Int32) (x10 : Int32) (x11 : Int32) (x12 : Int32) (x14 : Int32) (d : Dt) : Option (Int32 × Dt) :=
  if x14 = 0 then f_L_isDesign_J251 σ x0 x4 x9 x10 x11 x12 x14 t0 d else aw_chk (aw_I σ 20 x1 x9) (f_L_isDesign_J251 σ x0 x4 x9 x10 x11 x12 x14 t0 (aw_sI d x1 x9.toNatClampNeg x10))
def f_L_isDesign_J223 (σ : Sg) (t0 : Int32) (x0 : Nat) (x1 : Nat) (x4 : Int32) (x9 : Int32) (x10 : Int32) (x11 : Int32) (x12 : Int32) (d : Dt) : Option (Int32 × Dt) :=
  if x12 = 0 then f_L_isDesign_J238 σ ((0 : Int32)) x0 x1 x4 x9 x10 x11 x12 t0 d else aw_chk (aw_I σ 20 x1 x9) (f_L_isDesign_J238 σ (d.1 x1 x9.toNatClampNeg) x0 x1 x4 x9 x10 x11 x12 t0 d)
def f_L_isDesign_J222 (σ : Sg) (x0 : Nat) (x1 : Nat) (x4 : Int32) (x9 : Int32) (x10 : Int32) (x11 : Int32) (x12 : Int32) (d : Dt) : Option (Int32 × Dt) :=
  f_L_isDesign_J223 σ ((0 : Int32)) x0 x1 x4 x9 x10 x11 x12 d
def f_L_isDesign_J218 (σ : Sg) (x0 : Nat) (x1 : Nat) (x4 : Int32) (x9 : Int32) (x10 : Int32) (x11 : Int32) (x12 : Int32) (d : Dt) : Option (Int32 × Dt) :=
  f_L_isDesign_J223 σ ((1 : Int32)) x0 x1 x4 x9 x10 x11 x12 d
def f_L_isDesign_J138 (σ : Sg) (t0 : Int32) (x0 : Nat) (x1 : Nat) (x4 : Int32) (x9 : Int32) (x10 : Int32) (x11 : Int32) (d : Dt) : Option (Int32 × Dt) :=
  f_L_isDesign_L146 σ aw_FU (fun x13_23 d_24 => if t0 = 0 then f_L_isDesign_J222 σ x0 x1 x4 x9 x10 x11 t0 d_24 else if ((50 : Int32)) ≤ x10 then f_L_isDesign_J222 σ x0 x1 x4 x9 x10 x11 t0 d_24 else if x11 = 0 then if x13_23 = 0 then f_L_isDesign_J218 σ x0 x1 x4 x9 x10 x11 t0 d_24 else f_L_isDesign_J222 σ x0 x1 x4 x9 x10 x11 t0 d_24 else f_L_isDesign_J218 σ x0 x1 x4 x9 x10 x11 t0 d_24) x0 x1 x4 x9 x10 x11 t0 ((0 : Int32)) ((0 : Int32)) d
def f_L_isDesign_J137 (σ : Sg) (x0 : Nat) (x1 : Nat) (x4 : Int32) (x9 : Int32) (x10 : Int32) (x11 : Int32) (d : Dt) : Option (Int32 × Dt) :=
  f_L_isDesign_J138 σ ((0 : Int32)) x0 x1 x4 x9 x10 x11 d
def f_L_isDesign_J117 (σ : Sg) (t0 : Int32) (x0 : Nat) (x1 : Nat) (x4 : Int32) (x8 : Int32) (x9 : Int32) (x10 : Int32) (d : Dt) : Option (Int32 × Dt) :=
  if x8 = 0 then f_L_isDesign_J137 σ x0 x1 x4 x9 x10 t0 d else (f_L_isUnit σ x1 x9 d).bind (fun z_32 => if z_32.1 = 0 then f_L_isDesign_J137 σ x0 x1 x4 x9 x10 t0 z_32.2 else f_L_isDesign_J138 σ ((1 : Int32)) x0 x1 x4 x9 x10 t0 z_32.2)
def f_L_isDesign_J100 (σ : Sg) (t0 : Int32) (x0 : Nat) (x1 : Nat) (x4 : Int32) (x7 : Int32) (x8 : Int32) (x9 : Int32) (d : Dt) : Option (Int32 × Dt) :=
  if ((x7 / (7 : Int32)) - (x7 / (7 : Int32)) / (3 : Int32) * (3 : Int32)) ≤ 0 then f_L_isDesign_J117 σ ((0 : Int32)) x0 x1 x4 x8 x9 t0 d else f_L_isDesign_J117 σ ((1 : Int32)) x0 x1 x4 x8 x9 t0 d
def f_L_isDesign_J59 (σ : Sg) (t0 : Int32) (x0 : Nat) (x1 : Nat) (x4 : Int32) (x7 : Int32) (x8 : Int32) (d : Dt) : Option (Int32 × Dt) :=
  if (x7 - x7 / (19 : Int32) * (19 : Int32)) = ((18 : Int32)) then f_L_isDesign_J100 σ ((50 : Int32)) x0 x1 x4 x7 x8 t0 d else if (x7 - x7 / (3 : Int32) * (3 : Int32)) = 0 then f_L_isDesign_J100 σ ((x7 / (3 : Int32)) - (x7 / (3 : Int32)) / (50 : Int32) * (50 : Int32)) x0 x1 x4 x7 x8 t0 d else f_L_isDesign_J100 σ ((x7 / (3 : Int32)) - (x7 / (3 : Int32)) / (6 : Int32) * (6 : Int32)) x0 x1 x4 x7 x8 t0 d
def f_L_isDesign_J13 (σ : Sg) (t0 : Int32) (x0 : Nat) (x1 : Nat) (x2 : Nat) (x4 : Int32) (x5 : Int32) (x6 : Int32) (x7 : Int32) (d : Dt) : Option (Int32 × Dt) :=
  if x5 = 0 then if (x6 - x6 / (17 : Int32) * (17 : Int32)) = ((16 : Int32)) then f_L_isDesign_J59 σ ((47 : Int32)) x0 x1 x4 x7 t0 d else if (x6 - x6 / (3 : Int32) * (3 : Int32)) = 0 then f_L_isDesign_J59 σ (((44 : Int32)) + ((x6 / (3 : Int32)) - (x6 / (3 : Int32)) / (3 : Int32) * (3 : Int32))) x0 x1 x4 x7 t0 d else f_L_isDesign_J59 σ (x6 - x6 / (12 : Int32) * (12 : Int32)) x0 x1 x4 x7 t0 d else if x5 = ((1 : Int32)) then if t0 = 0 then aw_chk (((1 : Int32)) &&& 1 = ((1 : Int32))) (some ((1 : Int32), d)) else aw_chk (aw_I σ 20 x1 ((49 : Int32))) (if (((d.1 x1 ((49 : Int32)).toNatClampNeg) >>> ((x6 - x6 / (3 : Int32) * (3 : Int32)) &&& 31)) &&& ((1 : Int32))) = ((1 : Int32)) then f_L_isDesign_J353 σ ((1 : Int32)) x0 x1 x4 x7 (x6 - x6 / (3 : Int32) * (3 : Int32)) d else f_L_isDesign_J353 σ ((0 : Int32)) x0 x1 x4 x7 (x6 - x6 / (3 : Int32) * (3 : Int32)) d) else if (x6 - x6 / (23 : Int32) * (23 : Int32)) = ((22 : Int32)) then f_L_isDesign_J432 σ ((50 : Int32)) x0 x2 x4 x7 t0 d else f_L_isDesign_J432 σ (x6 - x6 / (50 : Int32) * (50 : Int32)) x0 x2 x4 x7 t0 d
def f_L_isDesign (σ : Sg) (x0 : Nat) (x1 : Nat) (x2 : Nat) (x3 : Nat) (x4 : Int32) (x5 : Int32) (x6 : Int32) (x7 : Int32) (d : Dt) : Option (Int32 × Dt) :=
  aw_chk (aw_I σ 20 x3 ((1 : Int32))) (if (d.1 x3 ((1 : Int32)).toNatClampNeg) ≤ x4 then f_L_isDesign_J13 σ ((0 : Int32)) x0 x1 x2 x4 x5 x6 x7 d else f_L_isDesign_J13 σ ((1 : Int32)) x0 x1 x2 x4 x5 x6 x7 d)
section W_L_isDesign
variable {p : Program} {l : Launch} {e : Env} {s : State} {m : MethodId} {args : Array Value} {below : List Frame} {meth : Method} {c : Code}
variable {D : va_G} {cA : Nat → ClassId} {base : Nat} {ad : Nat → Nat} {σ : Sg}
set_option maxHeartbeats 4000000 in
set_option maxRecDepth 100000 in
theorem w_L_isDesign_J506 {z : Int32 × Dt} (X : aw_X p c cL_isDesign 16 s RL m meth (some .boolean)) (hst : l.stackTraces = false) {kb466 : Int32 → Dt → Option (Int32 × Dt)} {t2 : Int32} {t1 : Int32} {t0 : Nat} {x0 : Nat} {x2 : Nat} {x4 : Int32} {x8 : Int32} {x9 : Int32} {x10 : Int32} {x11 : Int32} {x12 : Int32} {d : Dt} (hf : f_L_isDesign_J506 σ kb466 t2 t1 t0 x0 x2 x4 x8 x9 x10 x11 x12 d = some z) { cells slots : Nat} (hB : cells + (3) ≤ 3 ∧ slots + 64 * (3) ≤ 192) (hkb466 : ∀ (y12 : Int32) (d : Dt), kb466 y12 d = some z → ∀ (cells slots : Nat), cells + (3) ≤ 3 ∧ slots + 64 * (3) ≤ 192 → ∀ (H : Heap) (locs : List Loc) (ls : Array Slot), lv_has ls 16 [(0, .ref (ad x0)), (2, .ref (ad x2)), (4, .int x4), (8, .int x8), (9, .int x9), (10, .int x10), (11, .int x11), (12, .int y12)] → aw_G D cA base ad σ d s H locs → W p l e rm_L_isDesign s m args below meth c H locs cells slots (aw_Ej D cA base ad σ below args s 3 192 z) (F0 m 466 ls [])) {H : Heap} {locs : List Loc} {ls : Array Slot} (hl : lv_has ls 16 [(0, .ref (ad x0)), (2, .ref (ad x2)), (4, .int x4), (8, .int x8), (9, .int x9), (10, .int x10), (11, .int x11), (12, .int x12)]) (G : aw_G D cA base ad σ d s H locs) : W p l e rm_L_isDesign s m args below meth c H locs cells slots (aw_Ej D cA base ad σ below args s 3 192 z) (F0 m 506 ls [.int t2, .int t1, .ref (ad t0)]) := by
  have hx := X.1; have hb := X.2.1; have hml := X.2.2.1; have hown := X.2.2.2.1
  unfold f_L_isDesign_J506 at hf
  obtain ⟨hc_3, hf⟩ := aw_chk_some hf
  refine aw_ias hx hb G hc_3 dL_isDesign_506 (fun H locs G => ?_)
  refine lv_iinc (v := x12 + 1) (lv' := [(12, .int (x12 + 1)), (0, .ref (ad x0)), (2, .ref (ad x2)), (4, .int x4), (8, .int x8), (9, .int x9), (10, .int x10), (11, .int x11)]) hx hb dL_isDesign_507 hl (k := 7) rfl rfl (by decide) rfl (fun ls hl => ?_)
  refine lv_goto (tgt := 466) hx hb dL_isDesign_510 (by decide) ?_
  exact hkb466 _ _ hf _ _ ⟨by omega, by omega⟩ _ _ _ (lv_sub hl [1, 2, 3, 4, 5, 6, 7, 0] rfl) G
set_option maxHeartbeats 4000000 in
set_option maxRecDepth 100000 in
theorem w_L_isDesign_B466 {z : Int32 × Dt} (X : aw_X p c cL_isDesign 16 s RL m meth (some .boolean)) (hst : l.stackTraces = false) {kb466 : Int32 → Dt → Option (Int32 × Dt)} {k466 : Dt → Option (Int32 × Dt)} {x0 : Nat} {x2 : Nat} {x4 : Int32} {x8 : Int32} {x9 : Int32} {x10 : Int32} {x11 : Int32} {x12 : Int32} {d : Dt} (hf : f_L_isDesign_B466 σ kb466 k466 x0 x2 x4 x8 x9 x10 x11 x12 d = some z) { cells slots : Nat} (hB : cells + (3) ≤ 3 ∧ slots + 64 * (3) ≤ 192) (hkb466 : ∀ (y12 : Int32) (d : Dt), kb466 y12 d = some z → ∀ (cells slots : Nat), cells + (3) ≤ 3 ∧ slots + 64 * (3) ≤ 192 → ∀ (H : Heap) (locs : List Loc) (ls : Array Slot), lv_has ls 16 [(0, .ref (ad x0)), (2, .ref (ad x2)), (4, .int x4), (8, .int x8), (9, .int x9), (10, .int x10), (11, .int x11), (12, .int y12)] → aw_G D cA base ad σ d s H locs → W p l e rm_L_isDesign s m args below meth c H locs cells slots (aw_Ej D cA base ad σ below args s 3 192 z) (F0 m 466 ls [])) (hk466 : ∀ (d : Dt), k466 d = some z → ∀ (cells slots : Nat), cells + (3) ≤ 3 ∧ slots + 64 * (3) ≤ 192 → ∀ (H : Heap) (locs : List Loc) (ls : Array Slot), lv_has ls 16 [(0, .ref (ad x0)), (2, .ref (ad x2)), (4, .int x4), (8, .int x8), (9, .int x9), (10, .int x10), (11, .int x11)] → aw_G D cA base ad σ d s H locs → W p l e rm_L_isDesign s m args below meth c H locs cells slots (aw_Ej D cA base ad σ below args s 3 192 z) (F0 m 513 ls [])) {H : Heap} {locs : List Loc} {ls : Array Slot} (hl : lv_has ls 16 [(0, .ref (ad x0)), (2, .ref (ad x2)), (4, .int x4), (8, .int x8), (9, .int x9), (10, .int x10), (11, .int x11), (12, .int x12)]) (G : aw_G D cA base ad σ d s H locs) : W p l e rm_L_isDesign s m args below meth c H locs cells slots (aw_Ej D cA base ad σ below args s 3 192 z) (F0 m 466 ls []) := by
  have hx := X.1; have hb := X.2.1; have hml := X.2.2.1; have hown := X.2.2.2.1
  unfold f_L_isDesign_B466 at hf
  refine lv_iload hx hb dL_isDesign_466 (lv_at hl 7 rfl) ?_
  refine lv_bipush (v := (50 : Int32)) hx hb dL_isDesign_468 (by decide) ?_
  refine lv_icmp_ge (tgt := 513) hx hb dL_isDesign_470 (by decide) (fun hc => ?_) (fun hc => ?_)
  · have hf := aw_ite_t hc hf
    exact hk466 _ hf _ _ ⟨by omega, by omega⟩ _ _ _ (lv_sub hl [0, 1, 2, 3, 4, 5, 6] rfl) G
  · have hf := aw_ite_f hc hf
    refine lv_iload hx hb dL_isDesign_473 (lv_at hl 3 rfl) ?_
    refine lv_if_eq (tgt := 513) hx hb dL_isDesign_475 (by decide) (fun hc => ?_) (fun hc => ?_)
    · have hf := aw_ite_t hc hf
      exact hk466 _ hf _ _ ⟨by omega, by omega⟩ _ _ _ (lv_sub hl [0, 1, 2, 3, 4, 5, 6] rfl) G
    · have hf := aw_ite_f hc hf
      refine lv_iload hx hb dL_isDesign_478 (lv_at hl 4 rfl) ?_
      refine lv_bipush (v := (50 : Int32)) hx hb dL_isDesign_480 (by decide) ?_
      refine lv_icmp_ge (tgt := 513) hx hb dL_isDesign_482 (by decide) (fun hc => ?_) (fun hc => ?_)
      · have hf := aw_ite_t hc hf
        exact hk466 _ hf _ _ ⟨by omega, by omega⟩ _ _ _ (lv_sub hl [0, 1, 2, 3, 4, 5, 6] rfl) G
      · have hf := aw_ite_f hc hf
        refine lv_aload_n hx hb dL_isDesign_485 rfl (lv_at hl 1 rfl) ?_
        refine lv_iload hx hb dL_isDesign_486 (lv_at hl 7 rfl) ?_
        refine lv_aload_n hx hb dL_isDesign_488 rfl (lv_at hl 1 rfl) ?_
        refine lv_iload hx hb dL_isDesign_489 (lv_at hl 7 rfl) ?_
        obtain ⟨hc_2, hf⟩ := aw_chk_some hf
        refine aw_ial hx hb G hc_2 dL_isDesign_491 ?_
        refine lv_iload hx hb dL_isDesign_492 (lv_at hl 5 rfl) ?_
        refine lv_icmp_ne (tgt := 502) hx hb dL_isDesign_494 (by decide) (fun hc => ?_) (fun hc => ?_)
        · have hf := aw_ite_f hc hf
          refine lv_aload_n hx hb dL_isDesign_502 rfl (lv_at hl 1 rfl) ?_
          refine lv_iload hx hb dL_isDesign_503 (lv_at hl 7 rfl) ?_
          refine aw_ial hx hb G hc_2 dL_isDesign_505 ?_
          exact w_L_isDesign_J506 X hst hf ⟨by omega, by omega⟩ hkb466 (lv_sub hl [0, 1, 2, 3, 4, 5, 6, 7] rfl) G
        · have hf := aw_ite_t hc hf
          refine lv_iload hx hb dL_isDesign_497 (lv_at hl 6 rfl) ?_
          refine lv_goto (tgt := 506) hx hb dL_isDesign_499 (by decide) ?_
          exact w_L_isDesign_J506 X hst hf ⟨by omega, by omega⟩ hkb466 (lv_sub hl [0, 1, 2, 3, 4, 5, 6, 7] rfl) G
theorem w_L_isDesign_L466 {z : Int32 × Dt} (X : aw_X p c cL_isDesign 16 s RL m meth (some .boolean)) (hst : l.stackTraces = false) {k466 : Dt → Option (Int32 × Dt)} {x0 : Nat} {x2 : Nat} {x4 : Int32} {x8 : Int32} {x9 : Int32} {x10 : Int32} {x11 : Int32} (n : Nat) {x12 : Int32} {d : Dt} (hf : f_L_isDesign_L466 σ n k466 x0 x2 x4 x8 x9 x10 x11 x12 d = some z) { cells slots : Nat} (hB : cells + (3) ≤ 3 ∧ slots + 64 * (3) ≤ 192) (hk466 : ∀ (d : Dt), k466 d = some z → ∀ (cells slots : Nat), cells + (3) ≤ 3 ∧ slots + 64 * (3) ≤ 192 → ∀ (H : Heap) (locs : List Loc) (ls : Array Slot), lv_has ls 16 [(0, .ref (ad x0)), (2, .ref (ad x2)), (4, .int x4), (8, .int x8), (9, .int x9), (10, .int x10), (11, .int x11)] → aw_G D cA base ad σ d s H locs → W p l e rm_L_isDesign s m args below meth c H locs cells slots (aw_Ej D cA base ad σ below args s 3 192 z) (F0 m 513 ls [])) {H : Heap} {locs : List Loc} {ls : Array Slot} (hl : lv_has ls 16 [(0, .ref (ad x0)), (2, .ref (ad x2)), (4, .int x4), (8, .int x8), (9, .int x9), (10, .int x10), (11, .int x11), (12, .int x12)]) (G : aw_G D cA base ad σ d s H locs) : W p l e rm_L_isDesign s m args below meth c H locs cells slots (aw_Ej D cA base ad σ below args s 3 192 z) (F0 m 466 ls []) := by
  induction n generalizing x12 d cells slots H locs ls with
  | zero => exact absurd (show (none : Option (Int32 × Dt)) = some z from hf) (by simp)
  | succ n ih => exact w_L_isDesign_B466 X hst (kb466 := f_L_isDesign_L466 σ n k466 x0 x2 x4 x8 x9 x10 x11) hf ⟨by omega, by omega⟩  (fun x12 d hf cells slots hB H locs ls hl G => ih hf hB hl G) hk466 hl G
set_option maxHeartbeats 4000000 in
set_option maxRecDepth 100000 in
theorem w_L_isDesign_J572 {z : Int32 × Dt} (X : aw_X p c cL_isDesign 16 s RL m meth (some .boolean)) (hst : l.stackTraces = false) {t0 : Int32} {d : Dt} (hf : f_L_isDesign_J572 σ t0 d = some z) { cells slots : Nat} (hB : cells + (0) ≤ 3 ∧ slots + 64 * (0) ≤ 192)  {H : Heap} {locs : List Loc} {ls : Array Slot} (hl : lv_has ls 16 []) (G : aw_G D cA base ad σ d s H locs) : W p l e rm_L_isDesign s m args below meth c H locs cells slots (aw_Ej D cA base ad σ below args s 3 192 z) (F0 m 572 ls [.int t0]) := by
  have hx := X.1; have hb := X.2.1; have hml := X.2.2.1; have hown := X.2.2.2.1
  unfold f_L_isDesign_J572 at hf
  obtain ⟨hc_7, hf⟩ := aw_chk_some hf
  exact aw_retjZ X G hf hc_7 dL_isDesign_572 (by omega) (by omega)
set_option maxHeartbeats 4000000 in
set_option maxRecDepth 100000 in
theorem w_L_isDesign_J564 {z : Int32 × Dt} (X : aw_X p c cL_isDesign 16 s RL m meth (some .boolean)) (hst : l.stackTraces = false) {t1 : Int32} {t0 : Int32} {d : Dt} (hf : f_L_isDesign_J564 σ t1 t0 d = some z) { cells slots : Nat} (hB : cells + (0) ≤ 3 ∧ slots + 64 * (0) ≤ 192)  {H : Heap} {locs : List Loc} {ls : Array Slot} (hl : lv_has ls 16 []) (G : aw_G D cA base ad σ d s H locs) : W p l e rm_L_isDesign s m args below meth c H locs cells slots (aw_Ej D cA base ad σ below args s 3 192 z) (F0 m 564 ls [.int t1, .int t0]) := by
  have hx := X.1; have hb := X.2.1; have hml := X.2.2.1; have hown := X.2.2.2.1
  unfold f_L_isDesign_J564 at hf
  refine lv_icmp_ne (tgt := 571) hx hb dL_isDesign_564 (by decide) (fun hc => ?_) (fun hc => ?_)
  · have hf := aw_ite_f hc hf
    refine lv_iconst (v := (0 : Int32)) hx hb dL_isDesign_571 (by decide) ?_
    exact w_L_isDesign_J572 X hst hf ⟨by omega, by omega⟩  (lv_sub hl [] rfl) G
  · have hf := aw_ite_t hc hf
    refine lv_iconst (v := (1 : Int32)) hx hb dL_isDesign_567 (by decide) ?_
    refine lv_goto (tgt := 572) hx hb dL_isDesign_568 (by decide) ?_
    exact w_L_isDesign_J572 X hst hf ⟨by omega, by omega⟩  (lv_sub hl [] rfl) G
set_option maxHeartbeats 4000000 in
set_option maxRecDepth 100000 in
theorem w_L_isDesign_J562 {z : Int32 × Dt} (X : aw_X p c cL_isDesign 16 s RL m meth (some .boolean)) (hst : l.stackTraces = false) {t0 : Int32} {d : Dt} (hf : f_L_isDesign_J562 σ t0 d = some z) { cells slots : Nat} (hB : cells + (0) ≤ 3 ∧ slots + 64 * (0) ≤ 192)  {H : Heap} {locs : List Loc} {ls : Array Slot} (hl : lv_has ls 16 []) (G : aw_G D cA base ad σ d s H locs) : W p l e rm_L_isDesign s m args below meth c H locs cells slots (aw_Ej D cA base ad σ below args s 3 192 z) (F0 m 562 ls [.int t0]) := by
  have hx := X.1; have hb := X.2.1; have hml := X.2.2.1; have hown := X.2.2.2.1
  unfold f_L_isDesign_J562 at hf
  refine lv_ldc (v := (-3000000 : Int32)) hx hb hown (G.1.hts _ m_759) dL_isDesign_562 ?_
  exact w_L_isDesign_J564 X hst hf ⟨by omega, by omega⟩  (lv_sub hl [] rfl) G
set_option maxHeartbeats 4000000 in
set_option maxRecDepth 100000 in
theorem w_L_isDesign_J531 {z : Int32 × Dt} (X : aw_X p c cL_isDesign 16 s RL m meth (some .boolean)) (hst : l.stackTraces = false) {x0 : Nat} {x4 : Int32} {x8 : Int32} {x9 : Int32} {x10 : Int32} {x11 : Int32} {d : Dt} (hf : f_L_isDesign_J531 σ x0 x4 x8 x9 x10 x11 d = some z) { cells slots : Nat} (hB : cells + (3) ≤ 3 ∧ slots + 64 * (3) ≤ 192)  {H : Heap} {locs : List Loc} {ls : Array Slot} (hl : lv_has ls 16 [(0, .ref (ad x0)), (4, .int x4), (8, .int x8), (9, .int x9), (10, .int x10), (11, .int x11)]) (G : aw_G D cA base ad σ d s H locs) : W p l e rm_L_isDesign s m args below meth c H locs cells slots (aw_Ej D cA base ad σ below args s 3 192 z) (F0 m 531 ls []) := by
  have hx := X.1; have hb := X.2.1; have hml := X.2.2.1; have hown := X.2.2.2.1
  unfold f_L_isDesign_J531 at hf
  refine lv_aload_n hx hb dL_isDesign_531 rfl (lv_at hl 0 rfl) ?_
  refine lv_bipush (v := (6 : Int32)) hx hb dL_isDesign_532 (by decide) ?_
  refine lv_iload hx hb dL_isDesign_534 (lv_at hl 1 rfl) ?_
  refine lv_iload hx hb dL_isDesign_536 (lv_at hl 3 rfl) ?_
  refine lv_iload hx hb dL_isDesign_538 (lv_at hl 4 rfl) ?_
  refine lv_iconst (v := (0 : Int32)) hx hb dL_isDesign_540 (by decide) ?_
  refine lv_iconst (v := (0 : Int32)) hx hb dL_isDesign_541 (by decide) ?_
  obtain ⟨z_5, hz_6, hf⟩ := aw_bind_some hf
  refine aw_WI2 (As := [.ref (ad x0), .int ((6 : Int32)), .int x4, .int x9, .int x10, .int ((0 : Int32)), .int ((0 : Int32))]) (rest := []) X G hl.1 cr_L_123 (c_L_does_6 l hst hz_6) rfl rfl rfl ⟨(Nat.le_of_ble_eq_true rfl), (Nat.le_of_ble_eq_true rfl)⟩ (Nat.le_of_ble_eq_true rfl) dL_isDesign_542 3 18 ⟨(Nat.le_of_ble_eq_true rfl), (Nat.le_of_ble_eq_true rfl)⟩ ⟨by show cells + 3 ≤ 3; omega, by show slots + 18 ≤ 192; omega⟩ (fun H locs G => ?_)
  refine lv_iload hx hb dL_isDesign_545 (lv_at hl 2 rfl) ?_
  refine lv_if_eq (tgt := 562) hx hb dL_isDesign_547 (by decide) (fun hc => ?_) (fun hc => ?_)
  · have hf := aw_ite_t hc hf
    exact w_L_isDesign_J562 X hst hf ⟨by omega, by omega⟩  (lv_sub hl [] rfl) G
  · have hf := aw_ite_f hc hf
    refine lv_iload hx hb dL_isDesign_550 (lv_at hl 3 rfl) ?_
    refine lv_bipush (v := (50 : Int32)) hx hb dL_isDesign_552 (by decide) ?_
    refine lv_icmp_ge (tgt := 562) hx hb dL_isDesign_554 (by decide) (fun hc => ?_) (fun hc => ?_)
    · have hf := aw_ite_t hc hf
      exact w_L_isDesign_J562 X hst hf ⟨by omega, by omega⟩  (lv_sub hl [] rfl) G
    · have hf := aw_ite_f hc hf
      refine lv_iload hx hb dL_isDesign_557 (lv_at hl 5 rfl) ?_
      refine lv_goto (tgt := 564) hx hb dL_isDesign_559 (by decide) ?_
      exact w_L_isDesign_J564 X hst hf ⟨by omega, by omega⟩  (lv_sub hl [] rfl) G
set_option maxHeartbeats 4000000 in
set_option maxRecDepth 100000 in
theorem w_L_isDesign_J513 {z : Int32 × Dt} (X : aw_X p c cL_isDesign 16 s RL m meth (some .boolean)) (hst : l.stackTraces = false) {x0 : Nat} {x2 : Nat} {x4 : Int32} {x8 : Int32} {x9 : Int32} {x10 : Int32} {x11 : Int32} {d : Dt} (hf : f_L_isDesign_J513 σ x0 x2 x4 x8 x9 x10 x11 d = some z) { cells slots : Nat} (hB : cells + (3) ≤ 3 ∧ slots + 64 * (3) ≤ 192)  {H : Heap} {locs : List Loc} {ls : Array Slot} (hl : lv_has ls 16 [(0, .ref (ad x0)), (2, .ref (ad x2)), (4, .int x4), (8, .int x8), (9, .int x9), (10, .int x10), (11, .int x11)]) (G : aw_G D cA base ad σ d s H locs) : W p l e rm_L_isDesign s m args below meth c H locs cells slots (aw_Ej D cA base ad σ below args s 3 192 z) (F0 m 513 ls []) := by
  have hx := X.1; have hb := X.2.1; have hml := X.2.2.1; have hown := X.2.2.2.1
  unfold f_L_isDesign_J513 at hf
  refine lv_iload hx hb dL_isDesign_513 (lv_at hl 3 rfl) ?_
  refine lv_if_eq (tgt := 531) hx hb dL_isDesign_515 (by decide) (fun hc => ?_) (fun hc => ?_)
  · have hf := aw_ite_t hc hf
    exact w_L_isDesign_J531 X hst hf ⟨by omega, by omega⟩  (lv_sub hl [0, 2, 3, 4, 5, 6] rfl) G
  · have hf := aw_ite_f hc hf
    refine lv_iload hx hb dL_isDesign_518 (lv_at hl 4 rfl) ?_
    refine lv_bipush (v := (50 : Int32)) hx hb dL_isDesign_520 (by decide) ?_
    refine lv_icmp_ge (tgt := 531) hx hb dL_isDesign_522 (by decide) (fun hc => ?_) (fun hc => ?_)
    · have hf := aw_ite_t hc hf
      exact w_L_isDesign_J531 X hst hf ⟨by omega, by omega⟩  (lv_sub hl [0, 2, 3, 4, 5, 6] rfl) G
    · have hf := aw_ite_f hc hf
      refine lv_aload_n hx hb dL_isDesign_525 rfl (lv_at hl 1 rfl) ?_
      refine lv_iload hx hb dL_isDesign_526 (lv_at hl 4 rfl) ?_
      refine lv_iload hx hb dL_isDesign_528 (lv_at hl 5 rfl) ?_
      obtain ⟨hc_8, hf⟩ := aw_chk_some hf
      refine aw_ias hx hb G hc_8 dL_isDesign_530 (fun H locs G => ?_)
      exact w_L_isDesign_J531 X hst hf ⟨by omega, by omega⟩  (lv_sub hl [0, 2, 3, 4, 5, 6] rfl) G
set_option maxHeartbeats 4000000 in
set_option maxRecDepth 100000 in
theorem w_L_isDesign_J461 {z : Int32 × Dt} (X : aw_X p c cL_isDesign 16 s RL m meth (some .boolean)) (hst : l.stackTraces = false) {t0 : Int32} {x0 : Nat} {x2 : Nat} {x4 : Int32} {x8 : Int32} {x9 : Int32} {x10 : Int32} {d : Dt} (hf : f_L_isDesign_J461 σ t0 x0 x2 x4 x8 x9 x10 d = some z) { cells slots : Nat} (hB : cells + (3) ≤ 3 ∧ slots + 64 * (3) ≤ 192)  {H : Heap} {locs : List Loc} {ls : Array Slot} (hl : lv_has ls 16 [(0, .ref (ad x0)), (2, .ref (ad x2)), (4, .int x4), (8, .int x8), (9, .int x9), (10, .int x10)]) (G : aw_G D cA base ad σ d s H locs) : W p l e rm_L_isDesign s m args below meth c H locs cells slots (aw_Ej D cA base ad σ below args s 3 192 z) (F0 m 461 ls [.int t0]) := by
  have hx := X.1; have hb := X.2.1; have hml := X.2.2.1; have hown := X.2.2.2.1
  unfold f_L_isDesign_J461 at hf
  refine lv_istore (lv' := [(11, .int t0), (0, .ref (ad x0)), (2, .ref (ad x2)), (4, .int x4), (8, .int x8), (9, .int x9), (10, .int x10)]) hx hb dL_isDesign_461 hl (by decide) rfl (fun ls hl => ?_)
  refine lv_iconst (v := (0 : Int32)) hx hb dL_isDesign_463 (by decide) ?_
  refine lv_istore (lv' := [(12, .int ((0 : Int32))), (11, .int t0), (0, .ref (ad x0)), (2, .ref (ad x2)), (4, .int x4), (8, .int x8), (9, .int x9), (10, .int x10)]) hx hb dL_isDesign_464 hl (by decide) rfl (fun ls hl => ?_)
  refine w_L_isDesign_L466 X hst aw_FU hf ⟨by omega, by omega⟩  (fun d_4 hf cells slots hB H locs ls hl G => ?_) (lv_sub hl [2, 3, 4, 5, 6, 7, 1, 0] rfl) G
  exact w_L_isDesign_J513 X hst hf ⟨by omega, by omega⟩  (lv_sub hl [0, 1, 2, 3, 4, 5, 6] rfl) G
set_option maxHeartbeats 4000000 in
set_option maxRecDepth 100000 in
theorem w_L_isDesign_J460 {z : Int32 × Dt} (X : aw_X p c cL_isDesign 16 s RL m meth (some .boolean)) (hst : l.stackTraces = false) {x0 : Nat} {x2 : Nat} {x4 : Int32} {x8 : Int32} {x9 : Int32} {x10 : Int32} {d : Dt} (hf : f_L_isDesign_J460 σ x0 x2 x4 x8 x9 x10 d = some z) { cells slots : Nat} (hB : cells + (3) ≤ 3 ∧ slots + 64 * (3) ≤ 192)  {H : Heap} {locs : List Loc} {ls : Array Slot} (hl : lv_has ls 16 [(0, .ref (ad x0)), (2, .ref (ad x2)), (4, .int x4), (8, .int x8), (9, .int x9), (10, .int x10)]) (G : aw_G D cA base ad σ d s H locs) : W p l e rm_L_isDesign s m args below meth c H locs cells slots (aw_Ej D cA base ad σ below args s 3 192 z) (F0 m 460 ls []) := by
  have hx := X.1; have hb := X.2.1; have hml := X.2.2.1; have hown := X.2.2.2.1
  unfold f_L_isDesign_J460 at hf
  refine lv_iconst (v := (0 : Int32)) hx hb dL_isDesign_460 (by decide) ?_
  exact w_L_isDesign_J461 X hst hf ⟨by omega, by omega⟩  (lv_sub hl [0, 1, 2, 3, 4, 5] rfl) G
set_option maxHeartbeats 4000000 in
set_option maxRecDepth 100000 in
theorem w_L_isDesign_J432 {z : Int32 × Dt} (X : aw_X p c cL_isDesign 16 s RL m meth (some .boolean)) (hst : l.stackTraces = false) {t0 : Int32} {x0 : Nat} {x2 : Nat} {x4 : Int32} {x7 : Int32} {x8 : Int32} {d : Dt} (hf : f_L_isDesign_J432 σ t0 x0 x2 x4 x7 x8 d = some z) { cells slots : Nat} (hB : cells + (3) ≤ 3 ∧ slots + 64 * (3) ≤ 192)  {H : Heap} {locs : List Loc} {ls : Array Slot} (hl : lv_has ls 16 [(0, .ref (ad x0)), (2, .ref (ad x2)), (4, .int x4), (7, .int x7), (8, .int x8)]) (G : aw_G D cA base ad σ d s H locs) : W p l e rm_L_isDesign s m args below meth c H locs cells slots (aw_Ej D cA base ad σ below args s 3 192 z) (F0 m 432 ls [.int t0]) := by
  have hx := X.1; have hb := X.2.1; have hml := X.2.2.1; have hown := X.2.2.2.1
  unfold f_L_isDesign_J432 at hf
  refine lv_istore (lv' := [(9, .int t0), (0, .ref (ad x0)), (2, .ref (ad x2)), (4, .int x4), (7, .int x7), (8, .int x8)]) hx hb dL_isDesign_432 hl (by decide) rfl (fun ls hl => ?_)
  refine lv_iload hx hb dL_isDesign_434 (lv_at hl 4 rfl) ?_
  refine lv_bipush (v := (50 : Int32)) hx hb dL_isDesign_436 (by decide) ?_
  refine lv_irem hx hb dL_isDesign_438 (by decide) ?_
  refine lv_istore (lv' := [(10, .int (x7 - x7 / (50 : Int32) * (50 : Int32))), (9, .int t0), (0, .ref (ad x0)), (2, .ref (ad x2)), (4, .int x4), (7, .int x7), (8, .int x8)]) hx hb dL_isDesign_439 hl (by decide) rfl (fun ls hl => ?_)
  refine lv_iload hx hb dL_isDesign_441 (lv_at hl 6 rfl) ?_
  refine lv_if_eq (tgt := 460) hx hb dL_isDesign_443 (by decide) (fun hc => ?_) (fun hc => ?_)
  · have hf := aw_ite_t hc hf
    exact w_L_isDesign_J460 X hst hf ⟨by omega, by omega⟩  (lv_sub hl [2, 3, 4, 6, 1, 0] rfl) G
  · have hf := aw_ite_f hc hf
    refine lv_iload hx hb dL_isDesign_446 (lv_at hl 1 rfl) ?_
    refine lv_bipush (v := (50 : Int32)) hx hb dL_isDesign_448 (by decide) ?_
    refine lv_icmp_ge (tgt := 460) hx hb dL_isDesign_450 (by decide) (fun hc => ?_) (fun hc => ?_)
    · have hf := aw_ite_t hc hf
      exact w_L_isDesign_J460 X hst hf ⟨by omega, by omega⟩  (lv_sub hl [2, 3, 4, 6, 1, 0] rfl) G
    · have hf := aw_ite_f hc hf
      refine lv_aload_n hx hb dL_isDesign_453 rfl (lv_at hl 3 rfl) ?_
      refine lv_iload hx hb dL_isDesign_454 (lv_at hl 1 rfl) ?_
      obtain ⟨hc_9, hf⟩ := aw_chk_some hf
      refine aw_ial hx hb G hc_9 dL_isDesign_456 ?_
      refine lv_goto (tgt := 461) hx hb dL_isDesign_457 (by decide) ?_
      exact w_L_isDesign_J461 X hst hf ⟨by omega, by omega⟩  (lv_sub hl [2, 3, 4, 6, 1, 0] rfl) G
set_option maxHeartbeats 4000000 in
set_option maxRecDepth 100000 in
theorem w_L_isDesign_J411 {z : Int32 × Dt} (X : aw_X p c cL_isDesign 16 s RL m meth (some .boolean)) (hst : l.stackTraces = false) {t0 : Int32} {d : Dt} (hf : f_L_isDesign_J411 σ t0 d = some z) { cells slots : Nat} (hB : cells + (0) ≤ 3 ∧ slots + 64 * (0) ≤ 192)  {H : Heap} {locs : List Loc} {ls : Array Slot} (hl : lv_has ls 16 []) (G : aw_G D cA base ad σ d s H locs) : W p l e rm_L_isDesign s m args below meth c H locs cells slots (aw_Ej D cA base ad σ below args s 3 192 z) (F0 m 411 ls [.int t0]) := by
  have hx := X.1; have hb := X.2.1; have hml := X.2.2.1; have hown := X.2.2.2.1
  unfold f_L_isDesign_J411 at hf
  obtain ⟨hc_18, hf⟩ := aw_chk_some hf
  exact aw_retjZ X G hf hc_18 dL_isDesign_411 (by omega) (by omega)
set_option maxHeartbeats 4000000 in
set_option maxRecDepth 100000 in
theorem w_L_isDesign_J389 {z : Int32 × Dt} (X : aw_X p c cL_isDesign 16 s RL m meth (some .boolean)) (hst : l.stackTraces = false) {t3 : Int32} {t2 : Int32} {t1 : Int32} {t0 : Nat} {x0 : Nat} {x4 : Int32} {x9 : Int32} {x10 : Int32} {x11 : Int32} {d : Dt} (hf : f_L_isDesign_J389 σ t3 t2 t1 t0 x0 x4 x9 x10 x11 d = some z) { cells slots : Nat} (hB : cells + (2) ≤ 3 ∧ slots + 64 * (2) ≤ 192)  {H : Heap} {locs : List Loc} {ls : Array Slot} (hl : lv_has ls 16 [(0, .ref (ad x0)), (4, .int x4), (9, .int x9), (10, .int x10), (11, .int x11)]) (G : aw_G D cA base ad σ d s H locs) : W p l e rm_L_isDesign s m args below meth c H locs cells slots (aw_Ej D cA base ad σ below args s 3 192 z) (F0 m 389 ls [.int t3, .int t2, .int t1, .ref (ad t0)]) := by
  have hx := X.1; have hb := X.2.1; have hml := X.2.2.1; have hown := X.2.2.2.1
  unfold f_L_isDesign_J389 at hf
  refine lv_ixor hx hb dL_isDesign_389 ?_
  obtain ⟨hc_12, hf⟩ := aw_chk_some hf
  refine aw_ias hx hb G hc_12 dL_isDesign_390 (fun H locs G => ?_)
  refine lv_aload_n hx hb dL_isDesign_391 rfl (lv_at hl 0 rfl) ?_
  refine lv_iload hx hb dL_isDesign_392 (lv_at hl 1 rfl) ?_
  refine lv_iload hx hb dL_isDesign_394 (lv_at hl 2 rfl) ?_
  refine lv_iload hx hb dL_isDesign_396 (lv_at hl 4 rfl) ?_
  obtain ⟨hc_13, hf⟩ := aw_chk_some hf
  obtain ⟨z_14, hz_15, hf⟩ := aw_bind_some hf
  obtain ⟨v_16, hv_17, hf⟩ := aw_nt_some hf
  refine aw_CXI (As := [.int x4, .int x9, .int x11]) (rest := []) X G hl.1 cr_L_199 (c_X10_mark l hst hz_15) rfl rfl rfl (by decide) hc_13 rfl ⟨(Nat.le_of_ble_eq_true rfl), (Nat.le_of_ble_eq_true rfl)⟩ (Nat.le_of_ble_eq_true rfl) dL_isDesign_398 2 12 ⟨(Nat.le_of_ble_eq_true rfl), (Nat.le_of_ble_eq_true rfl)⟩ ⟨by show cells + 2 ≤ 3; omega, by show slots + 12 ≤ 192; omega⟩ hv_17 (fun H locs G => ?_)
  refine lv_iload hx hb dL_isDesign_401 (lv_at hl 3 rfl) ?_
  refine lv_icmp_ne (tgt := 410) hx hb dL_isDesign_403 (by decide) (fun hc => ?_) (fun hc => ?_)
  · have hf := aw_ite_f hc hf
    refine lv_iconst (v := (0 : Int32)) hx hb dL_isDesign_410 (by decide) ?_
    exact w_L_isDesign_J411 X hst hf ⟨by omega, by omega⟩  (lv_sub hl [] rfl) G
  · have hf := aw_ite_t hc hf
    refine lv_iconst (v := (1 : Int32)) hx hb dL_isDesign_406 (by decide) ?_
    refine lv_goto (tgt := 411) hx hb dL_isDesign_407 (by decide) ?_
    exact w_L_isDesign_J411 X hst hf ⟨by omega, by omega⟩  (lv_sub hl [] rfl) G
set_option maxHeartbeats 4000000 in
set_option maxRecDepth 100000 in
theorem w_L_isDesign_J367 {z : Int32 × Dt} (X : aw_X p c cL_isDesign 16 s RL m meth (some .boolean)) (hst : l.stackTraces = false) {t0 : Int32} {x0 : Nat} {x1 : Nat} {x4 : Int32} {x9 : Int32} {x10 : Int32} {d : Dt} (hf : f_L_isDesign_J367 σ t0 x0 x1 x4 x9 x10 d = some z) { cells slots : Nat} (hB : cells + (2) ≤ 3 ∧ slots + 64 * (2) ≤ 192)  {H : Heap} {locs : List Loc} {ls : Array Slot} (hl : lv_has ls 16 [(0, .ref (ad x0)), (1, .ref (ad x1)), (4, .int x4), (9, .int x9), (10, .int x10)]) (G : aw_G D cA base ad σ d s H locs) : W p l e rm_L_isDesign s m args below meth c H locs cells slots (aw_Ej D cA base ad σ below args s 3 192 z) (F0 m 367 ls [.int t0]) := by
  have hx := X.1; have hb := X.2.1; have hml := X.2.2.1; have hown := X.2.2.2.1
  unfold f_L_isDesign_J367 at hf
  refine lv_istore (lv' := [(11, .int t0), (0, .ref (ad x0)), (1, .ref (ad x1)), (4, .int x4), (9, .int x9), (10, .int x10)]) hx hb dL_isDesign_367 hl (by decide) rfl (fun ls hl => ?_)
  refine lv_aload_n hx hb dL_isDesign_369 rfl (lv_at hl 2 rfl) ?_
  refine lv_bipush (v := (49 : Int32)) hx hb dL_isDesign_370 (by decide) ?_
  refine lv_dup2_11 hx hb dL_isDesign_372 rfl rfl ?_
  obtain ⟨hc_11, hf⟩ := aw_chk_some hf
  refine aw_ial hx hb G hc_11 dL_isDesign_373 ?_
  refine lv_iload hx hb dL_isDesign_374 (lv_at hl 5 rfl) ?_
  refine lv_iload hx hb dL_isDesign_376 (lv_at hl 0 rfl) ?_
  refine lv_icmp_ne (tgt := 385) hx hb dL_isDesign_378 (by decide) (fun hc => ?_) (fun hc => ?_)
  · have hf := aw_ite_f hc hf
    refine lv_iconst (v := (1 : Int32)) hx hb dL_isDesign_385 (by decide) ?_
    refine lv_iload hx hb dL_isDesign_386 (lv_at hl 4 rfl) ?_
    refine lv_ishl hx hb dL_isDesign_388 ?_
    exact w_L_isDesign_J389 X hst hf ⟨by omega, by omega⟩  (lv_sub hl [1, 3, 4, 5, 0] rfl) G
  · have hf := aw_ite_t hc hf
    refine lv_iconst (v := (0 : Int32)) hx hb dL_isDesign_381 (by decide) ?_
    refine lv_goto (tgt := 389) hx hb dL_isDesign_382 (by decide) ?_
    exact w_L_isDesign_J389 X hst hf ⟨by omega, by omega⟩  (lv_sub hl [1, 3, 4, 5, 0] rfl) G
set_option maxHeartbeats 4000000 in
set_option maxRecDepth 100000 in
theorem w_L_isDesign_J353 {z : Int32 × Dt} (X : aw_X p c cL_isDesign 16 s RL m meth (some .boolean)) (hst : l.stackTraces = false) {t0 : Int32} {x0 : Nat} {x1 : Nat} {x4 : Int32} {x7 : Int32} {x9 : Int32} {d : Dt} (hf : f_L_isDesign_J353 σ t0 x0 x1 x4 x7 x9 d = some z) { cells slots : Nat} (hB : cells + (2) ≤ 3 ∧ slots + 64 * (2) ≤ 192)  {H : Heap} {locs : List Loc} {ls : Array Slot} (hl : lv_has ls 16 [(0, .ref (ad x0)), (1, .ref (ad x1)), (4, .int x4), (7, .int x7), (9, .int x9)]) (G : aw_G D cA base ad σ d s H locs) : W p l e rm_L_isDesign s m args below meth c H locs cells slots (aw_Ej D cA base ad σ below args s 3 192 z) (F0 m 353 ls [.int t0]) := by
  have hx := X.1; have hb := X.2.1; have hml := X.2.2.1; have hown := X.2.2.2.1
  unfold f_L_isDesign_J353 at hf
  refine lv_istore (lv' := [(10, .int t0), (0, .ref (ad x0)), (1, .ref (ad x1)), (4, .int x4), (7, .int x7), (9, .int x9)]) hx hb dL_isDesign_353 hl (by decide) rfl (fun ls hl => ?_)
  refine lv_iload hx hb dL_isDesign_355 (lv_at hl 4 rfl) ?_
  refine lv_iconst (v := (2 : Int32)) hx hb dL_isDesign_357 (by decide) ?_
  refine lv_irem hx hb dL_isDesign_358 (by decide) ?_
  refine lv_if_ne (tgt := 366) hx hb dL_isDesign_359 (by decide) (fun hc => ?_) (fun hc => ?_)
  · have hf := aw_ite_f hc hf
    refine lv_iconst (v := (0 : Int32)) hx hb dL_isDesign_366 (by decide) ?_
    exact w_L_isDesign_J367 X hst hf ⟨by omega, by omega⟩  (lv_sub hl [1, 2, 3, 5, 0] rfl) G
  · have hf := aw_ite_t hc hf
    refine lv_iconst (v := (1 : Int32)) hx hb dL_isDesign_362 (by decide) ?_
    refine lv_goto (tgt := 367) hx hb dL_isDesign_363 (by decide) ?_
    exact w_L_isDesign_J367 X hst hf ⟨by omega, by omega⟩  (lv_sub hl [1, 2, 3, 5, 0] rfl) G
set_option maxHeartbeats 4000000 in
set_option maxRecDepth 100000 in
theorem w_L_isDesign_J188 {z : Int32 × Dt} (X : aw_X p c cL_isDesign 16 s RL m meth (some .boolean)) (hst : l.stackTraces = false) {kb146 : Int32 → Int32 → Dt → Option (Int32 × Dt)} {t0 : Int32} {x0 : Nat} {x1 : Nat} {x4 : Int32} {x9 : Int32} {x10 : Int32} {x11 : Int32} {x12 : Int32} {x14 : Int32} {d : Dt} (hf : f_L_isDesign_J188 σ kb146 t0 x0 x1 x4 x9 x10 x11 x12 x14 d = some z) { cells slots : Nat} (hB : cells + (2) ≤ 3 ∧ slots + 64 * (2) ≤ 192) (hkb146 : ∀ (y13 : Int32) (y14 : Int32) (d : Dt), kb146 y13 y14 d = some z → ∀ (cells slots : Nat), cells + (2) ≤ 3 ∧ slots + 64 * (2) ≤ 192 → ∀ (H : Heap) (locs : List Loc) (ls : Array Slot), lv_has ls 16 [(0, .ref (ad x0)), (1, .ref (ad x1)), (4, .int x4), (9, .int x9), (10, .int x10), (11, .int x11), (12, .int x12), (13, .int y13), (14, .int y14)] → aw_G D cA base ad σ d s H locs → W p l e rm_L_isDesign s m args below meth c H locs cells slots (aw_Ej D cA base ad σ below args s 3 192 z) (F0 m 146 ls [])) {H : Heap} {locs : List Loc} {ls : Array Slot} (hl : lv_has ls 16 [(0, .ref (ad x0)), (1, .ref (ad x1)), (4, .int x4), (9, .int x9), (10, .int x10), (11, .int x11), (12, .int x12), (14, .int x14)]) (G : aw_G D cA base ad σ d s H locs) : W p l e rm_L_isDesign s m args below meth c H locs cells slots (aw_Ej D cA base ad σ below args s 3 192 z) (F0 m 188 ls [.int t0]) := by
  have hx := X.1; have hb := X.2.1; have hml := X.2.2.1; have hown := X.2.2.2.1
  unfold f_L_isDesign_J188 at hf
  refine lv_istore (lv' := [(13, .int t0), (0, .ref (ad x0)), (1, .ref (ad x1)), (4, .int x4), (9, .int x9), (10, .int x10), (11, .int x11), (12, .int x12), (14, .int x14)]) hx hb dL_isDesign_188 hl (by decide) rfl (fun ls hl => ?_)
  refine lv_iinc (v := x14 + 1) (lv' := [(14, .int (x14 + 1)), (13, .int t0), (0, .ref (ad x0)), (1, .ref (ad x1)), (4, .int x4), (9, .int x9), (10, .int x10), (11, .int x11), (12, .int x12)]) hx hb dL_isDesign_190 hl (k := 8) rfl rfl (by decide) rfl (fun ls hl => ?_)
  refine lv_goto (tgt := 146) hx hb dL_isDesign_193 (by decide) ?_
  exact hkb146 _ _ _ hf _ _ ⟨by omega, by omega⟩ _ _ _ (lv_sub hl [2, 3, 4, 5, 6, 7, 8, 1, 0] rfl) G
set_option maxHeartbeats 4000000 in
set_option maxRecDepth 100000 in
theorem w_L_isDesign_J183 {z : Int32 × Dt} (X : aw_X p c cL_isDesign 16 s RL m meth (some .boolean)) (hst : l.stackTraces = false) {kb146 : Int32 → Int32 → Dt → Option (Int32 × Dt)} {x0 : Nat} {x1 : Nat} {x4 : Int32} {x9 : Int32} {x10 : Int32} {x11 : Int32} {x12 : Int32} {x14 : Int32} {d : Dt} (hf : f_L_isDesign_J183 σ kb146 x0 x1 x4 x9 x10 x11 x12 x14 d = some z) { cells slots : Nat} (hB : cells + (2) ≤ 3 ∧ slots + 64 * (2) ≤ 192) (hkb146 : ∀ (y13 : Int32) (y14 : Int32) (d : Dt), kb146 y13 y14 d = some z → ∀ (cells slots : Nat), cells + (2) ≤ 3 ∧ slots + 64 * (2) ≤ 192 → ∀ (H : Heap) (locs : List Loc) (ls : Array Slot), lv_has ls 16 [(0, .ref (ad x0)), (1, .ref (ad x1)), (4, .int x4), (9, .int x9), (10, .int x10), (11, .int x11), (12, .int x12), (13, .int y13), (14, .int y14)] → aw_G D cA base ad σ d s H locs → W p l e rm_L_isDesign s m args below meth c H locs cells slots (aw_Ej D cA base ad σ below args s 3 192 z) (F0 m 146 ls [])) {H : Heap} {locs : List Loc} {ls : Array Slot} (hl : lv_has ls 16 [(0, .ref (ad x0)), (1, .ref (ad x1)), (4, .int x4), (9, .int x9), (10, .int x10), (11, .int x11), (12, .int x12), (14, .int x14)]) (G : aw_G D cA base ad σ d s H locs) : W p l e rm_L_isDesign s m args below meth c H locs cells slots (aw_Ej D cA base ad σ below args s 3 192 z) (F0 m 183 ls []) := by
  have hx := X.1; have hb := X.2.1; have hml := X.2.2.1; have hown := X.2.2.2.1
  unfold f_L_isDesign_J183 at hf
  refine lv_iconst (v := (1 : Int32)) hx hb dL_isDesign_183 (by decide) ?_
  refine lv_goto (tgt := 188) hx hb dL_isDesign_184 (by decide) ?_
  exact w_L_isDesign_J188 X hst hf ⟨by omega, by omega⟩ hkb146 (lv_sub hl [0, 1, 2, 3, 4, 5, 6, 7] rfl) G
set_option maxHeartbeats 4000000 in
set_option maxRecDepth 100000 in
theorem w_L_isDesign_J187 {z : Int32 × Dt} (X : aw_X p c cL_isDesign 16 s RL m meth (some .boolean)) (hst : l.stackTraces = false) {kb146 : Int32 → Int32 → Dt → Option (Int32 × Dt)} {x0 : Nat} {x1 : Nat} {x4 : Int32} {x9 : Int32} {x10 : Int32} {x11 : Int32} {x12 : Int32} {x14 : Int32} {d : Dt} (hf : f_L_isDesign_J187 σ kb146 x0 x1 x4 x9 x10 x11 x12 x14 d = some z) { cells slots : Nat} (hB : cells + (2) ≤ 3 ∧ slots + 64 * (2) ≤ 192) (hkb146 : ∀ (y13 : Int32) (y14 : Int32) (d : Dt), kb146 y13 y14 d = some z → ∀ (cells slots : Nat), cells + (2) ≤ 3 ∧ slots + 64 * (2) ≤ 192 → ∀ (H : Heap) (locs : List Loc) (ls : Array Slot), lv_has ls 16 [(0, .ref (ad x0)), (1, .ref (ad x1)), (4, .int x4), (9, .int x9), (10, .int x10), (11, .int x11), (12, .int x12), (13, .int y13), (14, .int y14)] → aw_G D cA base ad σ d s H locs → W p l e rm_L_isDesign s m args below meth c H locs cells slots (aw_Ej D cA base ad σ below args s 3 192 z) (F0 m 146 ls [])) {H : Heap} {locs : List Loc} {ls : Array Slot} (hl : lv_has ls 16 [(0, .ref (ad x0)), (1, .ref (ad x1)), (4, .int x4), (9, .int x9), (10, .int x10), (11, .int x11), (12, .int x12), (14, .int x14)]) (G : aw_G D cA base ad σ d s H locs) : W p l e rm_L_isDesign s m args below meth c H locs cells slots (aw_Ej D cA base ad σ below args s 3 192 z) (F0 m 187 ls []) := by
  have hx := X.1; have hb := X.2.1; have hml := X.2.2.1; have hown := X.2.2.2.1
  unfold f_L_isDesign_J187 at hf
  refine lv_iconst (v := (0 : Int32)) hx hb dL_isDesign_187 (by decide) ?_
  exact w_L_isDesign_J188 X hst hf ⟨by omega, by omega⟩ hkb146 (lv_sub hl [0, 1, 2, 3, 4, 5, 6, 7] rfl) G
set_option maxHeartbeats 4000000 in
set_option maxRecDepth 100000 in
theorem w_L_isDesign_B146 {z : Int32 × Dt} (X : aw_X p c cL_isDesign 16 s RL m meth (some .boolean)) (hst : l.stackTraces = false) {kb146 : Int32 → Int32 → Dt → Option (Int32 × Dt)} {k146 : Int32 → Dt → Option (Int32 × Dt)} {x0 : Nat} {x1 : Nat} {x4 : Int32} {x9 : Int32} {x10 : Int32} {x11 : Int32} {x12 : Int32} {x13 : Int32} {x14 : Int32} {d : Dt} (hf : f_L_isDesign_B146 σ kb146 k146 x0 x1 x4 x9 x10 x11 x12 x13 x14 d = some z) { cells slots : Nat} (hB : cells + (2) ≤ 3 ∧ slots + 64 * (2) ≤ 192) (hkb146 : ∀ (y13 : Int32) (y14 : Int32) (d : Dt), kb146 y13 y14 d = some z → ∀ (cells slots : Nat), cells + (2) ≤ 3 ∧ slots + 64 * (2) ≤ 192 → ∀ (H : Heap) (locs : List Loc) (ls : Array Slot), lv_has ls 16 [(0, .ref (ad x0)), (1, .ref (ad x1)), (4, .int x4), (9, .int x9), (10, .int x10), (11, .int x11), (12, .int x12), (13, .int y13), (14, .int y14)] → aw_G D cA base ad σ d s H locs → W p l e rm_L_isDesign s m args below meth c H locs cells slots (aw_Ej D cA base ad σ below args s 3 192 z) (F0 m 146 ls [])) (hk146 : ∀ (y13 : Int32) (d : Dt), k146 y13 d = some z → ∀ (cells slots : Nat), cells + (2) ≤ 3 ∧ slots + 64 * (2) ≤ 192 → ∀ (H : Heap) (locs : List Loc) (ls : Array Slot), lv_has ls 16 [(0, .ref (ad x0)), (1, .ref (ad x1)), (4, .int x4), (9, .int x9), (10, .int x10), (11, .int x11), (12, .int x12), (13, .int y13)] → aw_G D cA base ad σ d s H locs → W p l e rm_L_isDesign s m args below meth c H locs cells slots (aw_Ej D cA base ad σ below args s 3 192 z) (F0 m 196 ls [])) {H : Heap} {locs : List Loc} {ls : Array Slot} (hl : lv_has ls 16 [(0, .ref (ad x0)), (1, .ref (ad x1)), (4, .int x4), (9, .int x9), (10, .int x10), (11, .int x11), (12, .int x12), (13, .int x13), (14, .int x14)]) (G : aw_G D cA base ad σ d s H locs) : W p l e rm_L_isDesign s m args below meth c H locs cells slots (aw_Ej D cA base ad σ below args s 3 192 z) (F0 m 146 ls []) := by
  have hx := X.1; have hb := X.2.1; have hml := X.2.2.1; have hown := X.2.2.2.1
  unfold f_L_isDesign_B146 at hf
  refine lv_iload hx hb dL_isDesign_146 (lv_at hl 8 rfl) ?_
  refine lv_bipush (v := (47 : Int32)) hx hb dL_isDesign_148 (by decide) ?_
  refine lv_icmp_ge (tgt := 196) hx hb dL_isDesign_150 (by decide) (fun hc => ?_) (fun hc => ?_)
  · have hf := aw_ite_t hc hf
    exact hk146 _ _ hf _ _ ⟨by omega, by omega⟩ _ _ _ (lv_sub hl [0, 1, 2, 3, 4, 5, 6, 7] rfl) G
  · have hf := aw_ite_f hc hf
    refine lv_iload hx hb dL_isDesign_153 (lv_at hl 7 rfl) ?_
    refine lv_if_ne (tgt := 183) hx hb dL_isDesign_155 (by decide) (fun hc => ?_) (fun hc => ?_)
    · have hf := aw_ite_f hc hf
      exact w_L_isDesign_J183 X hst hf ⟨by omega, by omega⟩ hkb146 (lv_sub hl [0, 1, 2, 3, 4, 5, 6, 8] rfl) G
    · have hf := aw_ite_t hc hf
      refine lv_iload hx hb dL_isDesign_158 (lv_at hl 8 rfl) ?_
      refine lv_iload hx hb dL_isDesign_160 (lv_at hl 3 rfl) ?_
      refine lv_icmp_eq (tgt := 187) hx hb dL_isDesign_162 (by decide) (fun hc => ?_) (fun hc => ?_)
      · have hf := aw_ite_t hc hf
        exact w_L_isDesign_J187 X hst hf ⟨by omega, by omega⟩ hkb146 (lv_sub hl [0, 1, 2, 3, 4, 5, 6, 8] rfl) G
      · have hf := aw_ite_f hc hf
        refine lv_aload_n hx hb dL_isDesign_165 rfl (lv_at hl 1 rfl) ?_
        refine lv_iload hx hb dL_isDesign_166 (lv_at hl 8 rfl) ?_
        obtain ⟨z_20, hz_21, hf⟩ := aw_bind_some hf
        refine aw_SI (As := [.ref (ad x1), .int x14]) (rest := []) X G hl.1 cr_L_104 (c_L_isUnit l hz_21) ⟨rfl, rfl⟩ rfl rfl rfl ⟨(Nat.le_of_ble_eq_true rfl), (Nat.le_of_ble_eq_true rfl)⟩ (Nat.le_of_ble_eq_true rfl) dL_isDesign_168 ⟨by show cells + 0 ≤ 3; omega, by show slots + 0 ≤ 192; omega⟩ (fun H locs G => ?_)
        refine lv_if_eq (tgt := 187) hx hb dL_isDesign_171 (by decide) (fun hc => ?_) (fun hc => ?_)
        · have hf := aw_ite_t hc hf
          exact w_L_isDesign_J187 X hst hf ⟨by omega, by omega⟩ hkb146 (lv_sub hl [0, 1, 2, 3, 4, 5, 6, 8] rfl) G
        · have hf := aw_ite_f hc hf
          refine lv_aload_n hx hb dL_isDesign_174 rfl (lv_at hl 1 rfl) ?_
          refine lv_iload hx hb dL_isDesign_175 (lv_at hl 8 rfl) ?_
          obtain ⟨hc_22, hf⟩ := aw_chk_some hf
          refine aw_ial hx hb G hc_22 dL_isDesign_177 ?_
          refine lv_iload hx hb dL_isDesign_178 (lv_at hl 4 rfl) ?_
          refine lv_icmp_ne (tgt := 187) hx hb dL_isDesign_180 (by decide) (fun hc => ?_) (fun hc => ?_)
          · have hf := aw_ite_f hc hf
            exact w_L_isDesign_J187 X hst hf ⟨by omega, by omega⟩ hkb146 (lv_sub hl [0, 1, 2, 3, 4, 5, 6, 8] rfl) G
          · have hf := aw_ite_t hc hf
            exact w_L_isDesign_J183 X hst hf ⟨by omega, by omega⟩ hkb146 (lv_sub hl [0, 1, 2, 3, 4, 5, 6, 8] rfl) G
theorem w_L_isDesign_L146 {z : Int32 × Dt} (X : aw_X p c cL_isDesign 16 s RL m meth (some .boolean)) (hst : l.stackTraces = false) {k146 : Int32 → Dt → Option (Int32 × Dt)} {x0 : Nat} {x1 : Nat} {x4 : Int32} {x9 : Int32} {x10 : Int32} {x11 : Int32} {x12 : Int32} (n : Nat) {x13 : Int32} {x14 : Int32} {d : Dt} (hf : f_L_isDesign_L146 σ n k146 x0 x1 x4 x9 x10 x11 x12 x13 x14 d = some z) { cells slots : Nat} (hB : cells + (2) ≤ 3 ∧ slots + 64 * (2) ≤ 192) (hk146 : ∀ (y13 : Int32) (d : Dt), k146 y13 d = some z → ∀ (cells slots : Nat), cells + (2) ≤ 3 ∧ slots + 64 * (2) ≤ 192 → ∀ (H : Heap) (locs : List Loc) (ls : Array Slot), lv_has ls 16 [(0, .ref (ad x0)), (1, .ref (ad x1)), (4, .int x4), (9, .int x9), (10, .int x10), (11, .int x11), (12, .int x12), (13, .int y13)] → aw_G D cA base ad σ d s H locs → W p l e rm_L_isDesign s m args below meth c H locs cells slots (aw_Ej D cA base ad σ below args s 3 192 z) (F0 m 196 ls [])) {H : Heap} {locs : List Loc} {ls : Array Slot} (hl : lv_has ls 16 [(0, .ref (ad x0)), (1, .ref (ad x1)), (4, .int x4), (9, .int x9), (10, .int x10), (11, .int x11), (12, .int x12), (13, .int x13), (14, .int x14)]) (G : aw_G D cA base ad σ d s H locs) : W p l e rm_L_isDesign s m args below meth c H locs cells slots (aw_Ej D cA base ad σ below args s 3 192 z) (F0 m 146 ls []) := by
  induction n generalizing x13 x14 d cells slots H locs ls with
  | zero => exact absurd (show (none : Option (Int32 × Dt)) = some z from hf) (by simp)
  | succ n ih => exact w_L_isDesign_B146 X hst (kb146 := f_L_isDesign_L146 σ n k146 x0 x1 x4 x9 x10 x11 x12) hf ⟨by omega, by omega⟩  (fun x13 x14 d hf cells slots hB H locs ls hl G => ih hf hB hl G) hk146 hl G
set_option maxHeartbeats 4000000 in
set_option maxRecDepth 100000 in
theorem w_L_isDesign_J315 {z : Int32 × Dt} (X : aw_X p c cL_isDesign 16 s RL m meth (some .boolean)) (hst : l.stackTraces = false) {t0 : Int32} {d : Dt} (hf : f_L_isDesign_J315 σ t0 d = some z) { cells slots : Nat} (hB : cells + (0) ≤ 3 ∧ slots + 64 * (0) ≤ 192)  {H : Heap} {locs : List Loc} {ls : Array Slot} (hl : lv_has ls 16 []) (G : aw_G D cA base ad σ d s H locs) : W p l e rm_L_isDesign s m args below meth c H locs cells slots (aw_Ej D cA base ad σ below args s 3 192 z) (F0 m 315 ls [.int t0]) := by
  have hx := X.1; have hb := X.2.1; have hml := X.2.2.1; have hown := X.2.2.2.1
  unfold f_L_isDesign_J315 at hf
  obtain ⟨hc_27, hf⟩ := aw_chk_some hf
  exact aw_retjZ X G hf hc_27 dL_isDesign_315 (by omega) (by omega)
set_option maxHeartbeats 4000000 in
set_option maxRecDepth 100000 in
theorem w_L_isDesign_J307 {z : Int32 × Dt} (X : aw_X p c cL_isDesign 16 s RL m meth (some .boolean)) (hst : l.stackTraces = false) {t1 : Int32} {t0 : Int32} {d : Dt} (hf : f_L_isDesign_J307 σ t1 t0 d = some z) { cells slots : Nat} (hB : cells + (0) ≤ 3 ∧ slots + 64 * (0) ≤ 192)  {H : Heap} {locs : List Loc} {ls : Array Slot} (hl : lv_has ls 16 []) (G : aw_G D cA base ad σ d s H locs) : W p l e rm_L_isDesign s m args below meth c H locs cells slots (aw_Ej D cA base ad σ below args s 3 192 z) (F0 m 307 ls [.int t1, .int t0]) := by
  have hx := X.1; have hb := X.2.1; have hml := X.2.2.1; have hown := X.2.2.2.1
  unfold f_L_isDesign_J307 at hf
  refine lv_icmp_ne (tgt := 314) hx hb dL_isDesign_307 (by decide) (fun hc => ?_) (fun hc => ?_)
  · have hf := aw_ite_f hc hf
    refine lv_iconst (v := (0 : Int32)) hx hb dL_isDesign_314 (by decide) ?_
    exact w_L_isDesign_J315 X hst hf ⟨by omega, by omega⟩  (lv_sub hl [] rfl) G
  · have hf := aw_ite_t hc hf
    refine lv_iconst (v := (1 : Int32)) hx hb dL_isDesign_310 (by decide) ?_
    refine lv_goto (tgt := 315) hx hb dL_isDesign_311 (by decide) ?_
    exact w_L_isDesign_J315 X hst hf ⟨by omega, by omega⟩  (lv_sub hl [] rfl) G
set_option maxHeartbeats 4000000 in
set_option maxRecDepth 100000 in
theorem w_L_isDesign_J251 {z : Int32 × Dt} (X : aw_X p c cL_isDesign 16 s RL m meth (some .boolean)) (hst : l.stackTraces = false) {x0 : Nat} {x4 : Int32} {x9 : Int32} {x10 : Int32} {x11 : Int32} {x12 : Int32} {x14 : Int32} {x15 : Int32} {d : Dt} (hf : f_L_isDesign_J251 σ x0 x4 x9 x10 x11 x12 x14 x15 d = some z) { cells slots : Nat} (hB : cells + (2) ≤ 3 ∧ slots + 64 * (2) ≤ 192)  {H : Heap} {locs : List Loc} {ls : Array Slot} (hl : lv_has ls 16 [(0, .ref (ad x0)), (4, .int x4), (9, .int x9), (10, .int x10), (11, .int x11), (12, .int x12), (14, .int x14), (15, .int x15)]) (G : aw_G D cA base ad σ d s H locs) : W p l e rm_L_isDesign s m args below meth c H locs cells slots (aw_Ej D cA base ad σ below args s 3 192 z) (F0 m 251 ls []) := by
  have hx := X.1; have hb := X.2.1; have hml := X.2.2.1; have hown := X.2.2.2.1
  unfold f_L_isDesign_J251 at hf
  refine lv_aload_n hx hb dL_isDesign_251 rfl (lv_at hl 0 rfl) ?_
  refine lv_iconst (v := (4 : Int32)) hx hb dL_isDesign_252 (by decide) ?_
  refine lv_iload hx hb dL_isDesign_253 (lv_at hl 1 rfl) ?_
  refine lv_iload hx hb dL_isDesign_255 (lv_at hl 2 rfl) ?_
  refine lv_iload hx hb dL_isDesign_257 (lv_at hl 3 rfl) ?_
  refine lv_iload hx hb dL_isDesign_259 (lv_at hl 4 rfl) ?_
  refine lv_if_eq (tgt := 268) hx hb dL_isDesign_261 (by decide) (fun hc => ?_) (fun hc => ?_)
  · have hf := aw_ite_t hc hf
    refine lv_iconst (v := (0 : Int32)) hx hb dL_isDesign_268 (by decide) ?_
    refine lv_iconst (v := (0 : Int32)) hx hb dL_isDesign_269 (by decide) ?_
    obtain ⟨z_25, hz_26, hf⟩ := aw_bind_some hf
    refine aw_WI2 (As := [.ref (ad x0), .int ((4 : Int32)), .int x4, .int x9, .int x10, .int ((0 : Int32)), .int ((0 : Int32))]) (rest := []) X G hl.1 cr_L_123 (c_L_does_4 l hst hz_26) rfl rfl rfl ⟨(Nat.le_of_ble_eq_true rfl), (Nat.le_of_ble_eq_true rfl)⟩ (Nat.le_of_ble_eq_true rfl) dL_isDesign_270 2 12 ⟨(Nat.le_of_ble_eq_true rfl), (Nat.le_of_ble_eq_true rfl)⟩ ⟨by show cells + 2 ≤ 3; omega, by show slots + 12 ≤ 192; omega⟩ (fun H locs G => ?_)
    refine lv_iload hx hb dL_isDesign_273 (lv_at hl 5 rfl) ?_
    refine lv_if_ne (tgt := 283) hx hb dL_isDesign_275 (by decide) (fun hc => ?_) (fun hc => ?_)
    · have hf := aw_ite_f hc hf
      refine lv_iload hx hb dL_isDesign_283 (lv_at hl 3 rfl) ?_
      refine lv_bipush (v := (50 : Int32)) hx hb dL_isDesign_285 (by decide) ?_
      refine lv_icmp_ne (tgt := 295) hx hb dL_isDesign_287 (by decide) (fun hc => ?_) (fun hc => ?_)
      · have hf := aw_ite_f hc hf
        refine lv_iload hx hb dL_isDesign_295 (lv_at hl 6 rfl) ?_
        refine lv_if_eq (tgt := 305) hx hb dL_isDesign_297 (by decide) (fun hc => ?_) (fun hc => ?_)
        · have hf := aw_ite_t hc hf
          refine lv_ldc (v := (-1000000 : Int32)) hx hb hown (G.1.hts _ m_761) dL_isDesign_305 ?_
          exact w_L_isDesign_J307 X hst hf ⟨by omega, by omega⟩  (lv_sub hl [] rfl) G
        · have hf := aw_ite_f hc hf
          refine lv_iload hx hb dL_isDesign_300 (lv_at hl 7 rfl) ?_
          refine lv_goto (tgt := 307) hx hb dL_isDesign_302 (by decide) ?_
          exact w_L_isDesign_J307 X hst hf ⟨by omega, by omega⟩  (lv_sub hl [] rfl) G
      · have hf := aw_ite_t hc hf
        refine lv_ldc (v := (-2000000 : Int32)) hx hb hown (G.1.hts _ m_760) dL_isDesign_290 ?_
        refine lv_goto (tgt := 307) hx hb dL_isDesign_292 (by decide) ?_
        exact w_L_isDesign_J307 X hst hf ⟨by omega, by omega⟩  (lv_sub hl [] rfl) G
    · have hf := aw_ite_t hc hf
      refine lv_ldc (v := (-3000000 : Int32)) hx hb hown (G.1.hts _ m_759) dL_isDesign_278 ?_
      refine lv_goto (tgt := 307) hx hb dL_isDesign_280 (by decide) ?_
      exact w_L_isDesign_J307 X hst hf ⟨by omega, by omega⟩  (lv_sub hl [] rfl) G
  · have hf := aw_ite_f hc hf
    refine lv_iconst (v := (1 : Int32)) hx hb dL_isDesign_264 (by decide) ?_
    refine lv_goto (tgt := 269) hx hb dL_isDesign_265 (by decide) ?_
    refine lv_iconst (v := (0 : Int32)) hx hb dL_isDesign_269 (by decide) ?_
    obtain ⟨z_28, hz_29, hf⟩ := aw_bind_some hf
    refine aw_WI2 (As := [.ref (ad x0), .int ((4 : Int32)), .int x4, .int x9, .int x10, .int ((1 : Int32)), .int ((0 : Int32))]) (rest := []) X G hl.1 cr_L_123 (c_L_does_4 l hst hz_29) rfl rfl rfl ⟨(Nat.le_of_ble_eq_true rfl), (Nat.le_of_ble_eq_true rfl)⟩ (Nat.le_of_ble_eq_true rfl) dL_isDesign_270 2 12 ⟨(Nat.le_of_ble_eq_true rfl), (Nat.le_of_ble_eq_true rfl)⟩ ⟨by show cells + 2 ≤ 3; omega, by show slots + 12 ≤ 192; omega⟩ (fun H locs G => ?_)
    refine lv_iload hx hb dL_isDesign_273 (lv_at hl 5 rfl) ?_
    refine lv_if_ne (tgt := 283) hx hb dL_isDesign_275 (by decide) (fun hc => ?_) (fun hc => ?_)
    · have hf := aw_ite_f hc hf
      refine lv_iload hx hb dL_isDesign_283 (lv_at hl 3 rfl) ?_
      refine lv_bipush (v := (50 : Int32)) hx hb dL_isDesign_285 (by decide) ?_
      refine lv_icmp_ne (tgt := 295) hx hb dL_isDesign_287 (by decide) (fun hc => ?_) (fun hc => ?_)
      · have hf := aw_ite_f hc hf
        refine lv_iload hx hb dL_isDesign_295 (lv_at hl 6 rfl) ?_
        refine lv_if_eq (tgt := 305) hx hb dL_isDesign_297 (by decide) (fun hc => ?_) (fun hc => ?_)
        · have hf := aw_ite_t hc hf
          refine lv_ldc (v := (-1000000 : Int32)) hx hb hown (G.1.hts _ m_761) dL_isDesign_305 ?_
          exact w_L_isDesign_J307 X hst hf ⟨by omega, by omega⟩  (lv_sub hl [] rfl) G
        · have hf := aw_ite_f hc hf
          refine lv_iload hx hb dL_isDesign_300 (lv_at hl 7 rfl) ?_
          refine lv_goto (tgt := 307) hx hb dL_isDesign_302 (by decide) ?_
          exact w_L_isDesign_J307 X hst hf ⟨by omega, by omega⟩  (lv_sub hl [] rfl) G
      · have hf := aw_ite_t hc hf
        refine lv_ldc (v := (-2000000 : Int32)) hx hb hown (G.1.hts _ m_760) dL_isDesign_290 ?_
        refine lv_goto (tgt := 307) hx hb dL_isDesign_292 (by decide) ?_
        exact w_L_isDesign_J307 X hst hf ⟨by omega, by omega⟩  (lv_sub hl [] rfl) G
    · have hf := aw_ite_t hc hf
      refine lv_ldc (v := (-3000000 : Int32)) hx hb hown (G.1.hts _ m_759) dL_isDesign_278 ?_
      refine lv_goto (tgt := 307) hx hb dL_isDesign_280 (by decide) ?_
      exact w_L_isDesign_J307 X hst hf ⟨by omega, by omega⟩  (lv_sub hl [] rfl) G
set_option maxHeartbeats 4000000 in
set_option maxRecDepth 100000 in
theorem w_L_isDesign_J238 {z : Int32 × Dt} (X : aw_X p c cL_isDesign 16 s RL m meth (some .boolean)) (hst : l.stackTraces = false) {t0 : Int32} {x0 : Nat} {x1 : Nat} {x4 : Int32} {x9 : Int32} {x10 : Int32} {x11 : Int32} {x12 : Int32} {x14 : Int32} {d : Dt} (hf : f_L_isDesign_J238 σ t0 x0 x1 x4 x9 x10 x11 x12 x14 d = some z) { cells slots : Nat} (hB : cells + (2) ≤ 3 ∧ slots + 64 * (2) ≤ 192)  {H : Heap} {locs : List Loc} {ls : Array Slot} (hl : lv_has ls 16 [(0, .ref (ad x0)), (1, .ref (ad x1)), (4, .int x4), (9, .int x9), (10, .int x10), (11, .int x11), (12, .int x12), (14, .int x14)]) (G : aw_G D cA base ad σ d s H locs) : W p l e rm_L_isDesign s m args below meth c H locs cells slots (aw_Ej D cA base ad σ below args s 3 192 z) (F0 m 238 ls [.int t0]) := by
  have hx := X.1; have hb := X.2.1; have hml := X.2.2.1; have hown := X.2.2.2.1
  unfold f_L_isDesign_J238 at hf
  refine lv_istore (lv' := [(15, .int t0), (0, .ref (ad x0)), (1, .ref (ad x1)), (4, .int x4), (9, .int x9), (10, .int x10), (11, .int x11), (12, .int x12), (14, .int x14)]) hx hb dL_isDesign_238 hl (by decide) rfl (fun ls hl => ?_)
  refine lv_iload hx hb dL_isDesign_240 (lv_at hl 8 rfl) ?_
  refine lv_if_eq (tgt := 251) hx hb dL_isDesign_242 (by decide) (fun hc => ?_) (fun hc => ?_)
  · have hf := aw_ite_t hc hf
    exact w_L_isDesign_J251 X hst hf ⟨by omega, by omega⟩  (lv_sub hl [1, 3, 4, 5, 6, 7, 8, 0] rfl) G
  · have hf := aw_ite_f hc hf
    refine lv_aload_n hx hb dL_isDesign_245 rfl (lv_at hl 2 rfl) ?_
    refine lv_iload hx hb dL_isDesign_246 (lv_at hl 4 rfl) ?_
    refine lv_iload hx hb dL_isDesign_248 (lv_at hl 5 rfl) ?_
    obtain ⟨hc_30, hf⟩ := aw_chk_some hf
    refine aw_ias hx hb G hc_30 dL_isDesign_250 (fun H locs G => ?_)
    exact w_L_isDesign_J251 X hst hf ⟨by omega, by omega⟩  (lv_sub hl [1, 3, 4, 5, 6, 7, 8, 0] rfl) G
set_option maxHeartbeats 4000000 in
set_option maxRecDepth 100000 in
theorem w_L_isDesign_J223 {z : Int32 × Dt} (X : aw_X p c cL_isDesign 16 s RL m meth (some .boolean)) (hst : l.stackTraces = false) {t0 : Int32} {x0 : Nat} {x1 : Nat} {x4 : Int32} {x9 : Int32} {x10 : Int32} {x11 : Int32} {x12 : Int32} {d : Dt} (hf : f_L_isDesign_J223 σ t0 x0 x1 x4 x9 x10 x11 x12 d = some z) { cells slots : Nat} (hB : cells + (2) ≤ 3 ∧ slots + 64 * (2) ≤ 192)  {H : Heap} {locs : List Loc} {ls : Array Slot} (hl : lv_has ls 16 [(0, .ref (ad x0)), (1, .ref (ad x1)), (4, .int x4), (9, .int x9), (10, .int x10), (11, .int x11), (12, .int x12)]) (G : aw_G D cA base ad σ d s H locs) : W p l e rm_L_isDesign s m args below meth c H locs cells slots (aw_Ej D cA base ad σ below args s 3 192 z) (F0 m 223 ls [.int t0]) := by
  have hx := X.1; have hb := X.2.1; have hml := X.2.2.1; have hown := X.2.2.2.1
  unfold f_L_isDesign_J223 at hf
  refine lv_istore (lv' := [(14, .int t0), (0, .ref (ad x0)), (1, .ref (ad x1)), (4, .int x4), (9, .int x9), (10, .int x10), (11, .int x11), (12, .int x12)]) hx hb dL_isDesign_223 hl (by decide) rfl (fun ls hl => ?_)
  refine lv_iload hx hb dL_isDesign_225 (lv_at hl 7 rfl) ?_
  refine lv_if_eq (tgt := 237) hx hb dL_isDesign_227 (by decide) (fun hc => ?_) (fun hc => ?_)
  · have hf := aw_ite_t hc hf
    refine lv_iconst (v := (0 : Int32)) hx hb dL_isDesign_237 (by decide) ?_
    exact w_L_isDesign_J238 X hst hf ⟨by omega, by omega⟩  (lv_sub hl [1, 2, 3, 4, 5, 6, 7, 0] rfl) G
  · have hf := aw_ite_f hc hf
    refine lv_aload_n hx hb dL_isDesign_230 rfl (lv_at hl 2 rfl) ?_
    refine lv_iload hx hb dL_isDesign_231 (lv_at hl 4 rfl) ?_
    obtain ⟨hc_31, hf⟩ := aw_chk_some hf
    refine aw_ial hx hb G hc_31 dL_isDesign_233 ?_
    refine lv_goto (tgt := 238) hx hb dL_isDesign_234 (by decide) ?_
    exact w_L_isDesign_J238 X hst hf ⟨by omega, by omega⟩  (lv_sub hl [1, 2, 3, 4, 5, 6, 7, 0] rfl) G
set_option maxHeartbeats 4000000 in
set_option maxRecDepth 100000 in
theorem w_L_isDesign_J222 {z : Int32 × Dt} (X : aw_X p c cL_isDesign 16 s RL m meth (some .boolean)) (hst : l.stackTraces = false) {x0 : Nat} {x1 : Nat} {x4 : Int32} {x9 : Int32} {x10 : Int32} {x11 : Int32} {x12 : Int32} {d : Dt} (hf : f_L_isDesign_J222 σ x0 x1 x4 x9 x10 x11 x12 d = some z) { cells slots : Nat} (hB : cells + (2) ≤ 3 ∧ slots + 64 * (2) ≤ 192)  {H : Heap} {locs : List Loc} {ls : Array Slot} (hl : lv_has ls 16 [(0, .ref (ad x0)), (1, .ref (ad x1)), (4, .int x4), (9, .int x9), (10, .int x10), (11, .int x11), (12, .int x12)]) (G : aw_G D cA base ad σ d s H locs) : W p l e rm_L_isDesign s m args below meth c H locs cells slots (aw_Ej D cA base ad σ below args s 3 192 z) (F0 m 222 ls []) := by
  have hx := X.1; have hb := X.2.1; have hml := X.2.2.1; have hown := X.2.2.2.1
  unfold f_L_isDesign_J222 at hf
  refine lv_iconst (v := (0 : Int32)) hx hb dL_isDesign_222 (by decide) ?_
  exact w_L_isDesign_J223 X hst hf ⟨by omega, by omega⟩  (lv_sub hl [0, 1, 2, 3, 4, 5, 6] rfl) G
set_option maxHeartbeats 4000000 in
set_option maxRecDepth 100000 in
theorem w_L_isDesign_J218 {z : Int32 × Dt} (X : aw_X p c cL_isDesign 16 s RL m meth (some .boolean)) (hst : l.stackTraces = false) {x0 : Nat} {x1 : Nat} {x4 : Int32} {x9 : Int32} {x10 : Int32} {x11 : Int32} {x12 : Int32} {d : Dt} (hf : f_L_isDesign_J218 σ x0 x1 x4 x9 x10 x11 x12 d = some z) { cells slots : Nat} (hB : cells + (2) ≤ 3 ∧ slots + 64 * (2) ≤ 192)  {H : Heap} {locs : List Loc} {ls : Array Slot} (hl : lv_has ls 16 [(0, .ref (ad x0)), (1, .ref (ad x1)), (4, .int x4), (9, .int x9), (10, .int x10), (11, .int x11), (12, .int x12)]) (G : aw_G D cA base ad σ d s H locs) : W p l e rm_L_isDesign s m args below meth c H locs cells slots (aw_Ej D cA base ad σ below args s 3 192 z) (F0 m 218 ls []) := by
  have hx := X.1; have hb := X.2.1; have hml := X.2.2.1; have hown := X.2.2.2.1
  unfold f_L_isDesign_J218 at hf
  refine lv_iconst (v := (1 : Int32)) hx hb dL_isDesign_218 (by decide) ?_
  refine lv_goto (tgt := 223) hx hb dL_isDesign_219 (by decide) ?_
  exact w_L_isDesign_J223 X hst hf ⟨by omega, by omega⟩  (lv_sub hl [0, 1, 2, 3, 4, 5, 6] rfl) G
set_option maxHeartbeats 4000000 in
set_option maxRecDepth 100000 in
theorem w_L_isDesign_J138 {z : Int32 × Dt} (X : aw_X p c cL_isDesign 16 s RL m meth (some .boolean)) (hst : l.stackTraces = false) {t0 : Int32} {x0 : Nat} {x1 : Nat} {x4 : Int32} {x9 : Int32} {x10 : Int32} {x11 : Int32} {d : Dt} (hf : f_L_isDesign_J138 σ t0 x0 x1 x4 x9 x10 x11 d = some z) { cells slots : Nat} (hB : cells + (2) ≤ 3 ∧ slots + 64 * (2) ≤ 192)  {H : Heap} {locs : List Loc} {ls : Array Slot} (hl : lv_has ls 16 [(0, .ref (ad x0)), (1, .ref (ad x1)), (4, .int x4), (9, .int x9), (10, .int x10), (11, .int x11)]) (G : aw_G D cA base ad σ d s H locs) : W p l e rm_L_isDesign s m args below meth c H locs cells slots (aw_Ej D cA base ad σ below args s 3 192 z) (F0 m 138 ls [.int t0]) := by
  have hx := X.1; have hb := X.2.1; have hml := X.2.2.1; have hown := X.2.2.2.1
  unfold f_L_isDesign_J138 at hf
  refine lv_istore (lv' := [(12, .int t0), (0, .ref (ad x0)), (1, .ref (ad x1)), (4, .int x4), (9, .int x9), (10, .int x10), (11, .int x11)]) hx hb dL_isDesign_138 hl (by decide) rfl (fun ls hl => ?_)
  refine lv_iconst (v := (0 : Int32)) hx hb dL_isDesign_140 (by decide) ?_
  refine lv_istore (lv' := [(13, .int ((0 : Int32))), (12, .int t0), (0, .ref (ad x0)), (1, .ref (ad x1)), (4, .int x4), (9, .int x9), (10, .int x10), (11, .int x11)]) hx hb dL_isDesign_141 hl (by decide) rfl (fun ls hl => ?_)
  refine lv_iconst (v := (0 : Int32)) hx hb dL_isDesign_143 (by decide) ?_
  refine lv_istore (lv' := [(14, .int ((0 : Int32))), (13, .int ((0 : Int32))), (12, .int t0), (0, .ref (ad x0)), (1, .ref (ad x1)), (4, .int x4), (9, .int x9), (10, .int x10), (11, .int x11)]) hx hb dL_isDesign_144 hl (by decide) rfl (fun ls hl => ?_)
  refine w_L_isDesign_L146 X hst aw_FU hf ⟨by omega, by omega⟩  (fun x13_23 d_24 hf cells slots hB H locs ls hl G => ?_) (lv_sub hl [3, 4, 5, 6, 7, 8, 2, 1, 0] rfl) G
  refine lv_iload hx hb dL_isDesign_196 (lv_at hl 6 rfl) ?_
  refine lv_if_eq (tgt := 222) hx hb dL_isDesign_198 (by decide) (fun hc => ?_) (fun hc => ?_)
  · have hf := aw_ite_t hc hf
    exact w_L_isDesign_J222 X hst hf ⟨by omega, by omega⟩  (lv_sub hl [0, 1, 2, 3, 4, 5, 6] rfl) G
  · have hf := aw_ite_f hc hf
    refine lv_iload hx hb dL_isDesign_201 (lv_at hl 4 rfl) ?_
    refine lv_bipush (v := (50 : Int32)) hx hb dL_isDesign_203 (by decide) ?_
    refine lv_icmp_ge (tgt := 222) hx hb dL_isDesign_205 (by decide) (fun hc => ?_) (fun hc => ?_)
    · have hf := aw_ite_t hc hf
      exact w_L_isDesign_J222 X hst hf ⟨by omega, by omega⟩  (lv_sub hl [0, 1, 2, 3, 4, 5, 6] rfl) G
    · have hf := aw_ite_f hc hf
      refine lv_iload hx hb dL_isDesign_208 (lv_at hl 5 rfl) ?_
      refine lv_if_ne (tgt := 218) hx hb dL_isDesign_210 (by decide) (fun hc => ?_) (fun hc => ?_)
      · have hf := aw_ite_f hc hf
        exact w_L_isDesign_J218 X hst hf ⟨by omega, by omega⟩  (lv_sub hl [0, 1, 2, 3, 4, 5, 6] rfl) G
      · have hf := aw_ite_t hc hf
        refine lv_iload hx hb dL_isDesign_213 (lv_at hl 7 rfl) ?_
        refine lv_if_ne (tgt := 222) hx hb dL_isDesign_215 (by decide) (fun hc => ?_) (fun hc => ?_)
        · have hf := aw_ite_f hc hf
          exact w_L_isDesign_J222 X hst hf ⟨by omega, by omega⟩  (lv_sub hl [0, 1, 2, 3, 4, 5, 6] rfl) G
        · have hf := aw_ite_t hc hf
          exact w_L_isDesign_J218 X hst hf ⟨by omega, by omega⟩  (lv_sub hl [0, 1, 2, 3, 4, 5, 6] rfl) G
set_option maxHeartbeats 4000000 in
set_option maxRecDepth 100000 in
theorem w_L_isDesign_J137 {z : Int32 × Dt} (X : aw_X p c cL_isDesign 16 s RL m meth (some .boolean)) (hst : l.stackTraces = false) {x0 : Nat} {x1 : Nat} {x4 : Int32} {x9 : Int32} {x10 : Int32} {x11 : Int32} {d : Dt} (hf : f_L_isDesign_J137 σ x0 x1 x4 x9 x10 x11 d = some z) { cells slots : Nat} (hB : cells + (2) ≤ 3 ∧ slots + 64 * (2) ≤ 192)  {H : Heap} {locs : List Loc} {ls : Array Slot} (hl : lv_has ls 16 [(0, .ref (ad x0)), (1, .ref (ad x1)), (4, .int x4), (9, .int x9), (10, .int x10), (11, .int x11)]) (G : aw_G D cA base ad σ d s H locs) : W p l e rm_L_isDesign s m args below meth c H locs cells slots (aw_Ej D cA base ad σ below args s 3 192 z) (F0 m 137 ls []) := by
  have hx := X.1; have hb := X.2.1; have hml := X.2.2.1; have hown := X.2.2.2.1
  unfold f_L_isDesign_J137 at hf
  refine lv_iconst (v := (0 : Int32)) hx hb dL_isDesign_137 (by decide) ?_
  exact w_L_isDesign_J138 X hst hf ⟨by omega, by omega⟩  (lv_sub hl [0, 1, 2, 3, 4, 5] rfl) G
set_option maxHeartbeats 4000000 in
set_option maxRecDepth 100000 in
theorem w_L_isDesign_J117 {z : Int32 × Dt} (X : aw_X p c cL_isDesign 16 s RL m meth (some .boolean)) (hst : l.stackTraces = false) {t0 : Int32} {x0 : Nat} {x1 : Nat} {x4 : Int32} {x8 : Int32} {x9 : Int32} {x10 : Int32} {d : Dt} (hf : f_L_isDesign_J117 σ t0 x0 x1 x4 x8 x9 x10 d = some z) { cells slots : Nat} (hB : cells + (2) ≤ 3 ∧ slots + 64 * (2) ≤ 192)  {H : Heap} {locs : List Loc} {ls : Array Slot} (hl : lv_has ls 16 [(0, .ref (ad x0)), (1, .ref (ad x1)), (4, .int x4), (8, .int x8), (9, .int x9), (10, .int x10)]) (G : aw_G D cA base ad σ d s H locs) : W p l e rm_L_isDesign s m args below meth c H locs cells slots (aw_Ej D cA base ad σ below args s 3 192 z) (F0 m 117 ls [.int t0]) := by
  have hx := X.1; have hb := X.2.1; have hml := X.2.2.1; have hown := X.2.2.2.1
  unfold f_L_isDesign_J117 at hf
  refine lv_istore (lv' := [(11, .int t0), (0, .ref (ad x0)), (1, .ref (ad x1)), (4, .int x4), (8, .int x8), (9, .int x9), (10, .int x10)]) hx hb dL_isDesign_117 hl (by decide) rfl (fun ls hl => ?_)
  refine lv_iload hx hb dL_isDesign_119 (lv_at hl 4 rfl) ?_
  refine lv_if_eq (tgt := 137) hx hb dL_isDesign_121 (by decide) (fun hc => ?_) (fun hc => ?_)
  · have hf := aw_ite_t hc hf
    exact w_L_isDesign_J137 X hst hf ⟨by omega, by omega⟩  (lv_sub hl [1, 2, 3, 5, 6, 0] rfl) G
  · have hf := aw_ite_f hc hf
    refine lv_aload_n hx hb dL_isDesign_124 rfl (lv_at hl 2 rfl) ?_
    refine lv_iload hx hb dL_isDesign_125 (lv_at hl 5 rfl) ?_
    obtain ⟨z_32, hz_33, hf⟩ := aw_bind_some hf
    refine aw_SI (As := [.ref (ad x1), .int x9]) (rest := []) X G hl.1 cr_L_104 (c_L_isUnit l hz_33) ⟨rfl, rfl⟩ rfl rfl rfl ⟨(Nat.le_of_ble_eq_true rfl), (Nat.le_of_ble_eq_true rfl)⟩ (Nat.le_of_ble_eq_true rfl) dL_isDesign_127 ⟨by show cells + 0 ≤ 3; omega, by show slots + 0 ≤ 192; omega⟩ (fun H locs G => ?_)
    refine lv_if_eq (tgt := 137) hx hb dL_isDesign_130 (by decide) (fun hc => ?_) (fun hc => ?_)
    · have hf := aw_ite_t hc hf
      exact w_L_isDesign_J137 X hst hf ⟨by omega, by omega⟩  (lv_sub hl [1, 2, 3, 5, 6, 0] rfl) G
    · have hf := aw_ite_f hc hf
      refine lv_iconst (v := (1 : Int32)) hx hb dL_isDesign_133 (by decide) ?_
      refine lv_goto (tgt := 138) hx hb dL_isDesign_134 (by decide) ?_
      exact w_L_isDesign_J138 X hst hf ⟨by omega, by omega⟩  (lv_sub hl [1, 2, 3, 5, 6, 0] rfl) G
set_option maxHeartbeats 4000000 in
set_option maxRecDepth 100000 in
theorem w_L_isDesign_J100 {z : Int32 × Dt} (X : aw_X p c cL_isDesign 16 s RL m meth (some .boolean)) (hst : l.stackTraces = false) {t0 : Int32} {x0 : Nat} {x1 : Nat} {x4 : Int32} {x7 : Int32} {x8 : Int32} {x9 : Int32} {d : Dt} (hf : f_L_isDesign_J100 σ t0 x0 x1 x4 x7 x8 x9 d = some z) { cells slots : Nat} (hB : cells + (2) ≤ 3 ∧ slots + 64 * (2) ≤ 192)  {H : Heap} {locs : List Loc} {ls : Array Slot} (hl : lv_has ls 16 [(0, .ref (ad x0)), (1, .ref (ad x1)), (4, .int x4), (7, .int x7), (8, .int x8), (9, .int x9)]) (G : aw_G D cA base ad σ d s H locs) : W p l e rm_L_isDesign s m args below meth c H locs cells slots (aw_Ej D cA base ad σ below args s 3 192 z) (F0 m 100 ls [.int t0]) := by
  have hx := X.1; have hb := X.2.1; have hml := X.2.2.1; have hown := X.2.2.2.1
  unfold f_L_isDesign_J100 at hf
  refine lv_istore (lv' := [(10, .int t0), (0, .ref (ad x0)), (1, .ref (ad x1)), (4, .int x4), (7, .int x7), (8, .int x8), (9, .int x9)]) hx hb dL_isDesign_100 hl (by decide) rfl (fun ls hl => ?_)
  refine lv_iload hx hb dL_isDesign_102 (lv_at hl 4 rfl) ?_
  refine lv_bipush (v := (7 : Int32)) hx hb dL_isDesign_104 (by decide) ?_
  refine lv_idiv hx hb dL_isDesign_106 (by decide) ?_
  refine lv_iconst (v := (3 : Int32)) hx hb dL_isDesign_107 (by decide) ?_
  refine lv_irem hx hb dL_isDesign_108 (by decide) ?_
  refine lv_if_le (tgt := 116) hx hb dL_isDesign_109 (by decide) (fun hc => ?_) (fun hc => ?_)
  · have hf := aw_ite_t hc hf
    refine lv_iconst (v := (0 : Int32)) hx hb dL_isDesign_116 (by decide) ?_
    exact w_L_isDesign_J117 X hst hf ⟨by omega, by omega⟩  (lv_sub hl [1, 2, 3, 5, 6, 0] rfl) G
  · have hf := aw_ite_f hc hf
    refine lv_iconst (v := (1 : Int32)) hx hb dL_isDesign_112 (by decide) ?_
    refine lv_goto (tgt := 117) hx hb dL_isDesign_113 (by decide) ?_
    exact w_L_isDesign_J117 X hst hf ⟨by omega, by omega⟩  (lv_sub hl [1, 2, 3, 5, 6, 0] rfl) G
set_option maxHeartbeats 4000000 in
set_option maxRecDepth 100000 in
theorem w_L_isDesign_J59 {z : Int32 × Dt} (X : aw_X p c cL_isDesign 16 s RL m meth (some .boolean)) (hst : l.stackTraces = false) {t0 : Int32} {x0 : Nat} {x1 : Nat} {x4 : Int32} {x7 : Int32} {x8 : Int32} {d : Dt} (hf : f_L_isDesign_J59 σ t0 x0 x1 x4 x7 x8 d = some z) { cells slots : Nat} (hB : cells + (2) ≤ 3 ∧ slots + 64 * (2) ≤ 192)  {H : Heap} {locs : List Loc} {ls : Array Slot} (hl : lv_has ls 16 [(0, .ref (ad x0)), (1, .ref (ad x1)), (4, .int x4), (7, .int x7), (8, .int x8)]) (G : aw_G D cA base ad σ d s H locs) : W p l e rm_L_isDesign s m args below meth c H locs cells slots (aw_Ej D cA base ad σ below args s 3 192 z) (F0 m 59 ls [.int t0]) := by
  have hx := X.1; have hb := X.2.1; have hml := X.2.2.1; have hown := X.2.2.2.1
  unfold f_L_isDesign_J59 at hf
  refine lv_istore (lv' := [(9, .int t0), (0, .ref (ad x0)), (1, .ref (ad x1)), (4, .int x4), (7, .int x7), (8, .int x8)]) hx hb dL_isDesign_59 hl (by decide) rfl (fun ls hl => ?_)
  refine lv_iload hx hb dL_isDesign_61 (lv_at hl 4 rfl) ?_
  refine lv_bipush (v := (19 : Int32)) hx hb dL_isDesign_63 (by decide) ?_
  refine lv_irem hx hb dL_isDesign_65 (by decide) ?_
  refine lv_bipush (v := (18 : Int32)) hx hb dL_isDesign_66 (by decide) ?_
  refine lv_icmp_ne (tgt := 76) hx hb dL_isDesign_68 (by decide) (fun hc => ?_) (fun hc => ?_)
  · have hf := aw_ite_f hc hf
    refine lv_iload hx hb dL_isDesign_76 (lv_at hl 4 rfl) ?_
    refine lv_iconst (v := (3 : Int32)) hx hb dL_isDesign_78 (by decide) ?_
    refine lv_irem hx hb dL_isDesign_79 (by decide) ?_
    refine lv_if_ne (tgt := 93) hx hb dL_isDesign_80 (by decide) (fun hc => ?_) (fun hc => ?_)
    · have hf := aw_ite_f hc hf
      refine lv_iload hx hb dL_isDesign_93 (lv_at hl 4 rfl) ?_
      refine lv_iconst (v := (3 : Int32)) hx hb dL_isDesign_95 (by decide) ?_
      refine lv_idiv hx hb dL_isDesign_96 (by decide) ?_
      refine lv_bipush (v := (6 : Int32)) hx hb dL_isDesign_97 (by decide) ?_
      refine lv_irem hx hb dL_isDesign_99 (by decide) ?_
      exact w_L_isDesign_J100 X hst hf ⟨by omega, by omega⟩  (lv_sub hl [1, 2, 3, 4, 5, 0] rfl) G
    · have hf := aw_ite_t hc hf
      refine lv_iload hx hb dL_isDesign_83 (lv_at hl 4 rfl) ?_
      refine lv_iconst (v := (3 : Int32)) hx hb dL_isDesign_85 (by decide) ?_
      refine lv_idiv hx hb dL_isDesign_86 (by decide) ?_
      refine lv_bipush (v := (50 : Int32)) hx hb dL_isDesign_87 (by decide) ?_
      refine lv_irem hx hb dL_isDesign_89 (by decide) ?_
      refine lv_goto (tgt := 100) hx hb dL_isDesign_90 (by decide) ?_
      exact w_L_isDesign_J100 X hst hf ⟨by omega, by omega⟩  (lv_sub hl [1, 2, 3, 4, 5, 0] rfl) G
  · have hf := aw_ite_t hc hf
    refine lv_bipush (v := (50 : Int32)) hx hb dL_isDesign_71 (by decide) ?_
    refine lv_goto (tgt := 100) hx hb dL_isDesign_73 (by decide) ?_
    exact w_L_isDesign_J100 X hst hf ⟨by omega, by omega⟩  (lv_sub hl [1, 2, 3, 4, 5, 0] rfl) G
set_option maxHeartbeats 4000000 in
set_option maxRecDepth 100000 in
theorem w_L_isDesign_J13 {z : Int32 × Dt} (X : aw_X p c cL_isDesign 16 s RL m meth (some .boolean)) (hst : l.stackTraces = false) {t0 : Int32} {x0 : Nat} {x1 : Nat} {x2 : Nat} {x4 : Int32} {x5 : Int32} {x6 : Int32} {x7 : Int32} {d : Dt} (hf : f_L_isDesign_J13 σ t0 x0 x1 x2 x4 x5 x6 x7 d = some z) { cells slots : Nat} (hB : cells + (3) ≤ 3 ∧ slots + 64 * (3) ≤ 192)  {H : Heap} {locs : List Loc} {ls : Array Slot} (hl : lv_has ls 16 [(0, .ref (ad x0)), (1, .ref (ad x1)), (2, .ref (ad x2)), (4, .int x4), (5, .int x5), (6, .int x6), (7, .int x7)]) (G : aw_G D cA base ad σ d s H locs) : W p l e rm_L_isDesign s m args below meth c H locs cells slots (aw_Ej D cA base ad σ below args s 3 192 z) (F0 m 13 ls [.int t0]) := by
  have hx := X.1; have hb := X.2.1; have hml := X.2.2.1; have hown := X.2.2.2.1
  unfold f_L_isDesign_J13 at hf
  refine lv_istore (lv' := [(8, .int t0), (0, .ref (ad x0)), (1, .ref (ad x1)), (2, .ref (ad x2)), (4, .int x4), (5, .int x5), (6, .int x6), (7, .int x7)]) hx hb dL_isDesign_13 hl (by decide) rfl (fun ls hl => ?_)
  refine lv_iload hx hb dL_isDesign_15 (lv_at hl 5 rfl) ?_
  refine lv_if_ne (tgt := 316) hx hb dL_isDesign_17 (by decide) (fun hc => ?_) (fun hc => ?_)
  · have hf := aw_ite_f hc hf
    refine lv_iload hx hb dL_isDesign_316 (lv_at hl 5 rfl) ?_
    refine lv_iconst (v := (1 : Int32)) hx hb dL_isDesign_318 (by decide) ?_
    refine lv_icmp_ne (tgt := 412) hx hb dL_isDesign_319 (by decide) (fun hc => ?_) (fun hc => ?_)
    · have hf := aw_ite_f hc hf
      refine lv_iload hx hb dL_isDesign_412 (lv_at hl 6 rfl) ?_
      refine lv_bipush (v := (23 : Int32)) hx hb dL_isDesign_414 (by decide) ?_
      refine lv_irem hx hb dL_isDesign_416 (by decide) ?_
      refine lv_bipush (v := (22 : Int32)) hx hb dL_isDesign_417 (by decide) ?_
      refine lv_icmp_ne (tgt := 427) hx hb dL_isDesign_419 (by decide) (fun hc => ?_) (fun hc => ?_)
      · have hf := aw_ite_f hc hf
        refine lv_iload hx hb dL_isDesign_427 (lv_at hl 6 rfl) ?_
        refine lv_bipush (v := (50 : Int32)) hx hb dL_isDesign_429 (by decide) ?_
        refine lv_irem hx hb dL_isDesign_431 (by decide) ?_
        exact w_L_isDesign_J432 X hst hf ⟨by omega, by omega⟩  (lv_sub hl [1, 3, 4, 7, 0] rfl) G
      · have hf := aw_ite_t hc hf
        refine lv_bipush (v := (50 : Int32)) hx hb dL_isDesign_422 (by decide) ?_
        refine lv_goto (tgt := 432) hx hb dL_isDesign_424 (by decide) ?_
        exact w_L_isDesign_J432 X hst hf ⟨by omega, by omega⟩  (lv_sub hl [1, 3, 4, 7, 0] rfl) G
    · have hf := aw_ite_t hc hf
      refine lv_iload hx hb dL_isDesign_322 (lv_at hl 0 rfl) ?_
      refine lv_if_ne (tgt := 329) hx hb dL_isDesign_324 (by decide) (fun hc => ?_) (fun hc => ?_)
      · have hf := aw_ite_f hc hf
        refine lv_iload hx hb dL_isDesign_329 (lv_at hl 6 rfl) ?_
        refine lv_iconst (v := (3 : Int32)) hx hb dL_isDesign_331 (by decide) ?_
        refine lv_irem hx hb dL_isDesign_332 (by decide) ?_
        refine lv_istore (lv' := [(9, .int (x6 - x6 / (3 : Int32) * (3 : Int32))), (8, .int t0), (0, .ref (ad x0)), (1, .ref (ad x1)), (2, .ref (ad x2)), (4, .int x4), (5, .int x5), (6, .int x6), (7, .int x7)]) hx hb dL_isDesign_333 hl (by decide) rfl (fun ls hl => ?_)
        refine lv_aload_n hx hb dL_isDesign_335 rfl (lv_at hl 3 rfl) ?_
        refine lv_bipush (v := (49 : Int32)) hx hb dL_isDesign_336 (by decide) ?_
        obtain ⟨hc_10, hf⟩ := aw_chk_some hf
        refine aw_ial hx hb G hc_10 dL_isDesign_338 ?_
        refine lv_iload hx hb dL_isDesign_339 (lv_at hl 0 rfl) ?_
        refine lv_ishr hx hb dL_isDesign_341 ?_
        refine lv_iconst (v := (1 : Int32)) hx hb dL_isDesign_342 (by decide) ?_
        refine lv_iand hx hb dL_isDesign_343 ?_
        refine lv_iconst (v := (1 : Int32)) hx hb dL_isDesign_344 (by decide) ?_
        refine lv_icmp_ne (tgt := 352) hx hb dL_isDesign_345 (by decide) (fun hc => ?_) (fun hc => ?_)
        · have hf := aw_ite_f hc hf
          refine lv_iconst (v := (0 : Int32)) hx hb dL_isDesign_352 (by decide) ?_
          exact w_L_isDesign_J353 X hst hf ⟨by omega, by omega⟩  (lv_sub hl [2, 3, 5, 8, 0] rfl) G
        · have hf := aw_ite_t hc hf
          refine lv_iconst (v := (1 : Int32)) hx hb dL_isDesign_348 (by decide) ?_
          refine lv_goto (tgt := 353) hx hb dL_isDesign_349 (by decide) ?_
          exact w_L_isDesign_J353 X hst hf ⟨by omega, by omega⟩  (lv_sub hl [2, 3, 5, 8, 0] rfl) G
      · have hf := aw_ite_t hc hf
        refine lv_iconst (v := (1 : Int32)) hx hb dL_isDesign_327 (by decide) ?_
        obtain ⟨hc_19, hf⟩ := aw_chk_some hf
        exact aw_retjZ X G hf hc_19 dL_isDesign_328 (by omega) (by omega)
  · have hf := aw_ite_t hc hf
    refine lv_iload hx hb dL_isDesign_20 (lv_at hl 6 rfl) ?_
    refine lv_bipush (v := (17 : Int32)) hx hb dL_isDesign_22 (by decide) ?_
    refine lv_irem hx hb dL_isDesign_24 (by decide) ?_
    refine lv_bipush (v := (16 : Int32)) hx hb dL_isDesign_25 (by decide) ?_
    refine lv_icmp_ne (tgt := 35) hx hb dL_isDesign_27 (by decide) (fun hc => ?_) (fun hc => ?_)
    · have hf := aw_ite_f hc hf
      refine lv_iload hx hb dL_isDesign_35 (lv_at hl 6 rfl) ?_
      refine lv_iconst (v := (3 : Int32)) hx hb dL_isDesign_37 (by decide) ?_
      refine lv_irem hx hb dL_isDesign_38 (by decide) ?_
      refine lv_if_ne (tgt := 54) hx hb dL_isDesign_39 (by decide) (fun hc => ?_) (fun hc => ?_)
      · have hf := aw_ite_f hc hf
        refine lv_iload hx hb dL_isDesign_54 (lv_at hl 6 rfl) ?_
        refine lv_bipush (v := (12 : Int32)) hx hb dL_isDesign_56 (by decide) ?_
        refine lv_irem hx hb dL_isDesign_58 (by decide) ?_
        exact w_L_isDesign_J59 X hst hf ⟨by omega, by omega⟩  (lv_sub hl [1, 2, 4, 7, 0] rfl) G
      · have hf := aw_ite_t hc hf
        refine lv_bipush (v := (44 : Int32)) hx hb dL_isDesign_42 (by decide) ?_
        refine lv_iload hx hb dL_isDesign_44 (lv_at hl 6 rfl) ?_
        refine lv_iconst (v := (3 : Int32)) hx hb dL_isDesign_46 (by decide) ?_
        refine lv_idiv hx hb dL_isDesign_47 (by decide) ?_
        refine lv_iconst (v := (3 : Int32)) hx hb dL_isDesign_48 (by decide) ?_
        refine lv_irem hx hb dL_isDesign_49 (by decide) ?_
        refine lv_iadd hx hb dL_isDesign_50 ?_
        refine lv_goto (tgt := 59) hx hb dL_isDesign_51 (by decide) ?_
        exact w_L_isDesign_J59 X hst hf ⟨by omega, by omega⟩  (lv_sub hl [1, 2, 4, 7, 0] rfl) G
    · have hf := aw_ite_t hc hf
      refine lv_bipush (v := (47 : Int32)) hx hb dL_isDesign_30 (by decide) ?_
      refine lv_goto (tgt := 59) hx hb dL_isDesign_32 (by decide) ?_
      exact w_L_isDesign_J59 X hst hf ⟨by omega, by omega⟩  (lv_sub hl [1, 2, 4, 7, 0] rfl) G
end W_L_isDesign
set_option maxHeartbeats 4000000 in
set_option maxRecDepth 100000 in
theorem c_L_isDesign (l : Launch) (hst : l.stackTraces = false) {σ : Sg} {x0 : Nat} {x1 : Nat} {x2 : Nat} {x3 : Nat} {x4 : Int32} {x5 : Int32} {x6 : Int32} {x7 : Int32} {d : Dt} {z : Int32 × Dt} (hf : f_L_isDesign σ x0 x1 x2 x3 x4 x5 x6 x7 d = some z) : aw_Mi l yL_isDesign (Cond.code yL_isDesign cL_isDesign 16 (some .boolean)) rm_L_isDesign (fun ad => [.ref (ad x0), .ref (ad x1), .ref (ad x2), .ref (ad x3), .int x4, .int x5, .int x6, .int x7]) σ d z := by
  intro D cA base ad
  refine aw_ofW (own := RL) (cc := cL_isDesign) (nL := 16) (ret := some .boolean) (by decide) rfl rfl ?_
  intro p e s m below meth c X hnm G
  have hx := X.1; have hb := X.2.1; have hml := X.2.2.1; have hown := X.2.2.2.1
  refine aw_ls (lv := [(0, .ref (ad x0)), (1, .ref (ad x1)), (2, .ref (ad x2)), (3, .ref (ad x3)), (4, .int x4), (5, .int x5), (6, .int x6), (7, .int x7)]) (Nat.le_of_ble_eq_true rfl) rfl (fun ls hl => ?_)
  have hB : 0 + 3 ≤ 3 ∧ 0 + 64 * 3 ≤ 192 := by decide
  unfold f_L_isDesign at hf
  refine lv_iload hx hb dL_isDesign_0 (lv_at hl 4 rfl) ?_
  refine lv_aload_n hx hb dL_isDesign_2 rfl (lv_at hl 3 rfl) ?_
  refine lv_iconst (v := (1 : Int32)) hx hb dL_isDesign_3 (by decide) ?_
  obtain ⟨hc_1, hf⟩ := aw_chk_some hf
  refine aw_ial hx hb G hc_1 dL_isDesign_4 ?_
  refine lv_icmp_ge (tgt := 12) hx hb dL_isDesign_5 (by decide) (fun hc => ?_) (fun hc => ?_)
  · have hf := aw_ite_t hc hf
    refine lv_iconst (v := (0 : Int32)) hx hb dL_isDesign_12 (by decide) ?_
    exact w_L_isDesign_J13 X hst hf ⟨by omega, by omega⟩  (lv_sub hl [0, 1, 2, 4, 5, 6, 7] rfl) G
  · have hf := aw_ite_f hc hf
    refine lv_iconst (v := (1 : Int32)) hx hb dL_isDesign_8 (by decide) ?_
    refine lv_goto (tgt := 13) hx hb dL_isDesign_9 (by decide) ?_
    exact w_L_isDesign_J13 X hst hf ⟨by omega, by omega⟩  (lv_sub hl [0, 1, 2, 4, 5, 6, 7] rfl) G
