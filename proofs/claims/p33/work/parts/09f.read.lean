def rm_L_readings : Room := { frames := 2, cells := 2, slots := 128, locals := 48 }
def f_L_readings_B38 (kb38 : Int32 → Sg → Dt → Option (Int64 × Dt)) (k38 : Sg → Dt → Option (Int64 × Dt)) (x0 : Nat) (x1 : Nat) (x2 : Int32) (x3 : Int32) (x4 : Nat) (x5 : Int64) (x7 : Nat) (x8 : Int32) (x9 : Int32) (σ : Sg) (d : Dt) : Option (Int64 × Dt) :=
  if x3 < x9 then k38 σ d else aw_chk (aw_I σ 21 x7 x9) (kb38 (x9 + 1) σ (aw_sL d x7 x9.toNatClampNeg ((0 : Int64))))
def f_L_readings_L38 (n : Nat) (k38 : Sg → Dt → Option (Int64 × Dt)) (x0 : Nat) (x1 : Nat) (x2 : Int32) (x3 : Int32) (x4 : Nat) (x5 : Int64) (x7 : Nat) (x8 : Int32) : Int32 → Sg → Dt → Option (Int64 × Dt) := match n with
  | 0 => fun _ _ _ => none
  | n + 1 => fun x9 σ d => f_L_readings_B38 (f_L_readings_L38 n k38 x0 x1 x2 x3 x4 x5 x7 x8) k38 x0 x1 x2 x3 x4 x5 x7 x8 x9 σ d
def f_L_readings_J163 (kb117 : Int32 → Int32 → Sg → Dt → Option (Int64 × Dt)) (t0 : Int32) (x0 : Nat) (x1 : Nat) (x2 : Int32) (x3 : Int32) (x4 : Nat) (x5 : Int64) (x7 : Nat) (x8 : Int32) (x9 : Int32) (x10 : Int64) (x12 : Int32) (x13 : Int32) (x15 : Int32) (σ : Sg) (d : Dt) : Option (Int64 × Dt) :=
  kb117 t0 (x15 + 1) σ d
def f_L_readings_B117 (kb117 : Int32 → Int32 → Sg → Dt → Option (Int64 × Dt)) (k117 : Int32 → Sg → Dt → Option (Int64 × Dt)) (x0 : Nat) (x1 : Nat) (x2 : Int32) (x3 : Int32) (x4 : Nat) (x5 : Int64) (x7 : Nat) (x8 : Int32) (x9 : Int32) (x10 : Int64) (x12 : Int32) (x13 : Int32) (x14 : Int32) (x15 : Int32) (σ : Sg) (d : Dt) : Option (Int64 × Dt) :=
  if x12 ≤ x15 then k117 x14 σ d else if x14 = 0 then k117 x14 σ d else (f_L_sign σ x1 x2 (x13 + x15) d).bind (fun z_36 => if (lg_cmp ((z_36.1 + ((1 : Int32))).toInt64) ((x10 >>> ((((6 : Int32)) * x15).toInt64 &&& 63)) &&& ((63 : Int64)))) = 0 then f_L_readings_J163 kb117 ((1 : Int32)) x0 x1 x2 x3 x4 x5 x7 x8 x9 x10 x12 x13 x15 σ z_36.2 else f_L_readings_J163 kb117 ((0 : Int32)) x0 x1 x2 x3 x4 x5 x7 x8 x9 x10 x12 x13 x15 σ z_36.2)
def f_L_readings_L117 (n : Nat) (k117 : Int32 → Sg → Dt → Option (Int64 × Dt)) (x0 : Nat) (x1 : Nat) (x2 : Int32) (x3 : Int32) (x4 : Nat) (x5 : Int64) (x7 : Nat) (x8 : Int32) (x9 : Int32) (x10 : Int64) (x12 : Int32) (x13 : Int32) : Int32 → Int32 → Sg → Dt → Option (Int64 × Dt) := match n with
  | 0 => fun _ _ _ _ => none
  | n + 1 => fun x14 x15 σ d => f_L_readings_B117 (f_L_readings_L117 n k117 x0 x1 x2 x3 x4 x5 x7 x8 x9 x10 x12 x13) k117 x0 x1 x2 x3 x4 x5 x7 x8 x9 x10 x12 x13 x14 x15 σ d
def f_L_readings_J194 (kb85 : Int32 → Sg → Dt → Option (Int64 × Dt)) (t3 : Int64) (t2 : Int64) (t1 : Int32) (t0 : Nat) (x0 : Nat) (x1 : Nat) (x2 : Int32) (x3 : Int32) (x4 : Nat) (x5 : Int64) (x7 : Nat) (x8 : Int32) (x9 : Int32) (x10 : Int64) (x12 : Int32) (x13 : Int32) (σ : Sg) (d : Dt) : Option (Int64 × Dt) :=
  aw_chk (aw_I σ 21 t0 t1) (kb85 (x13 + 1) σ (aw_sL d t0 t1.toNatClampNeg (t2 + t3)))
def f_L_readings_J171 (kb85 : Int32 → Sg → Dt → Option (Int64 × Dt)) (x0 : Nat) (x1 : Nat) (x2 : Int32) (x3 : Int32) (x4 : Nat) (x5 : Int64) (x7 : Nat) (x8 : Int32) (x9 : Int32) (x10 : Int64) (x12 : Int32) (x13 : Int32) (x14 : Int32) (σ : Sg) (d : Dt) : Option (Int64 × Dt) :=
  aw_chk (aw_I σ 21 x7 x13) (if x14 = 0 then f_L_readings_J194 kb85 ((0 : Int64)) (d.2 x7 x13.toNatClampNeg) x13 x7 x0 x1 x2 x3 x4 x5 x7 x8 x9 x10 x12 x13 σ d else aw_chk (aw_I σ 21 x4 (x13 + x12)) (f_L_readings_J194 kb85 (d.2 x4 (x13 + x12).toNatClampNeg) (d.2 x7 x13.toNatClampNeg) x13 x7 x0 x1 x2 x3 x4 x5 x7 x8 x9 x10 x12 x13 σ d))
def f_L_readings_J112 (kb85 : Int32 → Sg → Dt → Option (Int64 × Dt)) (t0 : Int32) (x0 : Nat) (x1 : Nat) (x2 : Int32) (x3 : Int32) (x4 : Nat) (x5 : Int64) (x7 : Nat) (x8 : Int32) (x9 : Int32) (x10 : Int64) (x12 : Int32) (x13 : Int32) (σ : Sg) (d : Dt) : Option (Int64 × Dt) :=
  f_L_readings_L117 aw_FU (fun x14_38 σ_40 d_39 => f_L_readings_J171 kb85 x0 x1 x2 x3 x4 x5 x7 x8 x9 x10 x12 x13 x14_38 σ_40 d_39) x0 x1 x2 x3 x4 x5 x7 x8 x9 x10 x12 x13 t0 ((0 : Int32)) σ d
def f_L_readings_B85 (kb85 : Int32 → Sg → Dt → Option (Int64 × Dt)) (k85 : Sg → Dt → Option (Int64 × Dt)) (x0 : Nat) (x1 : Nat) (x2 : Int32) (x3 : Int32) (x4 : Nat) (x5 : Int64) (x7 : Nat) (x8 : Int32) (x9 : Int32) (x10 : Int64) (x12 : Int32) (x13 : Int32) (σ : Sg) (d : Dt) : Option (Int64 × Dt) :=
  if x3 < (x13 + x12) then k85 σ d else aw_chk (aw_I σ 21 x4 (x13 + x12)) (if (lg_cmp (d.2 x4 (x13 + x12).toNatClampNeg) ((0 : Int64))) ≤ 0 then f_L_readings_J112 kb85 ((0 : Int32)) x0 x1 x2 x3 x4 x5 x7 x8 x9 x10 x12 x13 σ d else f_L_readings_J112 kb85 ((1 : Int32)) x0 x1 x2 x3 x4 x5 x7 x8 x9 x10 x12 x13 σ d)
def f_L_readings_L85 (n : Nat) (k85 : Sg → Dt → Option (Int64 × Dt)) (x0 : Nat) (x1 : Nat) (x2 : Int32) (x3 : Int32) (x4 : Nat) (x5 : Int64) (x7 : Nat) (x8 : Int32) (x9 : Int32) (x10 : Int64) (x12 : Int32) : Int32 → Sg → Dt → Option (Int64 × Dt) := match n with
  | 0 => fun _ _ _ => none
  | n + 1 => fun x13 σ d => f_L_readings_B85 (f_L_readings_L85 n k85 x0 x1 x2 x3 x4 x5 x7 x8 x9 x10 x12) k85 x0 x1 x2 x3 x4 x5 x7 x8 x9 x10 x12 x13 σ d
def f_L_readings_B59 (kb59 : Int32 → Sg → Dt → Option (Int64 × Dt)) (k59 : Sg → Dt → Option (Int64 × Dt)) (x0 : Nat) (x1 : Nat) (x2 : Int32) (x3 : Int32) (x4 : Nat) (x5 : Int64) (x7 : Nat) (x8 : Int32) (x9 : Int32) (σ : Sg) (d : Dt) : Option (Int64 × Dt) :=
  if ((972 : Int32)) ≤ x9 then k59 σ d else (f_L_spells σ x0 x9 d).bind (fun z_31 => (f_L_signs σ z_31.1 z_31.2).bind (fun z_33 => f_L_readings_L85 aw_FU (fun σ_47 d_46 => kb59 (x9 + 1) σ_47 d_46) x0 x1 x2 x3 x4 x5 x7 x8 x9 z_31.1 z_33.1 ((0 : Int32)) σ z_33.2))
def f_L_readings_L59 (n : Nat) (k59 : Sg → Dt → Option (Int64 × Dt)) (x0 : Nat) (x1 : Nat) (x2 : Int32) (x3 : Int32) (x4 : Nat) (x5 : Int64) (x7 : Nat) (x8 : Int32) : Int32 → Sg → Dt → Option (Int64 × Dt) := match n with
  | 0 => fun _ _ _ => none
  | n + 1 => fun x9 σ d => f_L_readings_B59 (f_L_readings_L59 n k59 x0 x1 x2 x3 x4 x5 x7 x8) k59 x0 x1 x2 x3 x4 x5 x7 x8 x9 σ d
def f_L_readings_B211 (kb211 : Int32 → Sg → Dt → Option (Int64 × Dt)) (k211 : Sg → Dt → Option (Int64 × Dt)) (x0 : Nat) (x1 : Nat) (x2 : Int32) (x3 : Int32) (x4 : Nat) (x5 : Int64) (x7 : Nat) (x8 : Int32) (x9 : Int32) (σ : Sg) (d : Dt) : Option (Int64 × Dt) :=
  if x3 < x9 then k211 σ d else aw_chk (aw_I σ 21 x7 x9) (aw_chk (aw_I σ 21 x4 x9) (kb211 (x9 + 1) σ (aw_sL d x4 x9.toNatClampNeg (d.2 x7 x9.toNatClampNeg))))
def f_L_readings_L211 (n : Nat) (k211 : Sg → Dt → Option (Int64 × Dt)) (x0 : Nat) (x1 : Nat) (x2 : Int32) (x3 : Int32) (x4 : Nat) (x5 : Int64) (x7 : Nat) (x8 : Int32) : Int32 → Sg → Dt → Option (Int64 × Dt) := match n with
  | 0 => fun _ _ _ => none
  | n + 1 => fun x9 σ d => f_L_readings_B211 (f_L_readings_L211 n k211 x0 x1 x2 x3 x4 x5 x7 x8) k211 x0 x1 x2 x3 x4 x5 x7 x8 x9 σ d
def f_L_readings_B29 (kb29 : Int64 → Int32 → Sg → Dt → Option (Int64 × Dt)) (k29 : Int64 → Sg → Dt → Option (Int64 × Dt)) (x0 : Nat) (x1 : Nat) (x2 : Int32) (x3 : Int32) (x4 : Nat) (x7 : Nat) (x5 : Int64) (x8 : Int32) (σ : Sg) (d : Dt) : Option (Int64 × Dt) :=
  if ((4 : Int32)) ≤ x8 then k29 x5 σ d else f_L_readings_L38 aw_FU (fun σ_28 d_27 => f_L_readings_L59 aw_FU (fun σ_51 d_50 => f_L_readings_L211 aw_FU (fun σ_57 d_56 => aw_chk (aw_I σ_57 21 x4 ((0 : Int32))) (kb29 (x5 + (d_56.2 x4 ((0 : Int32)).toNatClampNeg)) (x8 + 1) σ_57 d_56)) x0 x1 x2 x3 x4 x5 x7 x8 ((0 : Int32)) σ_51 d_50) x0 x1 x2 x3 x4 x5 x7 x8 ((0 : Int32)) σ_28 d_27) x0 x1 x2 x3 x4 x5 x7 x8 ((0 : Int32)) σ d
def f_L_readings_L29 (n : Nat) (k29 : Int64 → Sg → Dt → Option (Int64 × Dt)) (x0 : Nat) (x1 : Nat) (x2 : Int32) (x3 : Int32) (x4 : Nat) (x7 : Nat) : Int64 → Int32 → Sg → Dt → Option (Int64 × Dt) := match n with
  | 0 => fun _ _ _ _ => none
  | n + 1 => fun x5 x8 σ d => f_L_readings_B29 (f_L_readings_L29 n k29 x0 x1 x2 x3 x4 x7) k29 x0 x1 x2 x3 x4 x7 x5 x8 σ d
def f_L_readings (σ : Sg) (x0 : Nat) (x1 : Nat) (x2 : Int32) (d : Dt) : Option (Int64 × Dt) :=
  (f_L_many σ x1 x2 d).bind (fun z_1 => aw_chk (x0 < σ.1) (aw_chk (x1 < σ.1) (aw_new σ z_1.2 21 64 (fun q_5 σ_6 d_7 => aw_chk (aw_I σ_6 21 q_5 z_1.1) (aw_chk (q_5 < σ_6.1) (aw_chk (x0 < σ_6.1) (aw_chk (x1 < σ_6.1) (aw_new σ_6 (aw_sL d_7 q_5 z_1.1.toNatClampNeg ((1 : Int64))) 21 64 (fun q_17 σ_18 d_19 => f_L_readings_L29 aw_FU (fun x5_61 σ_63 d_62 => some (x5_61, d_62)) x0 x1 x2 z_1.1 q_5 q_17 ((0 : Int64)) ((0 : Int32)) σ_18 d_19)))))))))
section W_L_readings
variable {p : Program} {l : Launch} {e : Env} {s : State} {m : MethodId} {args : Array Value} {below : List Frame} {meth : Method} {c : Code}
variable {D : va_G} {cA : Nat → ClassId} {base : Nat} {ad0 : Nat → Nat} {σ0 : Sg}
set_option maxHeartbeats 4000000 in
set_option maxRecDepth 100000 in
theorem w_L_readings_B38 {z : Int64 × Dt} (X : aw_X p c cL_readings 16 s RL m meth (some .long)) (hst : l.stackTraces = false) (hwf : aw_wf σ0) {kb38 : Int32 → Sg → Dt → Option (Int64 × Dt)} {k38 : Sg → Dt → Option (Int64 × Dt)} {x0 : Nat} {x1 : Nat} {x2 : Int32} {x3 : Int32} {x4 : Nat} {x5 : Int64} {x7 : Nat} {x8 : Int32} {x9 : Int32} {σ : Sg} {d : Dt} {ad : Nat → Nat} (hf : f_L_readings_B38 kb38 k38 x0 x1 x2 x3 x4 x5 x7 x8 x9 σ d = some z) { cells slots : Nat} (hB : cells + (0) ≤ 2 ∧ slots + 64 * (0) ≤ 128) (hkb38 : ∀ (y9 : Int32) (σ : Sg) (d : Dt), kb38 y9 σ d = some z → ∀ (ad : Nat → Nat), aw_exr σ0 ad0 σ ad → ∀ (cells slots : Nat), cells + (0) ≤ 2 ∧ slots + 64 * (0) ≤ 128 → ∀ (H : Heap) (locs : List Loc) (ls : Array Slot), lv_has ls 16 [(0, .ref (ad x0)), (1, .ref (ad x1)), (2, .int x2), (3, .int x3), (4, .ref (ad x4)), (5, .long x5), (7, .ref (ad x7)), (8, .int x8), (9, .int y9)] → aw_G D cA base ad σ d s H locs → W p l e rm_L_readings s m args below meth c H locs cells slots (aw_Elf D cA base ad0 σ0 below args s 2 128 z) (F0 m 38 ls [])) (hk38 : ∀ (σ : Sg) (d : Dt), k38 σ d = some z → ∀ (ad : Nat → Nat), aw_exr σ0 ad0 σ ad → ∀ (cells slots : Nat), cells + (0) ≤ 2 ∧ slots + 64 * (0) ≤ 128 → ∀ (H : Heap) (locs : List Loc) (ls : Array Slot), lv_has ls 16 [(0, .ref (ad x0)), (1, .ref (ad x1)), (2, .int x2), (3, .int x3), (4, .ref (ad x4)), (5, .long x5), (7, .ref (ad x7)), (8, .int x8)] → aw_G D cA base ad σ d s H locs → W p l e rm_L_readings s m args below meth c H locs cells slots (aw_Elf D cA base ad0 σ0 below args s 2 128 z) (F0 m 56 ls [])) (E : aw_exr σ0 ad0 σ ad) {H : Heap} {locs : List Loc} {ls : Array Slot} (hl : lv_has ls 16 [(0, .ref (ad x0)), (1, .ref (ad x1)), (2, .int x2), (3, .int x3), (4, .ref (ad x4)), (5, .long x5), (7, .ref (ad x7)), (8, .int x8), (9, .int x9)]) (G : aw_G D cA base ad σ d s H locs) : W p l e rm_L_readings s m args below meth c H locs cells slots (aw_Elf D cA base ad0 σ0 below args s 2 128 z) (F0 m 38 ls []) := by
  have hx := X.1; have hb := X.2.1; have hml := X.2.2.1; have hown := X.2.2.2.1
  unfold f_L_readings_B38 at hf
  refine lv_iload hx hb dL_readings_38 (lv_at hl 8 rfl) ?_
  refine lv_iload_n hx hb dL_readings_40 rfl (lv_at hl 3 rfl) ?_
  refine lv_icmp_gt (tgt := 56) hx hb dL_readings_41 (by decide) (fun hc => ?_) (fun hc => ?_)
  · have hf := aw_ite_t hc hf
    exact hk38 _ _ hf _ E _ _ ⟨by omega, by omega⟩ _ _ _ (lv_sub hl [0, 1, 2, 3, 4, 5, 6, 7] rfl) G
  · have hf := aw_ite_f hc hf
    refine lv_aload hx hb dL_readings_44 (lv_at hl 6 rfl) ?_
    refine lv_iload hx hb dL_readings_46 (lv_at hl 8 rfl) ?_
    refine lv_lconst (v := (0 : Int64)) hx hb dL_readings_48 (by decide) ?_
    obtain ⟨hc_26, hf⟩ := aw_chk_some hf
    refine aw_las hx hb G hc_26 dL_readings_49 (fun H locs G => ?_)
    refine lv_iinc (v := x9 + 1) (lv' := [(9, .int (x9 + 1)), (0, .ref (ad x0)), (1, .ref (ad x1)), (2, .int x2), (3, .int x3), (4, .ref (ad x4)), (5, .long x5), (7, .ref (ad x7)), (8, .int x8)]) hx hb dL_readings_50 hl (k := 8) rfl rfl (by decide) rfl (fun ls hl => ?_)
    refine lv_goto (tgt := 38) hx hb dL_readings_53 (by decide) ?_
    exact hkb38 _ _ _ hf _ E _ _ ⟨by omega, by omega⟩ _ _ _ (lv_sub hl [1, 2, 3, 4, 5, 6, 7, 8, 0] rfl) G
theorem w_L_readings_L38 {z : Int64 × Dt} (X : aw_X p c cL_readings 16 s RL m meth (some .long)) (hst : l.stackTraces = false) (hwf : aw_wf σ0) {k38 : Sg → Dt → Option (Int64 × Dt)} {x0 : Nat} {x1 : Nat} {x2 : Int32} {x3 : Int32} {x4 : Nat} {x5 : Int64} {x7 : Nat} {x8 : Int32} (n : Nat) {x9 : Int32} {σ : Sg} {d : Dt} {ad : Nat → Nat} (hf : f_L_readings_L38 n k38 x0 x1 x2 x3 x4 x5 x7 x8 x9 σ d = some z) { cells slots : Nat} (hB : cells + (0) ≤ 2 ∧ slots + 64 * (0) ≤ 128) (hk38 : ∀ (σ : Sg) (d : Dt), k38 σ d = some z → ∀ (ad : Nat → Nat), aw_exr σ0 ad0 σ ad → ∀ (cells slots : Nat), cells + (0) ≤ 2 ∧ slots + 64 * (0) ≤ 128 → ∀ (H : Heap) (locs : List Loc) (ls : Array Slot), lv_has ls 16 [(0, .ref (ad x0)), (1, .ref (ad x1)), (2, .int x2), (3, .int x3), (4, .ref (ad x4)), (5, .long x5), (7, .ref (ad x7)), (8, .int x8)] → aw_G D cA base ad σ d s H locs → W p l e rm_L_readings s m args below meth c H locs cells slots (aw_Elf D cA base ad0 σ0 below args s 2 128 z) (F0 m 56 ls [])) (E : aw_exr σ0 ad0 σ ad) {H : Heap} {locs : List Loc} {ls : Array Slot} (hl : lv_has ls 16 [(0, .ref (ad x0)), (1, .ref (ad x1)), (2, .int x2), (3, .int x3), (4, .ref (ad x4)), (5, .long x5), (7, .ref (ad x7)), (8, .int x8), (9, .int x9)]) (G : aw_G D cA base ad σ d s H locs) : W p l e rm_L_readings s m args below meth c H locs cells slots (aw_Elf D cA base ad0 σ0 below args s 2 128 z) (F0 m 38 ls []) := by
  induction n generalizing x9 σ d ad cells slots H locs ls with
  | zero => exact absurd (show (none : Option (Int64 × Dt)) = some z from hf) (by simp)
  | succ n ih => exact w_L_readings_B38 X hst hwf (kb38 := f_L_readings_L38 n k38 x0 x1 x2 x3 x4 x5 x7 x8) hf ⟨by omega, by omega⟩  (fun x9 σ d hf ad E cells slots hB H locs ls hl G => ih hf hB E hl G) hk38 E hl G
set_option maxHeartbeats 4000000 in
set_option maxRecDepth 100000 in
theorem w_L_readings_J163 {z : Int64 × Dt} (X : aw_X p c cL_readings 16 s RL m meth (some .long)) (hst : l.stackTraces = false) (hwf : aw_wf σ0) {kb117 : Int32 → Int32 → Sg → Dt → Option (Int64 × Dt)} {t0 : Int32} {x0 : Nat} {x1 : Nat} {x2 : Int32} {x3 : Int32} {x4 : Nat} {x5 : Int64} {x7 : Nat} {x8 : Int32} {x9 : Int32} {x10 : Int64} {x12 : Int32} {x13 : Int32} {x15 : Int32} {σ : Sg} {d : Dt} {ad : Nat → Nat} (hf : f_L_readings_J163 kb117 t0 x0 x1 x2 x3 x4 x5 x7 x8 x9 x10 x12 x13 x15 σ d = some z) { cells slots : Nat} (hB : cells + (0) ≤ 2 ∧ slots + 64 * (0) ≤ 128) (hkb117 : ∀ (y14 : Int32) (y15 : Int32) (σ : Sg) (d : Dt), kb117 y14 y15 σ d = some z → ∀ (ad : Nat → Nat), aw_exr σ0 ad0 σ ad → ∀ (cells slots : Nat), cells + (0) ≤ 2 ∧ slots + 64 * (0) ≤ 128 → ∀ (H : Heap) (locs : List Loc) (ls : Array Slot), lv_has ls 16 [(0, .ref (ad x0)), (1, .ref (ad x1)), (2, .int x2), (3, .int x3), (4, .ref (ad x4)), (5, .long x5), (7, .ref (ad x7)), (8, .int x8), (9, .int x9), (10, .long x10), (12, .int x12), (13, .int x13), (14, .int y14), (15, .int y15)] → aw_G D cA base ad σ d s H locs → W p l e rm_L_readings s m args below meth c H locs cells slots (aw_Elf D cA base ad0 σ0 below args s 2 128 z) (F0 m 117 ls [])) (E : aw_exr σ0 ad0 σ ad) {H : Heap} {locs : List Loc} {ls : Array Slot} (hl : lv_has ls 16 [(0, .ref (ad x0)), (1, .ref (ad x1)), (2, .int x2), (3, .int x3), (4, .ref (ad x4)), (5, .long x5), (7, .ref (ad x7)), (8, .int x8), (9, .int x9), (10, .long x10), (12, .int x12), (13, .int x13), (15, .int x15)]) (G : aw_G D cA base ad σ d s H locs) : W p l e rm_L_readings s m args below meth c H locs cells slots (aw_Elf D cA base ad0 σ0 below args s 2 128 z) (F0 m 163 ls [.int t0]) := by
  have hx := X.1; have hb := X.2.1; have hml := X.2.2.1; have hown := X.2.2.2.1
  unfold f_L_readings_J163 at hf
  refine lv_istore (lv' := [(14, .int t0), (0, .ref (ad x0)), (1, .ref (ad x1)), (2, .int x2), (3, .int x3), (4, .ref (ad x4)), (5, .long x5), (7, .ref (ad x7)), (8, .int x8), (9, .int x9), (10, .long x10), (12, .int x12), (13, .int x13), (15, .int x15)]) hx hb dL_readings_163 hl (by decide) rfl (fun ls hl => ?_)
  refine lv_iinc (v := x15 + 1) (lv' := [(15, .int (x15 + 1)), (14, .int t0), (0, .ref (ad x0)), (1, .ref (ad x1)), (2, .int x2), (3, .int x3), (4, .ref (ad x4)), (5, .long x5), (7, .ref (ad x7)), (8, .int x8), (9, .int x9), (10, .long x10), (12, .int x12), (13, .int x13)]) hx hb dL_readings_165 hl (k := 13) rfl rfl (by decide) rfl (fun ls hl => ?_)
  refine lv_goto (tgt := 117) hx hb dL_readings_168 (by decide) ?_
  exact hkb117 _ _ _ _ hf _ E _ _ ⟨by omega, by omega⟩ _ _ _ (lv_sub hl [2, 3, 4, 5, 6, 7, 8, 9, 10, 11, 12, 13, 1, 0] rfl) G
set_option maxHeartbeats 4000000 in
set_option maxRecDepth 100000 in
theorem w_L_readings_B117 {z : Int64 × Dt} (X : aw_X p c cL_readings 16 s RL m meth (some .long)) (hst : l.stackTraces = false) (hwf : aw_wf σ0) {kb117 : Int32 → Int32 → Sg → Dt → Option (Int64 × Dt)} {k117 : Int32 → Sg → Dt → Option (Int64 × Dt)} {x0 : Nat} {x1 : Nat} {x2 : Int32} {x3 : Int32} {x4 : Nat} {x5 : Int64} {x7 : Nat} {x8 : Int32} {x9 : Int32} {x10 : Int64} {x12 : Int32} {x13 : Int32} {x14 : Int32} {x15 : Int32} {σ : Sg} {d : Dt} {ad : Nat → Nat} (hf : f_L_readings_B117 kb117 k117 x0 x1 x2 x3 x4 x5 x7 x8 x9 x10 x12 x13 x14 x15 σ d = some z) { cells slots : Nat} (hB : cells + (0) ≤ 2 ∧ slots + 64 * (0) ≤ 128) (hkb117 : ∀ (y14 : Int32) (y15 : Int32) (σ : Sg) (d : Dt), kb117 y14 y15 σ d = some z → ∀ (ad : Nat → Nat), aw_exr σ0 ad0 σ ad → ∀ (cells slots : Nat), cells + (0) ≤ 2 ∧ slots + 64 * (0) ≤ 128 → ∀ (H : Heap) (locs : List Loc) (ls : Array Slot), lv_has ls 16 [(0, .ref (ad x0)), (1, .ref (ad x1)), (2, .int x2), (3, .int x3), (4, .ref (ad x4)), (5, .long x5), (7, .ref (ad x7)), (8, .int x8), (9, .int x9), (10, .long x10), (12, .int x12), (13, .int x13), (14, .int y14), (15, .int y15)] → aw_G D cA base ad σ d s H locs → W p l e rm_L_readings s m args below meth c H locs cells slots (aw_Elf D cA base ad0 σ0 below args s 2 128 z) (F0 m 117 ls [])) (hk117 : ∀ (y14 : Int32) (σ : Sg) (d : Dt), k117 y14 σ d = some z → ∀ (ad : Nat → Nat), aw_exr σ0 ad0 σ ad → ∀ (cells slots : Nat), cells + (0) ≤ 2 ∧ slots + 64 * (0) ≤ 128 → ∀ (H : Heap) (locs : List Loc) (ls : Array Slot), lv_has ls 16 [(0, .ref (ad x0)), (1, .ref (ad x1)), (2, .int x2), (3, .int x3), (4, .ref (ad x4)), (5, .long x5), (7, .ref (ad x7)), (8, .int x8), (9, .int x9), (10, .long x10), (12, .int x12), (13, .int x13), (14, .int y14)] → aw_G D cA base ad σ d s H locs → W p l e rm_L_readings s m args below meth c H locs cells slots (aw_Elf D cA base ad0 σ0 below args s 2 128 z) (F0 m 171 ls [])) (E : aw_exr σ0 ad0 σ ad) {H : Heap} {locs : List Loc} {ls : Array Slot} (hl : lv_has ls 16 [(0, .ref (ad x0)), (1, .ref (ad x1)), (2, .int x2), (3, .int x3), (4, .ref (ad x4)), (5, .long x5), (7, .ref (ad x7)), (8, .int x8), (9, .int x9), (10, .long x10), (12, .int x12), (13, .int x13), (14, .int x14), (15, .int x15)]) (G : aw_G D cA base ad σ d s H locs) : W p l e rm_L_readings s m args below meth c H locs cells slots (aw_Elf D cA base ad0 σ0 below args s 2 128 z) (F0 m 117 ls []) := by
  have hx := X.1; have hb := X.2.1; have hml := X.2.2.1; have hown := X.2.2.2.1
  unfold f_L_readings_B117 at hf
  refine lv_iload hx hb dL_readings_117 (lv_at hl 13 rfl) ?_
  refine lv_iload hx hb dL_readings_119 (lv_at hl 10 rfl) ?_
  refine lv_icmp_ge (tgt := 171) hx hb dL_readings_121 (by decide) (fun hc => ?_) (fun hc => ?_)
  · have hf := aw_ite_t hc hf
    exact hk117 _ _ _ hf _ E _ _ ⟨by omega, by omega⟩ _ _ _ (lv_sub hl [0, 1, 2, 3, 4, 5, 6, 7, 8, 9, 10, 11, 12] rfl) G
  · have hf := aw_ite_f hc hf
    refine lv_iload hx hb dL_readings_124 (lv_at hl 12 rfl) ?_
    refine lv_if_eq (tgt := 171) hx hb dL_readings_126 (by decide) (fun hc => ?_) (fun hc => ?_)
    · have hf := aw_ite_t hc hf
      exact hk117 _ _ _ hf _ E _ _ ⟨by omega, by omega⟩ _ _ _ (lv_sub hl [0, 1, 2, 3, 4, 5, 6, 7, 8, 9, 10, 11, 12] rfl) G
    · have hf := aw_ite_f hc hf
      refine lv_aload_n hx hb dL_readings_129 rfl (lv_at hl 1 rfl) ?_
      refine lv_iload_n hx hb dL_readings_130 rfl (lv_at hl 2 rfl) ?_
      refine lv_iload hx hb dL_readings_131 (lv_at hl 11 rfl) ?_
      refine lv_iload hx hb dL_readings_133 (lv_at hl 13 rfl) ?_
      refine lv_iadd hx hb dL_readings_135 ?_
      obtain ⟨z_36, hz_37, hf⟩ := aw_bind_some hf
      refine aw_SI (As := [.ref (ad x1), .int x2, .int (x13 + x15)]) (rest := []) X G hl.1 cr_L_85 (c_L_sign l hz_37) ⟨rfl, rfl⟩ rfl rfl rfl ⟨(Nat.le_of_ble_eq_true rfl), (Nat.le_of_ble_eq_true rfl)⟩ (Nat.le_of_ble_eq_true rfl) dL_readings_136 ⟨by show cells + 0 ≤ 2; omega, by show slots + 0 ≤ 128; omega⟩ (fun H locs G => ?_)
      refine lv_iconst (v := (1 : Int32)) hx hb dL_readings_139 (by decide) ?_
      refine lv_iadd hx hb dL_readings_140 ?_
      refine lv_i2l hx hb dL_readings_141 rfl ?_
      refine lv_lload hx hb dL_readings_142 (lv_at hl 9 rfl) ?_
      refine lv_bipush (v := (6 : Int32)) hx hb dL_readings_144 (by decide) ?_
      refine lv_iload hx hb dL_readings_146 (lv_at hl 13 rfl) ?_
      refine lv_imul hx hb dL_readings_148 ?_
      refine lv_lshr hx hb dL_readings_149 rfl ?_
      refine lv_ldc2 (v := (63 : Int64)) hx hb hown (G.1.hts _ m_784) dL_readings_150 ?_
      refine lv_land hx hb dL_readings_153 ?_
      refine W.lcmp hx hb dL_readings_154 ?_
      refine lv_if_ne (tgt := 162) hx hb dL_readings_155 (by decide) (fun hc => ?_) (fun hc => ?_)
      · have hf := aw_ite_f hc hf
        refine lv_iconst (v := (0 : Int32)) hx hb dL_readings_162 (by decide) ?_
        exact w_L_readings_J163 X hst hwf hf ⟨by omega, by omega⟩ hkb117 E (lv_sub hl [0, 1, 2, 3, 4, 5, 6, 7, 8, 9, 10, 11, 13] rfl) G
      · have hf := aw_ite_t hc hf
        refine lv_iconst (v := (1 : Int32)) hx hb dL_readings_158 (by decide) ?_
        refine lv_goto (tgt := 163) hx hb dL_readings_159 (by decide) ?_
        exact w_L_readings_J163 X hst hwf hf ⟨by omega, by omega⟩ hkb117 E (lv_sub hl [0, 1, 2, 3, 4, 5, 6, 7, 8, 9, 10, 11, 13] rfl) G
theorem w_L_readings_L117 {z : Int64 × Dt} (X : aw_X p c cL_readings 16 s RL m meth (some .long)) (hst : l.stackTraces = false) (hwf : aw_wf σ0) {k117 : Int32 → Sg → Dt → Option (Int64 × Dt)} {x0 : Nat} {x1 : Nat} {x2 : Int32} {x3 : Int32} {x4 : Nat} {x5 : Int64} {x7 : Nat} {x8 : Int32} {x9 : Int32} {x10 : Int64} {x12 : Int32} {x13 : Int32} (n : Nat) {x14 : Int32} {x15 : Int32} {σ : Sg} {d : Dt} {ad : Nat → Nat} (hf : f_L_readings_L117 n k117 x0 x1 x2 x3 x4 x5 x7 x8 x9 x10 x12 x13 x14 x15 σ d = some z) { cells slots : Nat} (hB : cells + (0) ≤ 2 ∧ slots + 64 * (0) ≤ 128) (hk117 : ∀ (y14 : Int32) (σ : Sg) (d : Dt), k117 y14 σ d = some z → ∀ (ad : Nat → Nat), aw_exr σ0 ad0 σ ad → ∀ (cells slots : Nat), cells + (0) ≤ 2 ∧ slots + 64 * (0) ≤ 128 → ∀ (H : Heap) (locs : List Loc) (ls : Array Slot), lv_has ls 16 [(0, .ref (ad x0)), (1, .ref (ad x1)), (2, .int x2), (3, .int x3), (4, .ref (ad x4)), (5, .long x5), (7, .ref (ad x7)), (8, .int x8), (9, .int x9), (10, .long x10), (12, .int x12), (13, .int x13), (14, .int y14)] → aw_G D cA base ad σ d s H locs → W p l e rm_L_readings s m args below meth c H locs cells slots (aw_Elf D cA base ad0 σ0 below args s 2 128 z) (F0 m 171 ls [])) (E : aw_exr σ0 ad0 σ ad) {H : Heap} {locs : List Loc} {ls : Array Slot} (hl : lv_has ls 16 [(0, .ref (ad x0)), (1, .ref (ad x1)), (2, .int x2), (3, .int x3), (4, .ref (ad x4)), (5, .long x5), (7, .ref (ad x7)), (8, .int x8), (9, .int x9), (10, .long x10), (12, .int x12), (13, .int x13), (14, .int x14), (15, .int x15)]) (G : aw_G D cA base ad σ d s H locs) : W p l e rm_L_readings s m args below meth c H locs cells slots (aw_Elf D cA base ad0 σ0 below args s 2 128 z) (F0 m 117 ls []) := by
  induction n generalizing x14 x15 σ d ad cells slots H locs ls with
  | zero => exact absurd (show (none : Option (Int64 × Dt)) = some z from hf) (by simp)
  | succ n ih => exact w_L_readings_B117 X hst hwf (kb117 := f_L_readings_L117 n k117 x0 x1 x2 x3 x4 x5 x7 x8 x9 x10 x12 x13) hf ⟨by omega, by omega⟩  (fun x14 x15 σ d hf ad E cells slots hB H locs ls hl G => ih hf hB E hl G) hk117 E hl G
set_option maxHeartbeats 4000000 in
set_option maxRecDepth 100000 in
theorem w_L_readings_J194 {z : Int64 × Dt} (X : aw_X p c cL_readings 16 s RL m meth (some .long)) (hst : l.stackTraces = false) (hwf : aw_wf σ0) {kb85 : Int32 → Sg → Dt → Option (Int64 × Dt)} {t3 : Int64} {t2 : Int64} {t1 : Int32} {t0 : Nat} {x0 : Nat} {x1 : Nat} {x2 : Int32} {x3 : Int32} {x4 : Nat} {x5 : Int64} {x7 : Nat} {x8 : Int32} {x9 : Int32} {x10 : Int64} {x12 : Int32} {x13 : Int32} {σ : Sg} {d : Dt} {ad : Nat → Nat} (hf : f_L_readings_J194 kb85 t3 t2 t1 t0 x0 x1 x2 x3 x4 x5 x7 x8 x9 x10 x12 x13 σ d = some z) { cells slots : Nat} (hB : cells + (0) ≤ 2 ∧ slots + 64 * (0) ≤ 128) (hkb85 : ∀ (y13 : Int32) (σ : Sg) (d : Dt), kb85 y13 σ d = some z → ∀ (ad : Nat → Nat), aw_exr σ0 ad0 σ ad → ∀ (cells slots : Nat), cells + (0) ≤ 2 ∧ slots + 64 * (0) ≤ 128 → ∀ (H : Heap) (locs : List Loc) (ls : Array Slot), lv_has ls 16 [(0, .ref (ad x0)), (1, .ref (ad x1)), (2, .int x2), (3, .int x3), (4, .ref (ad x4)), (5, .long x5), (7, .ref (ad x7)), (8, .int x8), (9, .int x9), (10, .long x10), (12, .int x12), (13, .int y13)] → aw_G D cA base ad σ d s H locs → W p l e rm_L_readings s m args below meth c H locs cells slots (aw_Elf D cA base ad0 σ0 below args s 2 128 z) (F0 m 85 ls [])) (E : aw_exr σ0 ad0 σ ad) {H : Heap} {locs : List Loc} {ls : Array Slot} (hl : lv_has ls 16 [(0, .ref (ad x0)), (1, .ref (ad x1)), (2, .int x2), (3, .int x3), (4, .ref (ad x4)), (5, .long x5), (7, .ref (ad x7)), (8, .int x8), (9, .int x9), (10, .long x10), (12, .int x12), (13, .int x13)]) (G : aw_G D cA base ad σ d s H locs) : W p l e rm_L_readings s m args below meth c H locs cells slots (aw_Elf D cA base ad0 σ0 below args s 2 128 z) (F0 m 194 ls [.long t3, .long t2, .int t1, .ref (ad t0)]) := by
  have hx := X.1; have hb := X.2.1; have hml := X.2.2.1; have hown := X.2.2.2.1
  unfold f_L_readings_J194 at hf
  refine lv_ladd hx hb dL_readings_194 ?_
  obtain ⟨hc_44, hf⟩ := aw_chk_some hf
  refine aw_las hx hb G hc_44 dL_readings_195 (fun H locs G => ?_)
  refine lv_iinc (v := x13 + 1) (lv' := [(13, .int (x13 + 1)), (0, .ref (ad x0)), (1, .ref (ad x1)), (2, .int x2), (3, .int x3), (4, .ref (ad x4)), (5, .long x5), (7, .ref (ad x7)), (8, .int x8), (9, .int x9), (10, .long x10), (12, .int x12)]) hx hb dL_readings_196 hl (k := 11) rfl rfl (by decide) rfl (fun ls hl => ?_)
  refine lv_goto (tgt := 85) hx hb dL_readings_199 (by decide) ?_
  exact hkb85 _ _ _ hf _ E _ _ ⟨by omega, by omega⟩ _ _ _ (lv_sub hl [1, 2, 3, 4, 5, 6, 7, 8, 9, 10, 11, 0] rfl) G
set_option maxHeartbeats 4000000 in
set_option maxRecDepth 100000 in
theorem w_L_readings_J171 {z : Int64 × Dt} (X : aw_X p c cL_readings 16 s RL m meth (some .long)) (hst : l.stackTraces = false) (hwf : aw_wf σ0) {kb85 : Int32 → Sg → Dt → Option (Int64 × Dt)} {x0 : Nat} {x1 : Nat} {x2 : Int32} {x3 : Int32} {x4 : Nat} {x5 : Int64} {x7 : Nat} {x8 : Int32} {x9 : Int32} {x10 : Int64} {x12 : Int32} {x13 : Int32} {x14 : Int32} {σ : Sg} {d : Dt} {ad : Nat → Nat} (hf : f_L_readings_J171 kb85 x0 x1 x2 x3 x4 x5 x7 x8 x9 x10 x12 x13 x14 σ d = some z) { cells slots : Nat} (hB : cells + (0) ≤ 2 ∧ slots + 64 * (0) ≤ 128) (hkb85 : ∀ (y13 : Int32) (σ : Sg) (d : Dt), kb85 y13 σ d = some z → ∀ (ad : Nat → Nat), aw_exr σ0 ad0 σ ad → ∀ (cells slots : Nat), cells + (0) ≤ 2 ∧ slots + 64 * (0) ≤ 128 → ∀ (H : Heap) (locs : List Loc) (ls : Array Slot), lv_has ls 16 [(0, .ref (ad x0)), (1, .ref (ad x1)), (2, .int x2), (3, .int x3), (4, .ref (ad x4)), (5, .long x5), (7, .ref (ad x7)), (8, .int x8), (9, .int x9), (10, .long x10), (12, .int x12), (13, .int y13)] → aw_G D cA base ad σ d s H locs → W p l e rm_L_readings s m args below meth c H locs cells slots (aw_Elf D cA base ad0 σ0 below args s 2 128 z) (F0 m 85 ls [])) (E : aw_exr σ0 ad0 σ ad) {H : Heap} {locs : List Loc} {ls : Array Slot} (hl : lv_has ls 16 [(0, .ref (ad x0)), (1, .ref (ad x1)), (2, .int x2), (3, .int x3), (4, .ref (ad x4)), (5, .long x5), (7, .ref (ad x7)), (8, .int x8), (9, .int x9), (10, .long x10), (12, .int x12), (13, .int x13), (14, .int x14)]) (G : aw_G D cA base ad σ d s H locs) : W p l e rm_L_readings s m args below meth c H locs cells slots (aw_Elf D cA base ad0 σ0 below args s 2 128 z) (F0 m 171 ls []) := by
  have hx := X.1; have hb := X.2.1; have hml := X.2.2.1; have hown := X.2.2.2.1
  unfold f_L_readings_J171 at hf
  refine lv_aload hx hb dL_readings_171 (lv_at hl 6 rfl) ?_
  refine lv_iload hx hb dL_readings_173 (lv_at hl 11 rfl) ?_
  refine lv_dup2_11 hx hb dL_readings_175 rfl rfl ?_
  obtain ⟨hc_43, hf⟩ := aw_chk_some hf
  refine aw_lal hx hb G hc_43 dL_readings_176 ?_
  refine lv_iload hx hb dL_readings_177 (lv_at hl 12 rfl) ?_
  refine lv_if_eq (tgt := 193) hx hb dL_readings_179 (by decide) (fun hc => ?_) (fun hc => ?_)
  · have hf := aw_ite_t hc hf
    refine lv_lconst (v := (0 : Int64)) hx hb dL_readings_193 (by decide) ?_
    exact w_L_readings_J194 X hst hwf hf ⟨by omega, by omega⟩ hkb85 E (lv_sub hl [0, 1, 2, 3, 4, 5, 6, 7, 8, 9, 10, 11] rfl) G
  · have hf := aw_ite_f hc hf
    refine lv_aload hx hb dL_readings_182 (lv_at hl 4 rfl) ?_
    refine lv_iload hx hb dL_readings_184 (lv_at hl 11 rfl) ?_
    refine lv_iload hx hb dL_readings_186 (lv_at hl 10 rfl) ?_
    refine lv_iadd hx hb dL_readings_188 ?_
    obtain ⟨hc_45, hf⟩ := aw_chk_some hf
    refine aw_lal hx hb G hc_45 dL_readings_189 ?_
    refine lv_goto (tgt := 194) hx hb dL_readings_190 (by decide) ?_
    exact w_L_readings_J194 X hst hwf hf ⟨by omega, by omega⟩ hkb85 E (lv_sub hl [0, 1, 2, 3, 4, 5, 6, 7, 8, 9, 10, 11] rfl) G
set_option maxHeartbeats 4000000 in
set_option maxRecDepth 100000 in
theorem w_L_readings_J112 {z : Int64 × Dt} (X : aw_X p c cL_readings 16 s RL m meth (some .long)) (hst : l.stackTraces = false) (hwf : aw_wf σ0) {kb85 : Int32 → Sg → Dt → Option (Int64 × Dt)} {t0 : Int32} {x0 : Nat} {x1 : Nat} {x2 : Int32} {x3 : Int32} {x4 : Nat} {x5 : Int64} {x7 : Nat} {x8 : Int32} {x9 : Int32} {x10 : Int64} {x12 : Int32} {x13 : Int32} {σ : Sg} {d : Dt} {ad : Nat → Nat} (hf : f_L_readings_J112 kb85 t0 x0 x1 x2 x3 x4 x5 x7 x8 x9 x10 x12 x13 σ d = some z) { cells slots : Nat} (hB : cells + (0) ≤ 2 ∧ slots + 64 * (0) ≤ 128) (hkb85 : ∀ (y13 : Int32) (σ : Sg) (d : Dt), kb85 y13 σ d = some z → ∀ (ad : Nat → Nat), aw_exr σ0 ad0 σ ad → ∀ (cells slots : Nat), cells + (0) ≤ 2 ∧ slots + 64 * (0) ≤ 128 → ∀ (H : Heap) (locs : List Loc) (ls : Array Slot), lv_has ls 16 [(0, .ref (ad x0)), (1, .ref (ad x1)), (2, .int x2), (3, .int x3), (4, .ref (ad x4)), (5, .long x5), (7, .ref (ad x7)), (8, .int x8), (9, .int x9), (10, .long x10), (12, .int x12), (13, .int y13)] → aw_G D cA base ad σ d s H locs → W p l e rm_L_readings s m args below meth c H locs cells slots (aw_Elf D cA base ad0 σ0 below args s 2 128 z) (F0 m 85 ls [])) (E : aw_exr σ0 ad0 σ ad) {H : Heap} {locs : List Loc} {ls : Array Slot} (hl : lv_has ls 16 [(0, .ref (ad x0)), (1, .ref (ad x1)), (2, .int x2), (3, .int x3), (4, .ref (ad x4)), (5, .long x5), (7, .ref (ad x7)), (8, .int x8), (9, .int x9), (10, .long x10), (12, .int x12), (13, .int x13)]) (G : aw_G D cA base ad σ d s H locs) : W p l e rm_L_readings s m args below meth c H locs cells slots (aw_Elf D cA base ad0 σ0 below args s 2 128 z) (F0 m 112 ls [.int t0]) := by
  have hx := X.1; have hb := X.2.1; have hml := X.2.2.1; have hown := X.2.2.2.1
  unfold f_L_readings_J112 at hf
  refine lv_istore (lv' := [(14, .int t0), (0, .ref (ad x0)), (1, .ref (ad x1)), (2, .int x2), (3, .int x3), (4, .ref (ad x4)), (5, .long x5), (7, .ref (ad x7)), (8, .int x8), (9, .int x9), (10, .long x10), (12, .int x12), (13, .int x13)]) hx hb dL_readings_112 hl (by decide) rfl (fun ls hl => ?_)
  refine lv_iconst (v := (0 : Int32)) hx hb dL_readings_114 (by decide) ?_
  refine lv_istore (lv' := [(15, .int ((0 : Int32))), (14, .int t0), (0, .ref (ad x0)), (1, .ref (ad x1)), (2, .int x2), (3, .int x3), (4, .ref (ad x4)), (5, .long x5), (7, .ref (ad x7)), (8, .int x8), (9, .int x9), (10, .long x10), (12, .int x12), (13, .int x13)]) hx hb dL_readings_115 hl (by decide) rfl (fun ls hl => ?_)
  refine w_L_readings_L117 X hst hwf aw_FU hf ⟨by omega, by omega⟩  (fun x14_38 σ_40 d_39 hf ad_41 E_42 cells slots hB H locs ls hl G => ?_) E (lv_sub hl [2, 3, 4, 5, 6, 7, 8, 9, 10, 11, 12, 13, 1, 0] rfl) G
  exact w_L_readings_J171 X hst hwf hf ⟨by omega, by omega⟩ hkb85 E_42 (lv_sub hl [0, 1, 2, 3, 4, 5, 6, 7, 8, 9, 10, 11, 12] rfl) G
set_option maxHeartbeats 4000000 in
set_option maxRecDepth 100000 in
theorem w_L_readings_B85 {z : Int64 × Dt} (X : aw_X p c cL_readings 16 s RL m meth (some .long)) (hst : l.stackTraces = false) (hwf : aw_wf σ0) {kb85 : Int32 → Sg → Dt → Option (Int64 × Dt)} {k85 : Sg → Dt → Option (Int64 × Dt)} {x0 : Nat} {x1 : Nat} {x2 : Int32} {x3 : Int32} {x4 : Nat} {x5 : Int64} {x7 : Nat} {x8 : Int32} {x9 : Int32} {x10 : Int64} {x12 : Int32} {x13 : Int32} {σ : Sg} {d : Dt} {ad : Nat → Nat} (hf : f_L_readings_B85 kb85 k85 x0 x1 x2 x3 x4 x5 x7 x8 x9 x10 x12 x13 σ d = some z) { cells slots : Nat} (hB : cells + (0) ≤ 2 ∧ slots + 64 * (0) ≤ 128) (hkb85 : ∀ (y13 : Int32) (σ : Sg) (d : Dt), kb85 y13 σ d = some z → ∀ (ad : Nat → Nat), aw_exr σ0 ad0 σ ad → ∀ (cells slots : Nat), cells + (0) ≤ 2 ∧ slots + 64 * (0) ≤ 128 → ∀ (H : Heap) (locs : List Loc) (ls : Array Slot), lv_has ls 16 [(0, .ref (ad x0)), (1, .ref (ad x1)), (2, .int x2), (3, .int x3), (4, .ref (ad x4)), (5, .long x5), (7, .ref (ad x7)), (8, .int x8), (9, .int x9), (10, .long x10), (12, .int x12), (13, .int y13)] → aw_G D cA base ad σ d s H locs → W p l e rm_L_readings s m args below meth c H locs cells slots (aw_Elf D cA base ad0 σ0 below args s 2 128 z) (F0 m 85 ls [])) (hk85 : ∀ (σ : Sg) (d : Dt), k85 σ d = some z → ∀ (ad : Nat → Nat), aw_exr σ0 ad0 σ ad → ∀ (cells slots : Nat), cells + (0) ≤ 2 ∧ slots + 64 * (0) ≤ 128 → ∀ (H : Heap) (locs : List Loc) (ls : Array Slot), lv_has ls 16 [(0, .ref (ad x0)), (1, .ref (ad x1)), (2, .int x2), (3, .int x3), (4, .ref (ad x4)), (5, .long x5), (7, .ref (ad x7)), (8, .int x8), (9, .int x9)] → aw_G D cA base ad σ d s H locs → W p l e rm_L_readings s m args below meth c H locs cells slots (aw_Elf D cA base ad0 σ0 below args s 2 128 z) (F0 m 202 ls [])) (E : aw_exr σ0 ad0 σ ad) {H : Heap} {locs : List Loc} {ls : Array Slot} (hl : lv_has ls 16 [(0, .ref (ad x0)), (1, .ref (ad x1)), (2, .int x2), (3, .int x3), (4, .ref (ad x4)), (5, .long x5), (7, .ref (ad x7)), (8, .int x8), (9, .int x9), (10, .long x10), (12, .int x12), (13, .int x13)]) (G : aw_G D cA base ad σ d s H locs) : W p l e rm_L_readings s m args below meth c H locs cells slots (aw_Elf D cA base ad0 σ0 below args s 2 128 z) (F0 m 85 ls []) := by
  have hx := X.1; have hb := X.2.1; have hml := X.2.2.1; have hown := X.2.2.2.1
  unfold f_L_readings_B85 at hf
  refine lv_iload hx hb dL_readings_85 (lv_at hl 11 rfl) ?_
  refine lv_iload hx hb dL_readings_87 (lv_at hl 10 rfl) ?_
  refine lv_iadd hx hb dL_readings_89 ?_
  refine lv_iload_n hx hb dL_readings_90 rfl (lv_at hl 3 rfl) ?_
  refine lv_icmp_gt (tgt := 202) hx hb dL_readings_91 (by decide) (fun hc => ?_) (fun hc => ?_)
  · have hf := aw_ite_t hc hf
    exact hk85 _ _ hf _ E _ _ ⟨by omega, by omega⟩ _ _ _ (lv_sub hl [0, 1, 2, 3, 4, 5, 6, 7, 8] rfl) G
  · have hf := aw_ite_f hc hf
    refine lv_aload hx hb dL_readings_94 (lv_at hl 4 rfl) ?_
    refine lv_iload hx hb dL_readings_96 (lv_at hl 11 rfl) ?_
    refine lv_iload hx hb dL_readings_98 (lv_at hl 10 rfl) ?_
    refine lv_iadd hx hb dL_readings_100 ?_
    obtain ⟨hc_35, hf⟩ := aw_chk_some hf
    refine aw_lal hx hb G hc_35 dL_readings_101 ?_
    refine lv_lconst (v := (0 : Int64)) hx hb dL_readings_102 (by decide) ?_
    refine W.lcmp hx hb dL_readings_103 ?_
    refine lv_if_le (tgt := 111) hx hb dL_readings_104 (by decide) (fun hc => ?_) (fun hc => ?_)
    · have hf := aw_ite_t hc hf
      refine lv_iconst (v := (0 : Int32)) hx hb dL_readings_111 (by decide) ?_
      exact w_L_readings_J112 X hst hwf hf ⟨by omega, by omega⟩ hkb85 E (lv_sub hl [0, 1, 2, 3, 4, 5, 6, 7, 8, 9, 10, 11] rfl) G
    · have hf := aw_ite_f hc hf
      refine lv_iconst (v := (1 : Int32)) hx hb dL_readings_107 (by decide) ?_
      refine lv_goto (tgt := 112) hx hb dL_readings_108 (by decide) ?_
      exact w_L_readings_J112 X hst hwf hf ⟨by omega, by omega⟩ hkb85 E (lv_sub hl [0, 1, 2, 3, 4, 5, 6, 7, 8, 9, 10, 11] rfl) G
theorem w_L_readings_L85 {z : Int64 × Dt} (X : aw_X p c cL_readings 16 s RL m meth (some .long)) (hst : l.stackTraces = false) (hwf : aw_wf σ0) {k85 : Sg → Dt → Option (Int64 × Dt)} {x0 : Nat} {x1 : Nat} {x2 : Int32} {x3 : Int32} {x4 : Nat} {x5 : Int64} {x7 : Nat} {x8 : Int32} {x9 : Int32} {x10 : Int64} {x12 : Int32} (n : Nat) {x13 : Int32} {σ : Sg} {d : Dt} {ad : Nat → Nat} (hf : f_L_readings_L85 n k85 x0 x1 x2 x3 x4 x5 x7 x8 x9 x10 x12 x13 σ d = some z) { cells slots : Nat} (hB : cells + (0) ≤ 2 ∧ slots + 64 * (0) ≤ 128) (hk85 : ∀ (σ : Sg) (d : Dt), k85 σ d = some z → ∀ (ad : Nat → Nat), aw_exr σ0 ad0 σ ad → ∀ (cells slots : Nat), cells + (0) ≤ 2 ∧ slots + 64 * (0) ≤ 128 → ∀ (H : Heap) (locs : List Loc) (ls : Array Slot), lv_has ls 16 [(0, .ref (ad x0)), (1, .ref (ad x1)), (2, .int x2), (3, .int x3), (4, .ref (ad x4)), (5, .long x5), (7, .ref (ad x7)), (8, .int x8), (9, .int x9)] → aw_G D cA base ad σ d s H locs → W p l e rm_L_readings s m args below meth c H locs cells slots (aw_Elf D cA base ad0 σ0 below args s 2 128 z) (F0 m 202 ls [])) (E : aw_exr σ0 ad0 σ ad) {H : Heap} {locs : List Loc} {ls : Array Slot} (hl : lv_has ls 16 [(0, .ref (ad x0)), (1, .ref (ad x1)), (2, .int x2), (3, .int x3), (4, .ref (ad x4)), (5, .long x5), (7, .ref (ad x7)), (8, .int x8), (9, .int x9), (10, .long x10), (12, .int x12), (13, .int x13)]) (G : aw_G D cA base ad σ d s H locs) : W p l e rm_L_readings s m args below meth c H locs cells slots (aw_Elf D cA base ad0 σ0 below args s 2 128 z) (F0 m 85 ls []) := by
  induction n generalizing x13 σ d ad cells slots H locs ls with
  | zero => exact absurd (show (none : Option (Int64 × Dt)) = some z from hf) (by simp)
  | succ n ih => exact w_L_readings_B85 X hst hwf (kb85 := f_L_readings_L85 n k85 x0 x1 x2 x3 x4 x5 x7 x8 x9 x10 x12) hf ⟨by omega, by omega⟩  (fun x13 σ d hf ad E cells slots hB H locs ls hl G => ih hf hB E hl G) hk85 E hl G
set_option maxHeartbeats 4000000 in
set_option maxRecDepth 100000 in
theorem w_L_readings_B59 {z : Int64 × Dt} (X : aw_X p c cL_readings 16 s RL m meth (some .long)) (hst : l.stackTraces = false) (hwf : aw_wf σ0) {kb59 : Int32 → Sg → Dt → Option (Int64 × Dt)} {k59 : Sg → Dt → Option (Int64 × Dt)} {x0 : Nat} {x1 : Nat} {x2 : Int32} {x3 : Int32} {x4 : Nat} {x5 : Int64} {x7 : Nat} {x8 : Int32} {x9 : Int32} {σ : Sg} {d : Dt} {ad : Nat → Nat} (hf : f_L_readings_B59 kb59 k59 x0 x1 x2 x3 x4 x5 x7 x8 x9 σ d = some z) { cells slots : Nat} (hB : cells + (0) ≤ 2 ∧ slots + 64 * (0) ≤ 128) (hkb59 : ∀ (y9 : Int32) (σ : Sg) (d : Dt), kb59 y9 σ d = some z → ∀ (ad : Nat → Nat), aw_exr σ0 ad0 σ ad → ∀ (cells slots : Nat), cells + (0) ≤ 2 ∧ slots + 64 * (0) ≤ 128 → ∀ (H : Heap) (locs : List Loc) (ls : Array Slot), lv_has ls 16 [(0, .ref (ad x0)), (1, .ref (ad x1)), (2, .int x2), (3, .int x3), (4, .ref (ad x4)), (5, .long x5), (7, .ref (ad x7)), (8, .int x8), (9, .int y9)] → aw_G D cA base ad σ d s H locs → W p l e rm_L_readings s m args below meth c H locs cells slots (aw_Elf D cA base ad0 σ0 below args s 2 128 z) (F0 m 59 ls [])) (hk59 : ∀ (σ : Sg) (d : Dt), k59 σ d = some z → ∀ (ad : Nat → Nat), aw_exr σ0 ad0 σ ad → ∀ (cells slots : Nat), cells + (0) ≤ 2 ∧ slots + 64 * (0) ≤ 128 → ∀ (H : Heap) (locs : List Loc) (ls : Array Slot), lv_has ls 16 [(0, .ref (ad x0)), (1, .ref (ad x1)), (2, .int x2), (3, .int x3), (4, .ref (ad x4)), (5, .long x5), (7, .ref (ad x7)), (8, .int x8)] → aw_G D cA base ad σ d s H locs → W p l e rm_L_readings s m args below meth c H locs cells slots (aw_Elf D cA base ad0 σ0 below args s 2 128 z) (F0 m 208 ls [])) (E : aw_exr σ0 ad0 σ ad) {H : Heap} {locs : List Loc} {ls : Array Slot} (hl : lv_has ls 16 [(0, .ref (ad x0)), (1, .ref (ad x1)), (2, .int x2), (3, .int x3), (4, .ref (ad x4)), (5, .long x5), (7, .ref (ad x7)), (8, .int x8), (9, .int x9)]) (G : aw_G D cA base ad σ d s H locs) : W p l e rm_L_readings s m args below meth c H locs cells slots (aw_Elf D cA base ad0 σ0 below args s 2 128 z) (F0 m 59 ls []) := by
  have hx := X.1; have hb := X.2.1; have hml := X.2.2.1; have hown := X.2.2.2.1
  unfold f_L_readings_B59 at hf
  refine lv_iload hx hb dL_readings_59 (lv_at hl 8 rfl) ?_
  refine lv_sipush (v := (972 : Int32)) hx hb dL_readings_61 (by decide) ?_
  refine lv_icmp_ge (tgt := 208) hx hb dL_readings_64 (by decide) (fun hc => ?_) (fun hc => ?_)
  · have hf := aw_ite_t hc hf
    exact hk59 _ _ hf _ E _ _ ⟨by omega, by omega⟩ _ _ _ (lv_sub hl [0, 1, 2, 3, 4, 5, 6, 7] rfl) G
  · have hf := aw_ite_f hc hf
    refine lv_aload_n hx hb dL_readings_67 rfl (lv_at hl 0 rfl) ?_
    refine lv_iload hx hb dL_readings_68 (lv_at hl 8 rfl) ?_
    obtain ⟨z_31, hz_32, hf⟩ := aw_bind_some hf
    refine aw_SL (As := [.ref (ad x0), .int x9]) (rest := []) X G hl.1 cr_L_79 (c_L_spells l hz_32) ⟨rfl, rfl⟩ rfl rfl rfl ⟨(Nat.le_of_ble_eq_true rfl), (Nat.le_of_ble_eq_true rfl)⟩ (Nat.le_of_ble_eq_true rfl) dL_readings_70 ⟨by show cells + 0 ≤ 2; omega, by show slots + 0 ≤ 128; omega⟩ (fun H locs G => ?_)
    refine lv_lstore (lv' := [(10, .long z_31.1), (0, .ref (ad x0)), (1, .ref (ad x1)), (2, .int x2), (3, .int x3), (4, .ref (ad x4)), (5, .long x5), (7, .ref (ad x7)), (8, .int x8), (9, .int x9)]) hx hb dL_readings_73 hl (by decide) rfl (fun ls hl => ?_)
    refine lv_lload hx hb dL_readings_75 (lv_at hl 0 rfl) ?_
    obtain ⟨z_33, hz_34, hf⟩ := aw_bind_some hf
    refine aw_SI (As := [.long z_31.1]) (rest := []) X G hl.1 cr_L_97 (c_L_signs l hz_34) ⟨rfl, rfl⟩ rfl rfl rfl ⟨(Nat.le_of_ble_eq_true rfl), (Nat.le_of_ble_eq_true rfl)⟩ (Nat.le_of_ble_eq_true rfl) dL_readings_77 ⟨by show cells + 0 ≤ 2; omega, by show slots + 0 ≤ 128; omega⟩ (fun H locs G => ?_)
    refine lv_istore (lv' := [(12, .int z_33.1), (10, .long z_31.1), (0, .ref (ad x0)), (1, .ref (ad x1)), (2, .int x2), (3, .int x3), (4, .ref (ad x4)), (5, .long x5), (7, .ref (ad x7)), (8, .int x8), (9, .int x9)]) hx hb dL_readings_80 hl (by decide) rfl (fun ls hl => ?_)
    refine lv_iconst (v := (0 : Int32)) hx hb dL_readings_82 (by decide) ?_
    refine lv_istore (lv' := [(13, .int ((0 : Int32))), (12, .int z_33.1), (10, .long z_31.1), (0, .ref (ad x0)), (1, .ref (ad x1)), (2, .int x2), (3, .int x3), (4, .ref (ad x4)), (5, .long x5), (7, .ref (ad x7)), (8, .int x8), (9, .int x9)]) hx hb dL_readings_83 hl (by decide) rfl (fun ls hl => ?_)
    refine w_L_readings_L85 X hst hwf aw_FU hf ⟨by omega, by omega⟩  (fun σ_47 d_46 hf ad_48 E_49 cells slots hB H locs ls hl G => ?_) E (lv_sub hl [3, 4, 5, 6, 7, 8, 9, 10, 11, 2, 1, 0] rfl) G
    refine lv_iinc (v := x9 + 1) (lv' := [(9, .int (x9 + 1)), (0, .ref (ad_48 x0)), (1, .ref (ad_48 x1)), (2, .int x2), (3, .int x3), (4, .ref (ad_48 x4)), (5, .long x5), (7, .ref (ad_48 x7)), (8, .int x8)]) hx hb dL_readings_202 hl (k := 8) rfl rfl (by decide) rfl (fun ls hl => ?_)
    refine lv_goto (tgt := 59) hx hb dL_readings_205 (by decide) ?_
    exact hkb59 _ _ _ hf _ E_49 _ _ ⟨by omega, by omega⟩ _ _ _ (lv_sub hl [1, 2, 3, 4, 5, 6, 7, 8, 0] rfl) G
theorem w_L_readings_L59 {z : Int64 × Dt} (X : aw_X p c cL_readings 16 s RL m meth (some .long)) (hst : l.stackTraces = false) (hwf : aw_wf σ0) {k59 : Sg → Dt → Option (Int64 × Dt)} {x0 : Nat} {x1 : Nat} {x2 : Int32} {x3 : Int32} {x4 : Nat} {x5 : Int64} {x7 : Nat} {x8 : Int32} (n : Nat) {x9 : Int32} {σ : Sg} {d : Dt} {ad : Nat → Nat} (hf : f_L_readings_L59 n k59 x0 x1 x2 x3 x4 x5 x7 x8 x9 σ d = some z) { cells slots : Nat} (hB : cells + (0) ≤ 2 ∧ slots + 64 * (0) ≤ 128) (hk59 : ∀ (σ : Sg) (d : Dt), k59 σ d = some z → ∀ (ad : Nat → Nat), aw_exr σ0 ad0 σ ad → ∀ (cells slots : Nat), cells + (0) ≤ 2 ∧ slots + 64 * (0) ≤ 128 → ∀ (H : Heap) (locs : List Loc) (ls : Array Slot), lv_has ls 16 [(0, .ref (ad x0)), (1, .ref (ad x1)), (2, .int x2), (3, .int x3), (4, .ref (ad x4)), (5, .long x5), (7, .ref (ad x7)), (8, .int x8)] → aw_G D cA base ad σ d s H locs → W p l e rm_L_readings s m args below meth c H locs cells slots (aw_Elf D cA base ad0 σ0 below args s 2 128 z) (F0 m 208 ls [])) (E : aw_exr σ0 ad0 σ ad) {H : Heap} {locs : List Loc} {ls : Array Slot} (hl : lv_has ls 16 [(0, .ref (ad x0)), (1, .ref (ad x1)), (2, .int x2), (3, .int x3), (4, .ref (ad x4)), (5, .long x5), (7, .ref (ad x7)), (8, .int x8), (9, .int x9)]) (G : aw_G D cA base ad σ d s H locs) : W p l e rm_L_readings s m args below meth c H locs cells slots (aw_Elf D cA base ad0 σ0 below args s 2 128 z) (F0 m 59 ls []) := by
  induction n generalizing x9 σ d ad cells slots H locs ls with
  | zero => exact absurd (show (none : Option (Int64 × Dt)) = some z from hf) (by simp)
  | succ n ih => exact w_L_readings_B59 X hst hwf (kb59 := f_L_readings_L59 n k59 x0 x1 x2 x3 x4 x5 x7 x8) hf ⟨by omega, by omega⟩  (fun x9 σ d hf ad E cells slots hB H locs ls hl G => ih hf hB E hl G) hk59 E hl G
set_option maxHeartbeats 4000000 in
set_option maxRecDepth 100000 in
theorem w_L_readings_B211 {z : Int64 × Dt} (X : aw_X p c cL_readings 16 s RL m meth (some .long)) (hst : l.stackTraces = false) (hwf : aw_wf σ0) {kb211 : Int32 → Sg → Dt → Option (Int64 × Dt)} {k211 : Sg → Dt → Option (Int64 × Dt)} {x0 : Nat} {x1 : Nat} {x2 : Int32} {x3 : Int32} {x4 : Nat} {x5 : Int64} {x7 : Nat} {x8 : Int32} {x9 : Int32} {σ : Sg} {d : Dt} {ad : Nat → Nat} (hf : f_L_readings_B211 kb211 k211 x0 x1 x2 x3 x4 x5 x7 x8 x9 σ d = some z) { cells slots : Nat} (hB : cells + (0) ≤ 2 ∧ slots + 64 * (0) ≤ 128) (hkb211 : ∀ (y9 : Int32) (σ : Sg) (d : Dt), kb211 y9 σ d = some z → ∀ (ad : Nat → Nat), aw_exr σ0 ad0 σ ad → ∀ (cells slots : Nat), cells + (0) ≤ 2 ∧ slots + 64 * (0) ≤ 128 → ∀ (H : Heap) (locs : List Loc) (ls : Array Slot), lv_has ls 16 [(0, .ref (ad x0)), (1, .ref (ad x1)), (2, .int x2), (3, .int x3), (4, .ref (ad x4)), (5, .long x5), (7, .ref (ad x7)), (8, .int x8), (9, .int y9)] → aw_G D cA base ad σ d s H locs → W p l e rm_L_readings s m args below meth c H locs cells slots (aw_Elf D cA base ad0 σ0 below args s 2 128 z) (F0 m 211 ls [])) (hk211 : ∀ (σ : Sg) (d : Dt), k211 σ d = some z → ∀ (ad : Nat → Nat), aw_exr σ0 ad0 σ ad → ∀ (cells slots : Nat), cells + (0) ≤ 2 ∧ slots + 64 * (0) ≤ 128 → ∀ (H : Heap) (locs : List Loc) (ls : Array Slot), lv_has ls 16 [(0, .ref (ad x0)), (1, .ref (ad x1)), (2, .int x2), (3, .int x3), (4, .ref (ad x4)), (5, .long x5), (7, .ref (ad x7)), (8, .int x8)] → aw_G D cA base ad σ d s H locs → W p l e rm_L_readings s m args below meth c H locs cells slots (aw_Elf D cA base ad0 σ0 below args s 2 128 z) (F0 m 233 ls [])) (E : aw_exr σ0 ad0 σ ad) {H : Heap} {locs : List Loc} {ls : Array Slot} (hl : lv_has ls 16 [(0, .ref (ad x0)), (1, .ref (ad x1)), (2, .int x2), (3, .int x3), (4, .ref (ad x4)), (5, .long x5), (7, .ref (ad x7)), (8, .int x8), (9, .int x9)]) (G : aw_G D cA base ad σ d s H locs) : W p l e rm_L_readings s m args below meth c H locs cells slots (aw_Elf D cA base ad0 σ0 below args s 2 128 z) (F0 m 211 ls []) := by
  have hx := X.1; have hb := X.2.1; have hml := X.2.2.1; have hown := X.2.2.2.1
  unfold f_L_readings_B211 at hf
  refine lv_iload hx hb dL_readings_211 (lv_at hl 8 rfl) ?_
  refine lv_iload_n hx hb dL_readings_213 rfl (lv_at hl 3 rfl) ?_
  refine lv_icmp_gt (tgt := 233) hx hb dL_readings_214 (by decide) (fun hc => ?_) (fun hc => ?_)
  · have hf := aw_ite_t hc hf
    exact hk211 _ _ hf _ E _ _ ⟨by omega, by omega⟩ _ _ _ (lv_sub hl [0, 1, 2, 3, 4, 5, 6, 7] rfl) G
  · have hf := aw_ite_f hc hf
    refine lv_aload hx hb dL_readings_217 (lv_at hl 4 rfl) ?_
    refine lv_iload hx hb dL_readings_219 (lv_at hl 8 rfl) ?_
    refine lv_aload hx hb dL_readings_221 (lv_at hl 6 rfl) ?_
    refine lv_iload hx hb dL_readings_223 (lv_at hl 8 rfl) ?_
    obtain ⟨hc_54, hf⟩ := aw_chk_some hf
    refine aw_lal hx hb G hc_54 dL_readings_225 ?_
    obtain ⟨hc_55, hf⟩ := aw_chk_some hf
    refine aw_las hx hb G hc_55 dL_readings_226 (fun H locs G => ?_)
    refine lv_iinc (v := x9 + 1) (lv' := [(9, .int (x9 + 1)), (0, .ref (ad x0)), (1, .ref (ad x1)), (2, .int x2), (3, .int x3), (4, .ref (ad x4)), (5, .long x5), (7, .ref (ad x7)), (8, .int x8)]) hx hb dL_readings_227 hl (k := 8) rfl rfl (by decide) rfl (fun ls hl => ?_)
    refine lv_goto (tgt := 211) hx hb dL_readings_230 (by decide) ?_
    exact hkb211 _ _ _ hf _ E _ _ ⟨by omega, by omega⟩ _ _ _ (lv_sub hl [1, 2, 3, 4, 5, 6, 7, 8, 0] rfl) G
theorem w_L_readings_L211 {z : Int64 × Dt} (X : aw_X p c cL_readings 16 s RL m meth (some .long)) (hst : l.stackTraces = false) (hwf : aw_wf σ0) {k211 : Sg → Dt → Option (Int64 × Dt)} {x0 : Nat} {x1 : Nat} {x2 : Int32} {x3 : Int32} {x4 : Nat} {x5 : Int64} {x7 : Nat} {x8 : Int32} (n : Nat) {x9 : Int32} {σ : Sg} {d : Dt} {ad : Nat → Nat} (hf : f_L_readings_L211 n k211 x0 x1 x2 x3 x4 x5 x7 x8 x9 σ d = some z) { cells slots : Nat} (hB : cells + (0) ≤ 2 ∧ slots + 64 * (0) ≤ 128) (hk211 : ∀ (σ : Sg) (d : Dt), k211 σ d = some z → ∀ (ad : Nat → Nat), aw_exr σ0 ad0 σ ad → ∀ (cells slots : Nat), cells + (0) ≤ 2 ∧ slots + 64 * (0) ≤ 128 → ∀ (H : Heap) (locs : List Loc) (ls : Array Slot), lv_has ls 16 [(0, .ref (ad x0)), (1, .ref (ad x1)), (2, .int x2), (3, .int x3), (4, .ref (ad x4)), (5, .long x5), (7, .ref (ad x7)), (8, .int x8)] → aw_G D cA base ad σ d s H locs → W p l e rm_L_readings s m args below meth c H locs cells slots (aw_Elf D cA base ad0 σ0 below args s 2 128 z) (F0 m 233 ls [])) (E : aw_exr σ0 ad0 σ ad) {H : Heap} {locs : List Loc} {ls : Array Slot} (hl : lv_has ls 16 [(0, .ref (ad x0)), (1, .ref (ad x1)), (2, .int x2), (3, .int x3), (4, .ref (ad x4)), (5, .long x5), (7, .ref (ad x7)), (8, .int x8), (9, .int x9)]) (G : aw_G D cA base ad σ d s H locs) : W p l e rm_L_readings s m args below meth c H locs cells slots (aw_Elf D cA base ad0 σ0 below args s 2 128 z) (F0 m 211 ls []) := by
  induction n generalizing x9 σ d ad cells slots H locs ls with
  | zero => exact absurd (show (none : Option (Int64 × Dt)) = some z from hf) (by simp)
  | succ n ih => exact w_L_readings_B211 X hst hwf (kb211 := f_L_readings_L211 n k211 x0 x1 x2 x3 x4 x5 x7 x8) hf ⟨by omega, by omega⟩  (fun x9 σ d hf ad E cells slots hB H locs ls hl G => ih hf hB E hl G) hk211 E hl G
set_option maxHeartbeats 4000000 in
set_option maxRecDepth 100000 in
theorem w_L_readings_B29 {z : Int64 × Dt} (X : aw_X p c cL_readings 16 s RL m meth (some .long)) (hst : l.stackTraces = false) (hwf : aw_wf σ0) {kb29 : Int64 → Int32 → Sg → Dt → Option (Int64 × Dt)} {k29 : Int64 → Sg → Dt → Option (Int64 × Dt)} {x0 : Nat} {x1 : Nat} {x2 : Int32} {x3 : Int32} {x4 : Nat} {x7 : Nat} {x5 : Int64} {x8 : Int32} {σ : Sg} {d : Dt} {ad : Nat → Nat} (hf : f_L_readings_B29 kb29 k29 x0 x1 x2 x3 x4 x7 x5 x8 σ d = some z) { cells slots : Nat} (hB : cells + (0) ≤ 2 ∧ slots + 64 * (0) ≤ 128) (hkb29 : ∀ (y5 : Int64) (y8 : Int32) (σ : Sg) (d : Dt), kb29 y5 y8 σ d = some z → ∀ (ad : Nat → Nat), aw_exr σ0 ad0 σ ad → ∀ (cells slots : Nat), cells + (0) ≤ 2 ∧ slots + 64 * (0) ≤ 128 → ∀ (H : Heap) (locs : List Loc) (ls : Array Slot), lv_has ls 16 [(0, .ref (ad x0)), (1, .ref (ad x1)), (2, .int x2), (3, .int x3), (4, .ref (ad x4)), (5, .long y5), (7, .ref (ad x7)), (8, .int y8)] → aw_G D cA base ad σ d s H locs → W p l e rm_L_readings s m args below meth c H locs cells slots (aw_Elf D cA base ad0 σ0 below args s 2 128 z) (F0 m 29 ls [])) (hk29 : ∀ (y5 : Int64) (σ : Sg) (d : Dt), k29 y5 σ d = some z → ∀ (ad : Nat → Nat), aw_exr σ0 ad0 σ ad → ∀ (cells slots : Nat), cells + (0) ≤ 2 ∧ slots + 64 * (0) ≤ 128 → ∀ (H : Heap) (locs : List Loc) (ls : Array Slot), lv_has ls 16 [(5, .long y5)] → aw_G D cA base ad σ d s H locs → W p l e rm_L_readings s m args below meth c H locs cells slots (aw_Elf D cA base ad0 σ0 below args s 2 128 z) (F0 m 248 ls [])) (E : aw_exr σ0 ad0 σ ad) {H : Heap} {locs : List Loc} {ls : Array Slot} (hl : lv_has ls 16 [(0, .ref (ad x0)), (1, .ref (ad x1)), (2, .int x2), (3, .int x3), (4, .ref (ad x4)), (5, .long x5), (7, .ref (ad x7)), (8, .int x8)]) (G : aw_G D cA base ad σ d s H locs) : W p l e rm_L_readings s m args below meth c H locs cells slots (aw_Elf D cA base ad0 σ0 below args s 2 128 z) (F0 m 29 ls []) := by
  have hx := X.1; have hb := X.2.1; have hml := X.2.2.1; have hown := X.2.2.2.1
  unfold f_L_readings_B29 at hf
  refine lv_iload hx hb dL_readings_29 (lv_at hl 7 rfl) ?_
  refine lv_iconst (v := (4 : Int32)) hx hb dL_readings_31 (by decide) ?_
  refine lv_icmp_ge (tgt := 248) hx hb dL_readings_32 (by decide) (fun hc => ?_) (fun hc => ?_)
  · have hf := aw_ite_t hc hf
    exact hk29 _ _ _ hf _ E _ _ ⟨by omega, by omega⟩ _ _ _ (lv_sub hl [5] rfl) G
  · have hf := aw_ite_f hc hf
    refine lv_iconst (v := (0 : Int32)) hx hb dL_readings_35 (by decide) ?_
    refine lv_istore (lv' := [(9, .int ((0 : Int32))), (0, .ref (ad x0)), (1, .ref (ad x1)), (2, .int x2), (3, .int x3), (4, .ref (ad x4)), (5, .long x5), (7, .ref (ad x7)), (8, .int x8)]) hx hb dL_readings_36 hl (by decide) rfl (fun ls hl => ?_)
    refine w_L_readings_L38 X hst hwf aw_FU hf ⟨by omega, by omega⟩  (fun σ_28 d_27 hf ad_29 E_30 cells slots hB H locs ls hl G => ?_) E (lv_sub hl [1, 2, 3, 4, 5, 6, 7, 8, 0] rfl) G
    refine lv_iconst (v := (0 : Int32)) hx hb dL_readings_56 (by decide) ?_
    refine lv_istore (lv' := [(9, .int ((0 : Int32))), (0, .ref (ad_29 x0)), (1, .ref (ad_29 x1)), (2, .int x2), (3, .int x3), (4, .ref (ad_29 x4)), (5, .long x5), (7, .ref (ad_29 x7)), (8, .int x8)]) hx hb dL_readings_57 hl (by decide) rfl (fun ls hl => ?_)
    refine w_L_readings_L59 X hst hwf aw_FU hf ⟨by omega, by omega⟩  (fun σ_51 d_50 hf ad_52 E_53 cells slots hB H locs ls hl G => ?_) E_30 (lv_sub hl [1, 2, 3, 4, 5, 6, 7, 8, 0] rfl) G
    refine lv_iconst (v := (0 : Int32)) hx hb dL_readings_208 (by decide) ?_
    refine lv_istore (lv' := [(9, .int ((0 : Int32))), (0, .ref (ad_52 x0)), (1, .ref (ad_52 x1)), (2, .int x2), (3, .int x3), (4, .ref (ad_52 x4)), (5, .long x5), (7, .ref (ad_52 x7)), (8, .int x8)]) hx hb dL_readings_209 hl (by decide) rfl (fun ls hl => ?_)
    refine w_L_readings_L211 X hst hwf aw_FU hf ⟨by omega, by omega⟩  (fun σ_57 d_56 hf ad_58 E_59 cells slots hB H locs ls hl G => ?_) E_53 (lv_sub hl [1, 2, 3, 4, 5, 6, 7, 8, 0] rfl) G
    refine lv_lload hx hb dL_readings_233 (lv_at hl 5 rfl) ?_
    refine lv_aload hx hb dL_readings_235 (lv_at hl 4 rfl) ?_
    refine lv_iconst (v := (0 : Int32)) hx hb dL_readings_237 (by decide) ?_
    obtain ⟨hc_60, hf⟩ := aw_chk_some hf
    refine aw_lal hx hb G hc_60 dL_readings_238 ?_
    refine lv_ladd hx hb dL_readings_239 ?_
    refine lv_lstore (lv' := [(5, .long (x5 + (d_56.2 x4 ((0 : Int32)).toNatClampNeg))), (0, .ref (ad_58 x0)), (1, .ref (ad_58 x1)), (2, .int x2), (3, .int x3), (4, .ref (ad_58 x4)), (7, .ref (ad_58 x7)), (8, .int x8)]) hx hb dL_readings_240 hl (by decide) rfl (fun ls hl => ?_)
    refine lv_iinc (v := x8 + 1) (lv' := [(8, .int (x8 + 1)), (5, .long (x5 + (d_56.2 x4 ((0 : Int32)).toNatClampNeg))), (0, .ref (ad_58 x0)), (1, .ref (ad_58 x1)), (2, .int x2), (3, .int x3), (4, .ref (ad_58 x4)), (7, .ref (ad_58 x7))]) hx hb dL_readings_242 hl (k := 7) rfl rfl (by decide) rfl (fun ls hl => ?_)
    refine lv_goto (tgt := 29) hx hb dL_readings_245 (by decide) ?_
    exact hkb29 _ _ _ _ hf _ E_59 _ _ ⟨by omega, by omega⟩ _ _ _ (lv_sub hl [2, 3, 4, 5, 6, 1, 7, 0] rfl) G
theorem w_L_readings_L29 {z : Int64 × Dt} (X : aw_X p c cL_readings 16 s RL m meth (some .long)) (hst : l.stackTraces = false) (hwf : aw_wf σ0) {k29 : Int64 → Sg → Dt → Option (Int64 × Dt)} {x0 : Nat} {x1 : Nat} {x2 : Int32} {x3 : Int32} {x4 : Nat} {x7 : Nat} (n : Nat) {x5 : Int64} {x8 : Int32} {σ : Sg} {d : Dt} {ad : Nat → Nat} (hf : f_L_readings_L29 n k29 x0 x1 x2 x3 x4 x7 x5 x8 σ d = some z) { cells slots : Nat} (hB : cells + (0) ≤ 2 ∧ slots + 64 * (0) ≤ 128) (hk29 : ∀ (y5 : Int64) (σ : Sg) (d : Dt), k29 y5 σ d = some z → ∀ (ad : Nat → Nat), aw_exr σ0 ad0 σ ad → ∀ (cells slots : Nat), cells + (0) ≤ 2 ∧ slots + 64 * (0) ≤ 128 → ∀ (H : Heap) (locs : List Loc) (ls : Array Slot), lv_has ls 16 [(5, .long y5)] → aw_G D cA base ad σ d s H locs → W p l e rm_L_readings s m args below meth c H locs cells slots (aw_Elf D cA base ad0 σ0 below args s 2 128 z) (F0 m 248 ls [])) (E : aw_exr σ0 ad0 σ ad) {H : Heap} {locs : List Loc} {ls : Array Slot} (hl : lv_has ls 16 [(0, .ref (ad x0)), (1, .ref (ad x1)), (2, .int x2), (3, .int x3), (4, .ref (ad x4)), (5, .long x5), (7, .ref (ad x7)), (8, .int x8)]) (G : aw_G D cA base ad σ d s H locs) : W p l e rm_L_readings s m args below meth c H locs cells slots (aw_Elf D cA base ad0 σ0 below args s 2 128 z) (F0 m 29 ls []) := by
  induction n generalizing x5 x8 σ d ad cells slots H locs ls with
  | zero => exact absurd (show (none : Option (Int64 × Dt)) = some z from hf) (by simp)
  | succ n ih => exact w_L_readings_B29 X hst hwf (kb29 := f_L_readings_L29 n k29 x0 x1 x2 x3 x4 x7) hf ⟨by omega, by omega⟩  (fun x5 x8 σ d hf ad E cells slots hB H locs ls hl G => ih hf hB E hl G) hk29 E hl G
end W_L_readings
set_option maxHeartbeats 4000000 in
set_option maxRecDepth 100000 in
theorem c_L_readings (l : Launch) (hst : l.stackTraces = false) {σ : Sg} (hwf : aw_wf σ) {x0 : Nat} {x1 : Nat} {x2 : Int32} {d : Dt} {z : Int64 × Dt} (hf : f_L_readings σ x0 x1 x2 d = some z) : aw_Ml l yL_readings (Cond.code yL_readings cL_readings 16 (some .long)) rm_L_readings (fun ad => [.ref (ad x0), .ref (ad x1), .int x2]) σ d z := by
  intro D cA base ad
  refine aw_ofW (own := RL) (cc := cL_readings) (nL := 16) (ret := some .long) (by decide) rfl rfl ?_
  intro p e s m below meth c X hnm G
  have hx := X.1; have hb := X.2.1; have hml := X.2.2.1; have hown := X.2.2.2.1
  have E : aw_exr σ ad σ ad := ⟨aw_ext.rf hwf, aw_pr.rf⟩
  refine aw_ls (lv := [(0, .ref (ad x0)), (1, .ref (ad x1)), (2, .int x2)]) (Nat.le_of_ble_eq_true rfl) rfl (fun ls hl => ?_)
  generalize ([.ref (ad x0), .ref (ad x1), .int x2] : List Value).toArray = args0
  have hB : 0 + 2 ≤ 2 ∧ 0 + 64 * 2 ≤ 128 := by decide
  unfold f_L_readings at hf
  refine lv_aload_n hx hb dL_readings_0 rfl (lv_at hl 1 rfl) ?_
  refine lv_iload_n hx hb dL_readings_1 rfl (lv_at hl 2 rfl) ?_
  obtain ⟨z_1, hz_2, hf⟩ := aw_bind_some hf
  refine aw_SI (As := [.ref (ad x1), .int x2]) (rest := []) X G hl.1 cr_L_93 (c_L_many l hz_2) ⟨rfl, rfl⟩ rfl rfl rfl ⟨(Nat.le_of_ble_eq_true rfl), (Nat.le_of_ble_eq_true rfl)⟩ (Nat.le_of_ble_eq_true rfl) dL_readings_2 ⟨by show 0 + 0 ≤ 2; omega, by show 0 + 0 ≤ 128; omega⟩ (fun H locs G => ?_)
  refine lv_istore_n (lv' := [(3, .int z_1.1), (0, .ref (ad x0)), (1, .ref (ad x1)), (2, .int x2)]) hx hb dL_readings_5 rfl hl (by decide) rfl (fun ls hl => ?_)
  refine lv_bipush (v := (64 : Int32)) hx hb dL_readings_6 (by decide) ?_
  obtain ⟨hc_3, hf⟩ := aw_chk_some hf
  obtain ⟨hc_4, hf⟩ := aw_chk_some hf
  refine aw_newAr (atype := .long) (t := 21) (ty := .long) (N := 64) X G E rfl m_218 (by decide) rfl (fun _ _ h => h) (by decide) (by decide) (fun _ => rfl) (aw_a0l 64) (Nat.le_of_ble_eq_true rfl) (by show 0 + 1 ≤ 2; omega) (by show 0 + 64 ≤ 128; omega) hf dL_readings_8 (fun q_5 σ_6 d_7 ad_8 H hf hext_10 E_9 G => ?_)
  have ha_11 := (hext_10 _ hc_3).symm
  rw [ha_11] at hl
  have ha_12 := (hext_10 _ hc_4).symm
  rw [ha_12] at hl
  refine lv_astore (lv' := [(4, .ref (ad_8 q_5)), (3, .int z_1.1), (0, .ref (ad_8 x0)), (1, .ref (ad_8 x1)), (2, .int x2)]) hx hb dL_readings_10 hl (by decide) rfl (fun ls hl => ?_)
  refine lv_aload hx hb dL_readings_12 (lv_at hl 0 rfl) ?_
  refine lv_iload_n hx hb dL_readings_14 rfl (lv_at hl 1 rfl) ?_
  refine lv_lconst (v := (1 : Int64)) hx hb dL_readings_15 (by decide) ?_
  obtain ⟨hc_13, hf⟩ := aw_chk_some hf
  refine aw_las hx hb G hc_13 dL_readings_16 (fun H locs G => ?_)
  refine lv_lconst (v := (0 : Int64)) hx hb dL_readings_17 (by decide) ?_
  refine lv_lstore (lv' := [(5, .long ((0 : Int64))), (4, .ref (ad_8 q_5)), (3, .int z_1.1), (0, .ref (ad_8 x0)), (1, .ref (ad_8 x1)), (2, .int x2)]) hx hb dL_readings_18 hl (by decide) rfl (fun ls hl => ?_)
  refine lv_bipush (v := (64 : Int32)) hx hb dL_readings_20 (by decide) ?_
  obtain ⟨hc_14, hf⟩ := aw_chk_some hf
  obtain ⟨hc_15, hf⟩ := aw_chk_some hf
  obtain ⟨hc_16, hf⟩ := aw_chk_some hf
  refine aw_newAr (atype := .long) (t := 21) (ty := .long) (N := 64) X G E_9 rfl m_218 (by decide) rfl (fun _ _ h => h) (by decide) (by decide) (fun _ => rfl) (aw_a0l 64) (Nat.le_of_ble_eq_true rfl) (by show 0 + 1 + 1 ≤ 2; omega) (by show 0 + 64 + 64 ≤ 128; omega) hf dL_readings_22 (fun q_17 σ_18 d_19 ad_20 H hf hext_22 E_21 G => ?_)
  have ha_23 := (hext_22 _ hc_14).symm
  rw [ha_23] at hl
  have ha_24 := (hext_22 _ hc_15).symm
  rw [ha_24] at hl
  have ha_25 := (hext_22 _ hc_16).symm
  rw [ha_25] at hl
  refine lv_astore (lv' := [(7, .ref (ad_20 q_17)), (5, .long ((0 : Int64))), (4, .ref (ad_20 q_5)), (3, .int z_1.1), (0, .ref (ad_20 x0)), (1, .ref (ad_20 x1)), (2, .int x2)]) hx hb dL_readings_24 hl (by decide) rfl (fun ls hl => ?_)
  refine lv_iconst (v := (0 : Int32)) hx hb dL_readings_26 (by decide) ?_
  refine lv_istore (lv' := [(8, .int ((0 : Int32))), (7, .ref (ad_20 q_17)), (5, .long ((0 : Int64))), (4, .ref (ad_20 q_5)), (3, .int z_1.1), (0, .ref (ad_20 x0)), (1, .ref (ad_20 x1)), (2, .int x2)]) hx hb dL_readings_27 hl (by decide) rfl (fun ls hl => ?_)
  refine w_L_readings_L29 X hst hwf aw_FU hf ⟨by omega, by omega⟩  (fun x5_61 σ_63 d_62 hf ad_64 E_65 cells slots hB H locs ls hl G => ?_) E_21 (lv_sub hl [5, 6, 7, 4, 3, 2, 1, 0] rfl) G
  refine lv_lload hx hb dL_readings_248 (lv_at hl 0 rfl) ?_
  exact aw_retlf X G E_65 hwf hf dL_readings_250 (by omega) (by omega)
