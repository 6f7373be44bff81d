def rm_L_length : Room := { frames := 0, cells := 0, slots := 0, locals := 0 }
def f_L_length_B4 (σ : Sg) (kb4 : Int32 → Int32 → Dt → Option (Int32 × Dt)) (k4 : Int32 → Dt → Option (Int32 × Dt)) (x1 : Int32) (x2 : Int32) (d : Dt) : Option (Int32 × Dt) :=
  if x2 ≤ 0 then k4 x1 d else kb4 (x1 + 1) (x2 / (10 : Int32)) d
def f_L_length_L4 (σ : Sg) (n : Nat) (k4 : Int32 → Dt → Option (Int32 × Dt)) : Int32 → Int32 → Dt → Option (Int32 × Dt) := match n with
  | 0 => fun _ _ _ => none
  | n + 1 => fun x1 x2 d => f_L_length_B4 σ (f_L_length_L4 σ n k4) k4 x1 x2 d
def f_L_length (σ : Sg) (x0 : Int32) (d : Dt) : Option (Int32 × Dt) :=
  f_L_length_L4 σ aw_FU (fun x1_1 d_2 => some (x1_1, d_2)) ((0 : Int32)) x0 d
section W_L_length
variable {p : Program} {l : Launch} {e : Env} {s : State} {m : MethodId} {args : Array Value} {below : List Frame} {meth : Method} {c : Code}
variable {D : va_G} {cA : Nat → ClassId} {base : Nat} {ad : Nat → Nat} {σ : Sg}
set_option maxHeartbeats 4000000 in
set_option maxRecDepth 100000 in
theorem w_L_length_B4 {z : Int32 × Dt} (X : aw_X p c cL_length 3 s RL m meth (some .int)) {kb4 : Int32 → Int32 → Dt → Option (Int32 × Dt)} {k4 : Int32 → Dt → Option (Int32 × Dt)} {x1 : Int32} {x2 : Int32} {d : Dt} (hf : f_L_length_B4 σ kb4 k4 x1 x2 d = some z) (hkb4 : ∀ (y1 : Int32) (y2 : Int32) (d : Dt), kb4 y1 y2 d = some z → ∀ (H : Heap) (locs : List Loc) (ls : Array Slot), lv_has ls 3 [(1, .int y1), (2, .int y2)] → aw_G D cA base ad σ d s H locs → W p l e rm_L_length s m args below meth c H locs 0 0 (aw_Ei D cA base ad σ below args s z) (F0 m 4 ls [])) (hk4 : ∀ (y1 : Int32) (d : Dt), k4 y1 d = some z → ∀ (H : Heap) (locs : List Loc) (ls : Array Slot), lv_has ls 3 [(1, .int y1)] → aw_G D cA base ad σ d s H locs → W p l e rm_L_length s m args below meth c H locs 0 0 (aw_Ei D cA base ad σ below args s z) (F0 m 19 ls [])) {H : Heap} {locs : List Loc} {ls : Array Slot} (hl : lv_has ls 3 [(1, .int x1), (2, .int x2)]) (G : aw_G D cA base ad σ d s H locs) : W p l e rm_L_length s m args below meth c H locs 0 0 (aw_Ei D cA base ad σ below args s z) (F0 m 4 ls []) := by
  have hx := X.1; have hb := X.2.1; have hml := X.2.2.1; have hown := X.2.2.2.1
  unfold f_L_length_B4 at hf
  refine lv_iload_n hx hb dL_length_4 rfl (lv_at hl 1 rfl) ?_
  refine lv_if_le (tgt := 19) hx hb dL_length_5 (by decide) (fun hc => ?_) (fun hc => ?_)
  · have hf := aw_ite_t hc hf
    exact hk4 _ _ hf _ _ _ (lv_sub hl [0] rfl) G
  · have hf := aw_ite_f hc hf
    refine lv_iinc (v := x1 + 1) (lv' := [(1, .int (x1 + 1)), (2, .int x2)]) hx hb dL_length_8 hl (k := 0) rfl rfl (by decide) rfl (fun ls hl => ?_)
    refine lv_iload_n hx hb dL_length_11 rfl (lv_at hl 1 rfl) ?_
    refine lv_bipush (v := (10 : Int32)) hx hb dL_length_12 (by decide) ?_
    refine lv_idiv hx hb dL_length_14 (by decide) ?_
    refine lv_istore_n (lv' := [(2, .int (x2 / (10 : Int32))), (1, .int (x1 + 1))]) hx hb dL_length_15 rfl hl (by decide) rfl (fun ls hl => ?_)
    refine lv_goto (tgt := 4) hx hb dL_length_16 (by decide) ?_
    exact hkb4 _ _ _ hf _ _ _ (lv_sub hl [1, 0] rfl) G
theorem w_L_length_L4 {z : Int32 × Dt} (X : aw_X p c cL_length 3 s RL m meth (some .int)) {k4 : Int32 → Dt → Option (Int32 × Dt)} (n : Nat) {x1 : Int32} {x2 : Int32} {d : Dt} (hf : f_L_length_L4 σ n k4 x1 x2 d = some z) (hk4 : ∀ (y1 : Int32) (d : Dt), k4 y1 d = some z → ∀ (H : Heap) (locs : List Loc) (ls : Array Slot), lv_has ls 3 [(1, .int y1)] → aw_G D cA base ad σ d s H locs → W p l e rm_L_length s m args below meth c H locs 0 0 (aw_Ei D cA base ad σ below args s z) (F0 m 19 ls [])) {H : Heap} {locs : List Loc} {ls : Array Slot} (hl : lv_has ls 3 [(1, .int x1), (2, .int x2)]) (G : aw_G D cA base ad σ d s H locs) : W p l e rm_L_length s m args below meth c H locs 0 0 (aw_Ei D cA base ad σ below args s z) (F0 m 4 ls []) := by
  induction n generalizing x1 x2 d H locs ls with
  | zero => exact absurd (show (none : Option (Int32 × Dt)) = some z from hf) (by simp)
  | succ n ih => exact w_L_length_B4 X (kb4 := f_L_length_L4 σ n k4) hf  (fun x1 x2 d hf H locs ls hl G => ih hf hl G) hk4 hl G
end W_L_length
set_option maxHeartbeats 4000000 in
set_option maxRecDepth 100000 in
theorem c_L_length (l : Launch) {σ : Sg} {x0 : Int32} {d : Dt} {z : Int32 × Dt} (hf : f_L_length σ x0 d = some z) : aw_Mi l yL_length (Cond.code yL_length cL_length 3 (some .int)) rm_L_length (fun ad => [.int x0]) σ d z := by
  intro D cA base ad
  refine aw_ofW (own := RL) (cc := cL_length) (nL := 3) (ret := some .int) (by decide) rfl rfl ?_
  intro p e s m below meth c X hnm G
  have hx := X.1; have hb := X.2.1; have hml := X.2.2.1; have hown := X.2.2.2.1
  refine aw_ls (lv := [(0, .int x0)]) (Nat.le_of_ble_eq_true rfl) rfl (fun ls hl => ?_)
  unfold f_L_length at hf
  refine lv_iconst (v := (0 : Int32)) hx hb dL_length_0 (by decide) ?_
  refine lv_istore_n (lv' := [(1, .int ((0 : Int32))), (0, .int x0)]) hx hb dL_length_1 rfl hl (by decide) rfl (fun ls hl => ?_)
  refine lv_iload_n hx hb dL_length_2 rfl (lv_at hl 1 rfl) ?_
  refine lv_istore_n (lv' := [(2, .int x0), (1, .int ((0 : Int32))), (0, .int x0)]) hx hb dL_length_3 rfl hl (by decide) rfl (fun ls hl => ?_)
  refine w_L_length_L4 X aw_FU hf  (fun x1_1 d_2 hf H locs ls hl G => ?_) (lv_sub hl [1, 0] rfl) G
  refine lv_iload_n hx hb dL_length_19 rfl (lv_at hl 0 rfl) ?_
  exact aw_reti X G hf dL_length_20
def rm_L_apart : Room := { frames := 1, cells := 0, slots := 0, locals := 22 }
def f_L_apart_B40 (σ : Sg) (kb40 : Int32 → Int32 → Dt → Option (Int32 × Dt)) (k40 : Int32 → Dt → Option (Int32 × Dt)) (x0 : Nat) (x1 : Int32) (x2 : Int32) (x3 : Int32) (x4 : Int32) (x5 : Int32) (x6 : Int32) (x8 : Int32) (x7 : Int32) (x9 : Int32) (d : Dt) : Option (Int32 × Dt) :=
  if x3 ≤ x9 then k40 x7 d else kb40 (x7 / (10 : Int32)) (x9 + 1) d
def f_L_apart_L40 (σ : Sg) (n : Nat) (k40 : Int32 → Dt → Option (Int32 × Dt)) (x0 : Nat) (x1 : Int32) (x2 : Int32) (x3 : Int32) (x4 : Int32) (x5 : Int32) (x6 : Int32) (x8 : Int32) : Int32 → Int32 → Dt → Option (Int32 × Dt) := match n with
  | 0 => fun _ _ _ => none
  | n + 1 => fun x7 x9 d => f_L_apart_B40 σ (f_L_apart_L40 σ n k40 x0 x1 x2 x3 x4 x5 x6 x8) k40 x0 x1 x2 x3 x4 x5 x6 x8 x7 x9 d
def f_L_apart_B63 (σ : Sg) (kb63 : Int32 → Int32 → Dt → Option (Int32 × Dt)) (k63 : Int32 → Dt → Option (Int32 × Dt)) (x0 : Nat) (x1 : Int32) (x2 : Int32) (x3 : Int32) (x4 : Int32) (x5 : Int32) (x6 : Int32) (x7 : Int32) (x8 : Int32) (x9 : Int32) (d : Dt) : Option (Int32 × Dt) :=
  if x4 ≤ x9 then k63 x8 d else kb63 (x8 / (10 : Int32)) (x9 + 1) d
def f_L_apart_L63 (σ : Sg) (n : Nat) (k63 : Int32 → Dt → Option (Int32 × Dt)) (x0 : Nat) (x1 : Int32) (x2 : Int32) (x3 : Int32) (x4 : Int32) (x5 : Int32) (x6 : Int32) (x7 : Int32) : Int32 → Int32 → Dt → Option (Int32 × Dt) := match n with
  | 0 => fun _ _ _ => none
  | n + 1 => fun x8 x9 d => f_L_apart_B63 σ (f_L_apart_L63 σ n k63 x0 x1 x2 x3 x4 x5 x6 x7) k63 x0 x1 x2 x3 x4 x5 x6 x7 x8 x9 d
def f_L_apart_J210 (σ : Sg) (kb23 : Int32 → Dt → Option (Int32 × Dt)) (t2 : Int32) (t1 : Int32) (t0 : Nat) (x0 : Nat) (x1 : Int32) (x2 : Int32) (x3 : Int32) (x4 : Int32) (x5 : Int32) (x6 : Int32) (d : Dt) : Option (Int32 × Dt) :=
  aw_chk (aw_I σ 20 t0 t1) (kb23 (x6 + 1) (aw_sI d t0 t1.toNatClampNeg t2))
def f_L_apart_J208 (σ : Sg) (kb23 : Int32 → Dt → Option (Int32 × Dt)) (t1 : Int32) (t0 : Nat) (x0 : Nat) (x1 : Int32) (x2 : Int32) (x3 : Int32) (x4 : Int32) (x5 : Int32) (x6 : Int32) (x10 : Int32) (d : Dt) : Option (Int32 × Dt) :=
  f_L_apart_J210 σ kb23 x10 t1 t0 x0 x1 x2 x3 x4 x5 x6 d
def f_L_apart_J174 (σ : Sg) (kb23 : Int32 → Dt → Option (Int32 × Dt)) (t0 : Int32) (x0 : Nat) (x1 : Int32) (x2 : Int32) (x3 : Int32) (x4 : Int32) (x5 : Int32) (x6 : Int32) (x9 : Int32) (d : Dt) : Option (Int32 × Dt) :=
  if x6 ≤ 0 then f_L_apart_J208 σ kb23 x9 x0 x0 x1 x2 x3 x4 x5 x6 t0 d else aw_chk (aw_I σ 20 x0 (x9 - ((1 : Int32)))) (if t0 ≤ ((d.1 x0 (x9 - ((1 : Int32))).toNatClampNeg) + ((1 : Int32))) then f_L_apart_J208 σ kb23 x9 x0 x0 x1 x2 x3 x4 x5 x6 t0 d else f_L_apart_J210 σ kb23 ((d.1 x0 (x9 - ((1 : Int32))).toNatClampNeg) + ((1 : Int32))) x9 x0 x0 x1 x2 x3 x4 x5 x6 d)
def f_L_apart_J172 (σ : Sg) (kb23 : Int32 → Dt → Option (Int32 × Dt)) (x0 : Nat) (x1 : Int32) (x2 : Int32) (x3 : Int32) (x4 : Int32) (x5 : Int32) (x6 : Int32) (x9 : Int32) (x10 : Int32) (d : Dt) : Option (Int32 × Dt) :=
  f_L_apart_J174 σ kb23 x10 x0 x1 x2 x3 x4 x5 x6 x9 d
def f_L_apart_J141 (σ : Sg) (kb23 : Int32 → Dt → Option (Int32 × Dt)) (t0 : Int32) (x0 : Nat) (x1 : Int32) (x2 : Int32) (x3 : Int32) (x4 : Int32) (x5 : Int32) (x6 : Int32) (x9 : Int32) (d : Dt) : Option (Int32 × Dt) :=
  if x5 ≤ 0 then f_L_apart_J172 σ kb23 x0 x1 x2 x3 x4 x5 x6 x9 t0 d else aw_chk (aw_I σ 20 x0 (x9 - ((5 : Int32)))) (if t0 ≤ ((d.1 x0 (x9 - ((5 : Int32))).toNatClampNeg) + ((1 : Int32))) then f_L_apart_J172 σ kb23 x0 x1 x2 x3 x4 x5 x6 x9 t0 d else f_L_apart_J174 σ kb23 ((d.1 x0 (x9 - ((5 : Int32))).toNatClampNeg) + ((1 : Int32))) x0 x1 x2 x3 x4 x5 x6 x9 d)
def f_L_apart_J140 (σ : Sg) (kb23 : Int32 → Dt → Option (Int32 × Dt)) (t1 : Int32) (t0 : Int32) (x0 : Nat) (x1 : Int32) (x2 : Int32) (x3 : Int32) (x4 : Int32) (x5 : Int32) (x6 : Int32) (x9 : Int32) (d : Dt) : Option (Int32 × Dt) :=
  f_L_apart_J141 σ kb23 (t0 + t1) x0 x1 x2 x3 x4 x5 x6 x9 d
def f_L_apart_B23 (σ : Sg) (kb23 : Int32 → Dt → Option (Int32 × Dt)) (k23 : Dt → Option (Int32 × Dt)) (x0 : Nat) (x1 : Int32) (x2 : Int32) (x3 : Int32) (x4 : Int32) (x5 : Int32) (x6 : Int32) (d : Dt) : Option (Int32 × Dt) :=
  if x4 < x6 then k23 d else f_L_apart_L40 σ aw_FU (fun x7_5 d_6 => f_L_apart_L63 σ aw_FU (fun x8_7 d_8 => if x5 = 0 then f_L_apart_J141 σ kb23 x6 x0 x1 x2 x3 x4 x5 x6 ((((20 : Int32)) + (((5 : Int32)) * x5)) + x6) d_8 else if x6 = 0 then f_L_apart_J141 σ kb23 x5 x0 x1 x2 x3 x4 x5 x6 ((((20 : Int32)) + (((5 : Int32)) * x5)) + x6) d_8 else aw_chk (aw_I σ 20 x0 (((((20 : Int32)) + (((5 : Int32)) * x5)) + x6) - ((6 : Int32)))) (if (x7_5 - x7_5 / (10 : Int32) * (10 : Int32)) = (x8_7 - x8_7 / (10 : Int32) * (10 : Int32)) then f_L_apart_J140 σ kb23 ((0 : Int32)) (d_8.1 x0 (((((20 : Int32)) + (((5 : Int32)) * x5)) + x6) - ((6 : Int32))).toNatClampNeg) x0 x1 x2 x3 x4 x5 x6 ((((20 : Int32)) + (((5 : Int32)) * x5)) + x6) d_8 else f_L_apart_J140 σ kb23 ((1 : Int32)) (d_8.1 x0 (((((20 : Int32)) + (((5 : Int32)) * x5)) + x6) - ((6 : Int32))).toNatClampNeg) x0 x1 x2 x3 x4 x5 x6 ((((20 : Int32)) + (((5 : Int32)) * x5)) + x6) d_8)) x0 x1 x2 x3 x4 x5 x6 x7_5 x2 x6 d_6) x0 x1 x2 x3 x4 x5 x6 x2 x1 x5 d
def f_L_apart_L23 (σ : Sg) (n : Nat) (k23 : Dt → Option (Int32 × Dt)) (x0 : Nat) (x1 : Int32) (x2 : Int32) (x3 : Int32) (x4 : Int32) (x5 : Int32) : Int32 → Dt → Option (Int32 × Dt) := match n with
  | 0 => fun _ _ => none
  | n + 1 => fun x6 d => f_L_apart_B23 σ (f_L_apart_L23 σ n k23 x0 x1 x2 x3 x4 x5) k23 x0 x1 x2 x3 x4 x5 x6 d
def f_L_apart_B14 (σ : Sg) (kb14 : Int32 → Dt → Option (Int32 × Dt)) (k14 : Dt → Option (Int32 × Dt)) (x0 : Nat) (x1 : Int32) (x2 : Int32) (x3 : Int32) (x4 : Int32) (x5 : Int32) (d : Dt) : Option (Int32 × Dt) :=
  if x3 < x5 then k14 d else f_L_apart_L23 σ aw_FU (fun d_13 => kb14 (x5 + 1) d_13) x0 x1 x2 x3 x4 x5 ((0 : Int32)) d
def f_L_apart_L14 (σ : Sg) (n : Nat) (k14 : Dt → Option (Int32 × Dt)) (x0 : Nat) (x1 : Int32) (x2 : Int32) (x3 : Int32) (x4 : Int32) : Int32 → Dt → Option (Int32 × Dt) := match n with
  | 0 => fun _ _ => none
  | n + 1 => fun x5 d => f_L_apart_B14 σ (f_L_apart_L14 σ n k14 x0 x1 x2 x3 x4) k14 x0 x1 x2 x3 x4 x5 d
def f_L_apart (σ : Sg) (x0 : Nat) (x1 : Int32) (x2 : Int32) (d : Dt) : Option (Int32 × Dt) :=
  (f_L_length σ x1 d).bind (fun z_1 => (f_L_length σ x2 z_1.2).bind (fun z_3 => f_L_apart_L14 σ aw_FU (fun d_14 => aw_chk (aw_I σ 20 x0 ((((20 : Int32)) + (((5 : Int32)) * z_1.1)) + z_3.1)) (some (d_14.1 x0 ((((20 : Int32)) + (((5 : Int32)) * z_1.1)) + z_3.1).toNatClampNeg, d_14))) x0 x1 x2 z_1.1 z_3.1 ((0 : Int32)) z_3.2))
section W_L_apart
variable {p : Program} {l : Launch} {e : Env} {s : State} {m : MethodId} {args : Array Value} {below : List Frame} {meth : Method} {c : Code}
variable {D : va_G} {cA : Nat → ClassId} {base : Nat} {ad : Nat → Nat} {σ : Sg}
set_option maxHeartbeats 4000000 in
set_option maxRecDepth 100000 in
theorem w_L_apart_B40 {z : Int32 × Dt} (X : aw_X p c cL_apart 11 s RL m meth (some .int)) {kb40 : Int32 → Int32 → Dt → Option (Int32 × Dt)} {k40 : Int32 → Dt → Option (Int32 × Dt)} {x0 : Nat} {x1 : Int32} {x2 : Int32} {x3 : Int32} {x4 : Int32} {x5 : Int32} {x6 : Int32} {x8 : Int32} {x7 : Int32} {x9 : Int32} {d : Dt} (hf : f_L_apart_B40 σ kb40 k40 x0 x1 x2 x3 x4 x5 x6 x8 x7 x9 d = some z) (hkb40 : ∀ (y7 : Int32) (y9 : Int32) (d : Dt), kb40 y7 y9 d = some z → ∀ (H : Heap) (locs : List Loc) (ls : Array Slot), lv_has ls 11 [(0, .ref (ad x0)), (1, .int x1), (2, .int x2), (3, .int x3), (4, .int x4), (5, .int x5), (6, .int x6), (7, .int y7), (8, .int x8), (9, .int y9)] → aw_G D cA base ad σ d s H locs → W p l e rm_L_apart s m args below meth c H locs 0 0 (aw_Ei D cA base ad σ below args s z) (F0 m 40 ls [])) (hk40 : ∀ (y7 : Int32) (d : Dt), k40 y7 d = some z → ∀ (H : Heap) (locs : List Loc) (ls : Array Slot), lv_has ls 11 [(0, .ref (ad x0)), (1, .int x1), (2, .int x2), (3, .int x3), (4, .int x4), (5, .int x5), (6, .int x6), (7, .int y7), (8, .int x8)] → aw_G D cA base ad σ d s H locs → W p l e rm_L_apart s m args below meth c H locs 0 0 (aw_Ei D cA base ad σ below args s z) (F0 m 59 ls [])) {H : Heap} {locs : List Loc} {ls : Array Slot} (hl : lv_has ls 11 [(0, .ref (ad x0)), (1, .int x1), (2, .int x2), (3, .int x3), (4, .int x4), (5, .int x5), (6, .int x6), (7, .int x7), (8, .int x8), (9, .int x9)]) (G : aw_G D cA base ad σ d s H locs) : W p l e rm_L_apart s m args below meth c H locs 0 0 (aw_Ei D cA base ad σ below args s z) (F0 m 40 ls []) := by
  have hx := X.1; have hb := X.2.1; have hml := X.2.2.1; have hown := X.2.2.2.1
  unfold f_L_apart_B40 at hf
  refine lv_iload hx hb dL_apart_40 (lv_at hl 9 rfl) ?_
  refine lv_iload_n hx hb dL_apart_42 rfl (lv_at hl 3 rfl) ?_
  refine lv_icmp_ge (tgt := 59) hx hb dL_apart_43 (by decide) (fun hc => ?_) (fun hc => ?_)
  · have hf := aw_ite_t hc hf
    exact hk40 _ _ hf _ _ _ (lv_sub hl [0, 1, 2, 3, 4, 5, 6, 7, 8] rfl) G
  · have hf := aw_ite_f hc hf
    refine lv_iload hx hb dL_apart_46 (lv_at hl 7 rfl) ?_
    refine lv_bipush (v := (10 : Int32)) hx hb dL_apart_48 (by decide) ?_
    refine lv_idiv hx hb dL_apart_50 (by decide) ?_
    refine lv_istore (lv' := [(7, .int (x7 / (10 : Int32))), (0, .ref (ad x0)), (1, .int x1), (2, .int x2), (3, .int x3), (4, .int x4), (5, .int x5), (6, .int x6), (8, .int x8), (9, .int x9)]) hx hb dL_apart_51 hl (by decide) rfl (fun ls hl => ?_)
    refine lv_iinc (v := x9 + 1) (lv' := [(9, .int (x9 + 1)), (7, .int (x7 / (10 : Int32))), (0, .ref (ad x0)), (1, .int x1), (2, .int x2), (3, .int x3), (4, .int x4), (5, .int x5), (6, .int x6), (8, .int x8)]) hx hb dL_apart_53 hl (k := 9) rfl rfl (by decide) rfl (fun ls hl => ?_)
    refine lv_goto (tgt := 40) hx hb dL_apart_56 (by decide) ?_
    exact hkb40 _ _ _ hf _ _ _ (lv_sub hl [2, 3, 4, 5, 6, 7, 8, 1, 9, 0] rfl) G
theorem w_L_apart_L40 {z : Int32 × Dt} (X : aw_X p c cL_apart 11 s RL m meth (some .int)) {k40 : Int32 → Dt → Option (Int32 × Dt)} {x0 : Nat} {x1 : Int32} {x2 : Int32} {x3 : Int32} {x4 : Int32} {x5 : Int32} {x6 : Int32} {x8 : Int32} (n : Nat) {x7 : Int32} {x9 : Int32} {d : Dt} (hf : f_L_apart_L40 σ n k40 x0 x1 x2 x3 x4 x5 x6 x8 x7 x9 d = some z) (hk40 : ∀ (y7 : Int32) (d : Dt), k40 y7 d = some z → ∀ (H : Heap) (locs : List Loc) (ls : Array Slot), lv_has ls 11 [(0, .ref (ad x0)), (1, .int x1), (2, .int x2), (3, .int x3), (4, .int x4), (5, .int x5), (6, .int x6), (7, .int y7), (8, .int x8)] → aw_G D cA base ad σ d s H locs → W p l e rm_L_apart s m args below meth c H locs 0 0 (aw_Ei D cA base ad σ below args s z) (F0 m 59 ls [])) {H : Heap} {locs : List Loc} {ls : Array Slot} (hl : lv_has ls 11 [(0, .ref (ad x0)), (1, .int x1), (2, .int x2), (3, .int x3), (4, .int x4), (5, .int x5), (6, .int x6), (7, .int x7), (8, .int x8), (9, .int x9)]) (G : aw_G D cA base ad σ d s H locs) : W p l e rm_L_apart s m args below meth c H locs 0 0 (aw_Ei D cA base ad σ below args s z) (F0 m 40 ls []) := by
  induction n generalizing x7 x9 d H locs ls with
  | zero => exact absurd (show (none : Option (Int32 × Dt)) = some z from hf) (by simp)
  | succ n ih => exact w_L_apart_B40 X (kb40 := f_L_apart_L40 σ n k40 x0 x1 x2 x3 x4 x5 x6 x8) hf  (fun x7 x9 d hf H locs ls hl G => ih hf hl G) hk40 hl G
set_option maxHeartbeats 4000000 in
set_option maxRecDepth 100000 in
theorem w_L_apart_B63 {z : Int32 × Dt} (X : aw_X p c cL_apart 11 s RL m meth (some .int)) {kb63 : Int32 → Int32 → Dt → Option (Int32 × Dt)} {k63 : Int32 → Dt → Option (Int32 × Dt)} {x0 : Nat} {x1 : Int32} {x2 : Int32} {x3 : Int32} {x4 : Int32} {x5 : Int32} {x6 : Int32} {x7 : Int32} {x8 : Int32} {x9 : Int32} {d : Dt} (hf : f_L_apart_B63 σ kb63 k63 x0 x1 x2 x3 x4 x5 x6 x7 x8 x9 d = some z) (hkb63 : ∀ (y8 : Int32) (y9 : Int32) (d : Dt), kb63 y8 y9 d = some z → ∀ (H : Heap) (locs : List Loc) (ls : Array Slot), lv_has ls 11 [(0, .ref (ad x0)), (1, .int x1), (2, .int x2), (3, .int x3), (4, .int x4), (5, .int x5), (6, .int x6), (7, .int x7), (8, .int y8), (9, .int y9)] → aw_G D cA base ad σ d s H locs → W p l e rm_L_apart s m args below meth c H locs 0 0 (aw_Ei D cA base ad σ below args s z) (F0 m 63 ls [])) (hk63 : ∀ (y8 : Int32) (d : Dt), k63 y8 d = some z → ∀ (H : Heap) (locs : List Loc) (ls : Array Slot), lv_has ls 11 [(0, .ref (ad x0)), (1, .int x1), (2, .int x2), (3, .int x3), (4, .int x4), (5, .int x5), (6, .int x6), (7, .int x7), (8, .int y8)] → aw_G D cA base ad σ d s H locs → W p l e rm_L_apart s m args below meth c H locs 0 0 (aw_Ei D cA base ad σ below args s z) (F0 m 83 ls [])) {H : Heap} {locs : List Loc} {ls : Array Slot} (hl : lv_has ls 11 [(0, .ref (ad x0)), (1, .int x1), (2, .int x2), (3, .int x3), (4, .int x4), (5, .int x5), (6, .int x6), (7, .int x7), (8, .int x8), (9, .int x9)]) (G : aw_G D cA base ad σ d s H locs) : W p l e rm_L_apart s m args below meth c H locs 0 0 (aw_Ei D cA base ad σ below args s z) (F0 m 63 ls []) := by
  have hx := X.1; have hb := X.2.1; have hml := X.2.2.1; have hown := X.2.2.2.1
  unfold f_L_apart_B63 at hf
  refine lv_iload hx hb dL_apart_63 (lv_at hl 9 rfl) ?_
  refine lv_iload hx hb dL_apart_65 (lv_at hl 4 rfl) ?_
  refine lv_icmp_ge (tgt := 83) hx hb dL_apart_67 (by decide) (fun hc => ?_) (fun hc => ?_)
  · have hf := aw_ite_t hc hf
    exact hk63 _ _ hf _ _ _ (lv_sub hl [0, 1, 2, 3, 4, 5, 6, 7, 8] rfl) G
  · have hf := aw_ite_f hc hf
    refine lv_iload hx hb dL_apart_70 (lv_at hl 8 rfl) ?_
    refine lv_bipush (v := (10 : Int32)) hx hb dL_apart_72 (by decide) ?_
    refine lv_idiv hx hb dL_apart_74 (by decide) ?_
    refine lv_istore (lv' := [(8, .int (x8 / (10 : Int32))), (0, .ref (ad x0)), (1, .int x1), (2, .int x2), (3, .int x3), (4, .int x4), (5, .int x5), (6, .int x6), (7, .int x7), (9, .int x9)]) hx hb dL_apart_75 hl (by decide) rfl (fun ls hl => ?_)
    refine lv_iinc (v := x9 + 1) (lv' := [(9, .int (x9 + 1)), (8, .int (x8 / (10 : Int32))), (0, .ref (ad x0)), (1, .int x1), (2, .int x2), (3, .int x3), (4, .int x4), (5, .int x5), (6, .int x6), (7, .int x7)]) hx hb dL_apart_77 hl (k := 9) rfl rfl (by decide) rfl (fun ls hl => ?_)
    refine lv_goto (tgt := 63) hx hb dL_apart_80 (by decide) ?_
    exact hkb63 _ _ _ hf _ _ _ (lv_sub hl [2, 3, 4, 5, 6, 7, 8, 9, 1, 0] rfl) G
theorem w_L_apart_L63 {z : Int32 × Dt} (X : aw_X p c cL_apart 11 s RL m meth (some .int)) {k63 : Int32 → Dt → Option (Int32 × Dt)} {x0 : Nat} {x1 : Int32} {x2 : Int32} {x3 : Int32} {x4 : Int32} {x5 : Int32} {x6 : Int32} {x7 : Int32} (n : Nat) {x8 : Int32} {x9 : Int32} {d : Dt} (hf : f_L_apart_L63 σ n k63 x0 x1 x2 x3 x4 x5 x6 x7 x8 x9 d = some z) (hk63 : ∀ (y8 : Int32) (d : Dt), k63 y8 d = some z → ∀ (H : Heap) (locs : List Loc) (ls : Array Slot), lv_has ls 11 [(0, .ref (ad x0)), (1, .int x1), (2, .int x2), (3, .int x3), (4, .int x4), (5, .int x5), (6, .int x6), (7, .int x7), (8, .int y8)] → aw_G D cA base ad σ d s H locs → W p l e rm_L_apart s m args below meth c H locs 0 0 (aw_Ei D cA base ad σ below args s z) (F0 m 83 ls [])) {H : Heap} {locs : List Loc} {ls : Array Slot} (hl : lv_has ls 11 [(0, .ref (ad x0)), (1, .int x1), (2, .int x2), (3, .int x3), (4, .int x4), (5, .int x5), (6, .int x6), (7, .int x7), (8, .int x8), (9, .int x9)]) (G : aw_G D cA base ad σ d s H locs) : W p l e rm_L_apart s m args below meth c H locs 0 0 (aw_Ei D cA base ad σ below args s z) (F0 m 63 ls []) := by
  induction n generalizing x8 x9 d H locs ls with
  | zero => exact absurd (show (none : Option (Int32 × Dt)) = some z from hf) (by simp)
  | succ n ih => exact w_L_apart_B63 X (kb63 := f_L_apart_L63 σ n k63 x0 x1 x2 x3 x4 x5 x6 x7) hf  (fun x8 x9 d hf H locs ls hl G => ih hf hl G) hk63 hl G
set_option maxHeartbeats 4000000 in
set_option maxRecDepth 100000 in
theorem w_L_apart_J210 {z : Int32 × Dt} (X : aw_X p c cL_apart 11 s RL m meth (some .int)) {kb23 : Int32 → Dt → Option (Int32 × Dt)} {t2 : Int32} {t1 : Int32} {t0 : Nat} {x0 : Nat} {x1 : Int32} {x2 : Int32} {x3 : Int32} {x4 : Int32} {x5 : Int32} {x6 : Int32} {d : Dt} (hf : f_L_apart_J210 σ kb23 t2 t1 t0 x0 x1 x2 x3 x4 x5 x6 d = some z) (hkb23 : ∀ (y6 : Int32) (d : Dt), kb23 y6 d = some z → ∀ (H : Heap) (locs : List Loc) (ls : Array Slot), lv_has ls 11 [(0, .ref (ad x0)), (1, .int x1), (2, .int x2), (3, .int x3), (4, .int x4), (5, .int x5), (6, .int y6)] → aw_G D cA base ad σ d s H locs → W p l e rm_L_apart s m args below meth c H locs 0 0 (aw_Ei D cA base ad σ below args s z) (F0 m 23 ls [])) {H : Heap} {locs : List Loc} {ls : Array Slot} (hl : lv_has ls 11 [(0, .ref (ad x0)), (1, .int x1), (2, .int x2), (3, .int x3), (4, .int x4), (5, .int x5), (6, .int x6)]) (G : aw_G D cA base ad σ d s H locs) : W p l e rm_L_apart s m args below meth c H locs 0 0 (aw_Ei D cA base ad σ below args s z) (F0 m 210 ls [.int t2, .int t1, .ref (ad t0)]) := by
  have hx := X.1; have hb := X.2.1; have hml := X.2.2.1; have hown := X.2.2.2.1
  unfold f_L_apart_J210 at hf
  obtain ⟨hc_10, hf⟩ := aw_chk_some hf
  refine aw_ias hx hb G hc_10 dL_apart_210 (fun H locs G => ?_)
  refine lv_iinc (v := x6 + 1) (lv' := [(6, .int (x6 + 1)), (0, .ref (ad x0)), (1, .int x1), (2, .int x2), (3, .int x3), (4, .int x4), (5, .int x5)]) hx hb dL_apart_211 hl (k := 6) rfl rfl (by decide) rfl (fun ls hl => ?_)
  refine lv_goto (tgt := 23) hx hb dL_apart_214 (by decide) ?_
  exact hkb23 _ _ hf _ _ _ (lv_sub hl [1, 2, 3, 4, 5, 6, 0] rfl) G
set_option maxHeartbeats 4000000 in
set_option maxRecDepth 100000 in
theorem w_L_apart_J208 {z : Int32 × Dt} (X : aw_X p c cL_apart 11 s RL m meth (some .int)) {kb23 : Int32 → Dt → Option (Int32 × Dt)} {t1 : Int32} {t0 : Nat} {x0 : Nat} {x1 : Int32} {x2 : Int32} {x3 : Int32} {x4 : Int32} {x5 : Int32} {x6 : Int32} {x10 : Int32} {d : Dt} (hf : f_L_apart_J208 σ kb23 t1 t0 x0 x1 x2 x3 x4 x5 x6 x10 d = some z) (hkb23 : ∀ (y6 : Int32) (d : Dt), kb23 y6 d = some z → ∀ (H : Heap) (locs : List Loc) (ls : Array Slot), lv_has ls 11 [(0, .ref (ad x0)), (1, .int x1), (2, .int x2), (3, .int x3), (4, .int x4), (5, .int x5), (6, .int y6)] → aw_G D cA base ad σ d s H locs → W p l e rm_L_apart s m args below meth c H locs 0 0 (aw_Ei D cA base ad σ below args s z) (F0 m 23 ls [])) {H : Heap} {locs : List Loc} {ls : Array Slot} (hl : lv_has ls 11 [(0, .ref (ad x0)), (1, .int x1), (2, .int x2), (3, .int x3), (4, .int x4), (5, .int x5), (6, .int x6), (10, .int x10)]) (G : aw_G D cA base ad σ d s H locs) : W p l e rm_L_apart s m args below meth c H locs 0 0 (aw_Ei D cA base ad σ below args s z) (F0 m 208 ls [.int t1, .ref (ad t0)]) := by
  have hx := X.1; have hb := X.2.1; have hml := X.2.2.1; have hown := X.2.2.2.1
  unfold f_L_apart_J208 at hf
  refine lv_iload hx hb dL_apart_208 (lv_at hl 7 rfl) ?_
  exact w_L_apart_J210 X hf hkb23 (lv_sub hl [0, 1, 2, 3, 4, 5, 6] rfl) G
set_option maxHeartbeats 4000000 in
set_option maxRecDepth 100000 in
theorem w_L_apart_J174 {z : Int32 × Dt} (X : aw_X p c cL_apart 11 s RL m meth (some .int)) {kb23 : Int32 → Dt → Option (Int32 × Dt)} {t0 : Int32} {x0 : Nat} {x1 : Int32} {x2 : Int32} {x3 : Int32} {x4 : Int32} {x5 : Int32} {x6 : Int32} {x9 : Int32} {d : Dt} (hf : f_L_apart_J174 σ kb23 t0 x0 x1 x2 x3 x4 x5 x6 x9 d = some z) (hkb23 : ∀ (y6 : Int32) (d : Dt), kb23 y6 d = some z → ∀ (H : Heap) (locs : List Loc) (ls : Array Slot), lv_has ls 11 [(0, .ref (ad x0)), (1, .int x1), (2, .int x2), (3, .int x3), (4, .int x4), (5, .int x5), (6, .int y6)] → aw_G D cA base ad σ d s H locs → W p l e rm_L_apart s m args below meth c H locs 0 0 (aw_Ei D cA base ad σ below args s z) (F0 m 23 ls [])) {H : Heap} {locs : List Loc} {ls : Array Slot} (hl : lv_has ls 11 [(0, .ref (ad x0)), (1, .int x1), (2, .int x2), (3, .int x3), (4, .int x4), (5, .int x5), (6, .int x6), (9, .int x9)]) (G : aw_G D cA base ad σ d s H locs) : W p l e rm_L_apart s m args below meth c H locs 0 0 (aw_Ei D cA base ad σ below args s z) (F0 m 174 ls [.int t0]) := by
  have hx := X.1; have hb := X.2.1; have hml := X.2.2.1; have hown := X.2.2.2.1
  unfold f_L_apart_J174 at hf
  refine lv_istore (lv' := [(10, .int t0), (0, .ref (ad x0)), (1, .int x1), (2, .int x2), (3, .int x3), (4, .int x4), (5, .int x5), (6, .int x6), (9, .int x9)]) hx hb dL_apart_174 hl (by decide) rfl (fun ls hl => ?_)
  refine lv_aload_n hx hb dL_apart_176 rfl (lv_at hl 1 rfl) ?_
  refine lv_iload hx hb dL_apart_177 (lv_at hl 8 rfl) ?_
  refine lv_iload hx hb dL_apart_179 (lv_at hl 7 rfl) ?_
  refine lv_if_le (tgt := 208) hx hb dL_apart_181 (by decide) (fun hc => ?_) (fun hc => ?_)
  · have hf := aw_ite_t hc hf
    exact w_L_apart_J208 X hf hkb23 (lv_sub hl [1, 2, 3, 4, 5, 6, 7, 0] rfl) G
  · have hf := aw_ite_f hc hf
    refine lv_aload_n hx hb dL_apart_184 rfl (lv_at hl 1 rfl) ?_
    refine lv_iload hx hb dL_apart_185 (lv_at hl 8 rfl) ?_
    refine lv_iconst (v := (1 : Int32)) hx hb dL_apart_187 (by decide) ?_
    refine lv_isub hx hb dL_apart_188 ?_
    obtain ⟨hc_11, hf⟩ := aw_chk_some hf
    refine aw_ial hx hb G hc_11 dL_apart_189 ?_
    refine lv_iconst (v := (1 : Int32)) hx hb dL_apart_190 (by decide) ?_
    refine lv_iadd hx hb dL_apart_191 ?_
    refine lv_iload hx hb dL_apart_192 (lv_at hl 0 rfl) ?_
    refine lv_icmp_ge (tgt := 208) hx hb dL_apart_194 (by decide) (fun hc => ?_) (fun hc => ?_)
    · have hf := aw_ite_t hc hf
      exact w_L_apart_J208 X hf hkb23 (lv_sub hl [1, 2, 3, 4, 5, 6, 7, 0] rfl) G
    · have hf := aw_ite_f hc hf
      refine lv_aload_n hx hb dL_apart_197 rfl (lv_at hl 1 rfl) ?_
      refine lv_iload hx hb dL_apart_198 (lv_at hl 8 rfl) ?_
      refine lv_iconst (v := (1 : Int32)) hx hb dL_apart_200 (by decide) ?_
      refine lv_isub hx hb dL_apart_201 ?_
      refine aw_ial hx hb G hc_11 dL_apart_202 ?_
      refine lv_iconst (v := (1 : Int32)) hx hb dL_apart_203 (by decide) ?_
      refine lv_iadd hx hb dL_apart_204 ?_
      refine lv_goto (tgt := 210) hx hb dL_apart_205 (by decide) ?_
      exact w_L_apart_J210 X hf hkb23 (lv_sub hl [1, 2, 3, 4, 5, 6, 7] rfl) G
set_option maxHeartbeats 4000000 in
set_option maxRecDepth 100000 in
theorem w_L_apart_J172 {z : Int32 × Dt} (X : aw_X p c cL_apart 11 s RL m meth (some .int)) {kb23 : Int32 → Dt → Option (Int32 × Dt)} {x0 : Nat} {x1 : Int32} {x2 : Int32} {x3 : Int32} {x4 : Int32} {x5 : Int32} {x6 : Int32} {x9 : Int32} {x10 : Int32} {d : Dt} (hf : f_L_apart_J172 σ kb23 x0 x1 x2 x3 x4 x5 x6 x9 x10 d = some z) (hkb23 : ∀ (y6 : Int32) (d : Dt), kb23 y6 d = some z → ∀ (H : Heap) (locs : List Loc) (ls : Array Slot), lv_has ls 11 [(0, .ref (ad x0)), (1, .int x1), (2, .int x2), (3, .int x3), (4, .int x4), (5, .int x5), (6, .int y6)] → aw_G D cA base ad σ d s H locs → W p l e rm_L_apart s m args below meth c H locs 0 0 (aw_Ei D cA base ad σ below args s z) (F0 m 23 ls [])) {H : Heap} {locs : List Loc} {ls : Array Slot} (hl : lv_has ls 11 [(0, .ref (ad x0)), (1, .int x1), (2, .int x2), (3, .int x3), (4, .int x4), (5, .int x5), (6, .int x6), (9, .int x9), (10, .int x10)]) (G : aw_G D cA base ad σ d s H locs) : W p l e rm_L_apart s m args below meth c H locs 0 0 (aw_Ei D cA base ad σ below args s z) (F0 m 172 ls []) := by
  have hx := X.1; have hb := X.2.1; have hml := X.2.2.1; have hown := X.2.2.2.1
  unfold f_L_apart_J172 at hf
  refine lv_iload hx hb dL_apart_172 (lv_at hl 8 rfl) ?_
  exact w_L_apart_J174 X hf hkb23 (lv_sub hl [0, 1, 2, 3, 4, 5, 6, 7] rfl) G
set_option maxHeartbeats 4000000 in
set_option maxRecDepth 100000 in
theorem w_L_apart_J141 {z : Int32 × Dt} (X : aw_X p c cL_apart 11 s RL m meth (some .int)) {kb23 : Int32 → Dt → Option (Int32 × Dt)} {t0 : Int32} {x0 : Nat} {x1 : Int32} {x2 : Int32} {x3 : Int32} {x4 : Int32} {x5 : Int32} {x6 : Int32} {x9 : Int32} {d : Dt} (hf : f_L_apart_J141 σ kb23 t0 x0 x1 x2 x3 x4 x5 x6 x9 d = some z) (hkb23 : ∀ (y6 : Int32) (d : Dt), kb23 y6 d = some z → ∀ (H : Heap) (locs : List Loc) (ls : Array Slot), lv_has ls 11 [(0, .ref (ad x0)), (1, .int x1), (2, .int x2), (3, .int x3), (4, .int x4), (5, .int x5), (6, .int y6)] → aw_G D cA base ad σ d s H locs → W p l e rm_L_apart s m args below meth c H locs 0 0 (aw_Ei D cA base ad σ below args s z) (F0 m 23 ls [])) {H : Heap} {locs : List Loc} {ls : Array Slot} (hl : lv_has ls 11 [(0, .ref (ad x0)), (1, .int x1), (2, .int x2), (3, .int x3), (4, .int x4), (5, .int x5), (6, .int x6), (9, .int x9)]) (G : aw_G D cA base ad σ d s H locs) : W p l e rm_L_apart s m args below meth c H locs 0 0 (aw_Ei D cA base ad σ below args s z) (F0 m 141 ls [.int t0]) := by
  have hx := X.1; have hb := X.2.1; have hml := X.2.2.1; have hown := X.2.2.2.1
  unfold f_L_apart_J141 at hf
  refine lv_istore (lv' := [(10, .int t0), (0, .ref (ad x0)), (1, .int x1), (2, .int x2), (3, .int x3), (4, .int x4), (5, .int x5), (6, .int x6), (9, .int x9)]) hx hb dL_apart_141 hl (by decide) rfl (fun ls hl => ?_)
  refine lv_iload hx hb dL_apart_143 (lv_at hl 6 rfl) ?_
  refine lv_if_le (tgt := 172) hx hb dL_apart_145 (by decide) (fun hc => ?_) (fun hc => ?_)
  · have hf := aw_ite_t hc hf
    exact w_L_apart_J172 X hf hkb23 (lv_sub hl [1, 2, 3, 4, 5, 6, 7, 8, 0] rfl) G
  · have hf := aw_ite_f hc hf
    refine lv_aload_n hx hb dL_apart_148 rfl (lv_at hl 1 rfl) ?_
    refine lv_iload hx hb dL_apart_149 (lv_at hl 8 rfl) ?_
    refine lv_iconst (v := (5 : Int32)) hx hb dL_apart_151 (by decide) ?_
    refine lv_isub hx hb dL_apart_152 ?_
    obtain ⟨hc_12, hf⟩ := aw_chk_some hf
    refine aw_ial hx hb G hc_12 dL_apart_153 ?_
    refine lv_iconst (v := (1 : Int32)) hx hb dL_apart_154 (by decide) ?_
    refine lv_iadd hx hb dL_apart_155 ?_
    refine lv_iload hx hb dL_apart_156 (lv_at hl 0 rfl) ?_
    refine lv_icmp_ge (tgt := 172) hx hb dL_apart_158 (by decide) (fun hc => ?_) (fun hc => ?_)
    · have hf := aw_ite_t hc hf
      exact w_L_apart_J172 X hf hkb23 (lv_sub hl [1, 2, 3, 4, 5, 6, 7, 8, 0] rfl) G
    · have hf := aw_ite_f hc hf
      refine lv_aload_n hx hb dL_apart_161 rfl (lv_at hl 1 rfl) ?_
      refine lv_iload hx hb dL_apart_162 (lv_at hl 8 rfl) ?_
      refine lv_iconst (v := (5 : Int32)) hx hb dL_apart_164 (by decide) ?_
      refine lv_isub hx hb dL_apart_165 ?_
      refine aw_ial hx hb G hc_12 dL_apart_166 ?_
      refine lv_iconst (v := (1 : Int32)) hx hb dL_apart_167 (by decide) ?_
      refine lv_iadd hx hb dL_apart_168 ?_
      refine lv_goto (tgt := 174) hx hb dL_apart_169 (by decide) ?_
      exact w_L_apart_J174 X hf hkb23 (lv_sub hl [1, 2, 3, 4, 5, 6, 7, 8] rfl) G
set_option maxHeartbeats 4000000 in
set_option maxRecDepth 100000 in
theorem w_L_apart_J140 {z : Int32 × Dt} (X : aw_X p c cL_apart 11 s RL m meth (some .int)) {kb23 : Int32 → Dt → Option (Int32 × Dt)} {t1 : Int32} {t0 : Int32} {x0 : Nat} {x1 : Int32} {x2 : Int32} {x3 : Int32} {x4 : Int32} {x5 : Int32} {x6 : Int32} {x9 : Int32} {d : Dt} (hf : f_L_apart_J140 σ kb23 t1 t0 x0 x1 x2 x3 x4 x5 x6 x9 d = some z) (hkb23 : ∀ (y6 : Int32) (d : Dt), kb23 y6 d = some z → ∀ (H : Heap) (locs : List Loc) (ls : Array Slot), lv_has ls 11 [(0, .ref (ad x0)), (1, .int x1), (2, .int x2), (3, .int x3), (4, .int x4), (5, .int x5), (6, .int y6)] → aw_G D cA base ad σ d s H locs → W p l e rm_L_apart s m args below meth c H locs 0 0 (aw_Ei D cA base ad σ below args s z) (F0 m 23 ls [])) {H : Heap} {locs : List Loc} {ls : Array Slot} (hl : lv_has ls 11 [(0, .ref (ad x0)), (1, .int x1), (2, .int x2), (3, .int x3), (4, .int x4), (5, .int x5), (6, .int x6), (9, .int x9)]) (G : aw_G D cA base ad σ d s H locs) : W p l e rm_L_apart s m args below meth c H locs 0 0 (aw_Ei D cA base ad σ below args s z) (F0 m 140 ls [.int t1, .int t0]) := by
  have hx := X.1; have hb := X.2.1; have hml := X.2.2.1; have hown := X.2.2.2.1
  unfold f_L_apart_J140 at hf
  refine lv_iadd hx hb dL_apart_140 ?_
  exact w_L_apart_J141 X hf hkb23 (lv_sub hl [0, 1, 2, 3, 4, 5, 6, 7] rfl) G
set_option maxHeartbeats 4000000 in
set_option maxRecDepth 100000 in
theorem w_L_apart_B23 {z : Int32 × Dt} (X : aw_X p c cL_apart 11 s RL m meth (some .int)) {kb23 : Int32 → Dt → Option (Int32 × Dt)} {k23 : Dt → Option (Int32 × Dt)} {x0 : Nat} {x1 : Int32} {x2 : Int32} {x3 : Int32} {x4 : Int32} {x5 : Int32} {x6 : Int32} {d : Dt} (hf : f_L_apart_B23 σ kb23 k23 x0 x1 x2 x3 x4 x5 x6 d = some z) (hkb23 : ∀ (y6 : Int32) (d : Dt), kb23 y6 d = some z → ∀ (H : Heap) (locs : List Loc) (ls : Array Slot), lv_has ls 11 [(0, .ref (ad x0)), (1, .int x1), (2, .int x2), (3, .int x3), (4, .int x4), (5, .int x5), (6, .int y6)] → aw_G D cA base ad σ d s H locs → W p l e rm_L_apart s m args below meth c H locs 0 0 (aw_Ei D cA base ad σ below args s z) (F0 m 23 ls [])) (hk23 : ∀ (d : Dt), k23 d = some z → ∀ (H : Heap) (locs : List Loc) (ls : Array Slot), lv_has ls 11 [(0, .ref (ad x0)), (1, .int x1), (2, .int x2), (3, .int x3), (4, .int x4), (5, .int x5)] → aw_G D cA base ad σ d s H locs → W p l e rm_L_apart s m args below meth c H locs 0 0 (aw_Ei D cA base ad σ below args s z) (F0 m 217 ls [])) {H : Heap} {locs : List Loc} {ls : Array Slot} (hl : lv_has ls 11 [(0, .ref (ad x0)), (1, .int x1), (2, .int x2), (3, .int x3), (4, .int x4), (5, .int x5), (6, .int x6)]) (G : aw_G D cA base ad σ d s H locs) : W p l e rm_L_apart s m args below meth c H locs 0 0 (aw_Ei D cA base ad σ below args s z) (F0 m 23 ls []) := by
  have hx := X.1; have hb := X.2.1; have hml := X.2.2.1; have hown := X.2.2.2.1
  unfold f_L_apart_B23 at hf
  refine lv_iload hx hb dL_apart_23 (lv_at hl 6 rfl) ?_
  refine lv_iload hx hb dL_apart_25 (lv_at hl 4 rfl) ?_
  refine lv_icmp_gt (tgt := 217) hx hb dL_apart_27 (by decide) (fun hc => ?_) (fun hc => ?_)
  · have hf := aw_ite_t hc hf
    exact hk23 _ hf _ _ _ (lv_sub hl [0, 1, 2, 3, 4, 5] rfl) G
  · have hf := aw_ite_f hc hf
    refine lv_iload_n hx hb dL_apart_30 rfl (lv_at hl 1 rfl) ?_
    refine lv_istore (lv' := [(7, .int x1), (0, .ref (ad x0)), (1, .int x1), (2, .int x2), (3, .int x3), (4, .int x4), (5, .int x5), (6, .int x6)]) hx hb dL_apart_31 hl (by decide) rfl (fun ls hl => ?_)
    refine lv_iload_n hx hb dL_apart_33 rfl (lv_at hl 3 rfl) ?_
    refine lv_istore (lv' := [(8, .int x2), (7, .int x1), (0, .ref (ad x0)), (1, .int x1), (2, .int x2), (3, .int x3), (4, .int x4), (5, .int x5), (6, .int x6)]) hx hb dL_apart_34 hl (by decide) rfl (fun ls hl => ?_)
    refine lv_iload hx hb dL_apart_36 (lv_at hl 7 rfl) ?_
    refine lv_istore (lv' := [(9, .int x5), (8, .int x2), (7, .int x1), (0, .ref (ad x0)), (1, .int x1), (2, .int x2), (3, .int x3), (4, .int x4), (5, .int x5), (6, .int x6)]) hx hb dL_apart_38 hl (by decide) rfl (fun ls hl => ?_)
    refine w_L_apart_L40 X aw_FU hf  (fun x7_5 d_6 hf H locs ls hl G => ?_) (lv_sub hl [3, 4, 5, 6, 7, 8, 9, 2, 1, 0] rfl) G
    refine lv_iload hx hb dL_apart_59 (lv_at hl 6 rfl) ?_
    refine lv_istore (lv' := [(9, .int x6), (0, .ref (ad x0)), (1, .int x1), (2, .int x2), (3, .int x3), (4, .int x4), (5, .int x5), (6, .int x6), (7, .int x7_5), (8, .int x2)]) hx hb dL_apart_61 hl (by decide) rfl (fun ls hl => ?_)
    refine w_L_apart_L63 X aw_FU hf  (fun x8_7 d_8 hf H locs ls hl G => ?_) (lv_sub hl [1, 2, 3, 4, 5, 6, 7, 8, 9, 0] rfl) G
    refine lv_bipush (v := (20 : Int32)) hx hb dL_apart_83 (by decide) ?_
    refine lv_iconst (v := (5 : Int32)) hx hb dL_apart_85 (by decide) ?_
    refine lv_iload hx hb dL_apart_86 (lv_at hl 5 rfl) ?_
    refine lv_imul hx hb dL_apart_88 ?_
    refine lv_iadd hx hb dL_apart_89 ?_
    refine lv_iload hx hb dL_apart_90 (lv_at hl 6 rfl) ?_
    refine lv_iadd hx hb dL_apart_92 ?_
    refine lv_istore (lv' := [(9, .int ((((20 : Int32)) + (((5 : Int32)) * x5)) + x6)), (0, .ref (ad x0)), (1, .int x1), (2, .int x2), (3, .int x3), (4, .int x4), (5, .int x5), (6, .int x6), (7, .int x7_5), (8, .int x8_7)]) hx hb dL_apart_93 hl (by decide) rfl (fun ls hl => ?_)
    refine lv_iload hx hb dL_apart_95 (lv_at hl 6 rfl) ?_
    refine lv_if_ne (tgt := 105) hx hb dL_apart_97 (by decide) (fun hc => ?_) (fun hc => ?_)
    · have hf := aw_ite_f hc hf
      refine lv_iload hx hb dL_apart_105 (lv_at hl 7 rfl) ?_
      refine lv_if_ne (tgt := 115) hx hb dL_apart_107 (by decide) (fun hc => ?_) (fun hc => ?_)
      · have hf := aw_ite_f hc hf
        refine lv_aload_n hx hb dL_apart_115 rfl (lv_at hl 1 rfl) ?_
        refine lv_iload hx hb dL_apart_116 (lv_at hl 0 rfl) ?_
        refine lv_bipush (v := (6 : Int32)) hx hb dL_apart_118 (by decide) ?_
        refine lv_isub hx hb dL_apart_120 ?_
        obtain ⟨hc_9, hf⟩ := aw_chk_some hf
        refine aw_ial hx hb G hc_9 dL_apart_121 ?_
        refine lv_iload hx hb dL_apart_122 (lv_at hl 8 rfl) ?_
        refine lv_bipush (v := (10 : Int32)) hx hb dL_apart_124 (by decide) ?_
        refine lv_irem hx hb dL_apart_126 (by decide) ?_
        refine lv_iload hx hb dL_apart_127 (lv_at hl 9 rfl) ?_
        refine lv_bipush (v := (10 : Int32)) hx hb dL_apart_129 (by decide) ?_
        refine lv_irem hx hb dL_apart_131 (by decide) ?_
        refine lv_icmp_ne (tgt := 139) hx hb dL_apart_132 (by decide) (fun hc => ?_) (fun hc => ?_)
        · have hf := aw_ite_f hc hf
          refine lv_iconst (v := (1 : Int32)) hx hb dL_apart_139 (by decide) ?_
          exact w_L_apart_J140 X hf hkb23 (lv_sub hl [1, 2, 3, 4, 5, 6, 7, 0] rfl) G
        · have hf := aw_ite_t hc hf
          refine lv_iconst (v := (0 : Int32)) hx hb dL_apart_135 (by decide) ?_
          refine lv_goto (tgt := 140) hx hb dL_apart_136 (by decide) ?_
          exact w_L_apart_J140 X hf hkb23 (lv_sub hl [1, 2, 3, 4, 5, 6, 7, 0] rfl) G
      · have hf := aw_ite_t hc hf
        refine lv_iload hx hb dL_apart_110 (lv_at hl 6 rfl) ?_
        refine lv_goto (tgt := 141) hx hb dL_apart_112 (by decide) ?_
        exact w_L_apart_J141 X hf hkb23 (lv_sub hl [1, 2, 3, 4, 5, 6, 7, 0] rfl) G
    · have hf := aw_ite_t hc hf
      refine lv_iload hx hb dL_apart_100 (lv_at hl 7 rfl) ?_
      refine lv_goto (tgt := 141) hx hb dL_apart_102 (by decide) ?_
      exact w_L_apart_J141 X hf hkb23 (lv_sub hl [1, 2, 3, 4, 5, 6, 7, 0] rfl) G
theorem w_L_apart_L23 {z : Int32 × Dt} (X : aw_X p c cL_apart 11 s RL m meth (some .int)) {k23 : Dt → Option (Int32 × Dt)} {x0 : Nat} {x1 : Int32} {x2 : Int32} {x3 : Int32} {x4 : Int32} {x5 : Int32} (n : Nat) {x6 : Int32} {d : Dt} (hf : f_L_apart_L23 σ n k23 x0 x1 x2 x3 x4 x5 x6 d = some z) (hk23 : ∀ (d : Dt), k23 d = some z → ∀ (H : Heap) (locs : List Loc) (ls : Array Slot), lv_has ls 11 [(0, .ref (ad x0)), (1, .int x1), (2, .int x2), (3, .int x3), (4, .int x4), (5, .int x5)] → aw_G D cA base ad σ d s H locs → W p l e rm_L_apart s m args below meth c H locs 0 0 (aw_Ei D cA base ad σ below args s z) (F0 m 217 ls [])) {H : Heap} {locs : List Loc} {ls : Array Slot} (hl : lv_has ls 11 [(0, .ref (ad x0)), (1, .int x1), (2, .int x2), (3, .int x3), (4, .int x4), (5, .int x5), (6, .int x6)]) (G : aw_G D cA base ad σ d s H locs) : W p l e rm_L_apart s m args below meth c H locs 0 0 (aw_Ei D cA base ad σ below args s z) (F0 m 23 ls []) := by
  induction n generalizing x6 d H locs ls with
  | zero => exact absurd (show (none : Option (Int32 × Dt)) = some z from hf) (by simp)
  | succ n ih => exact w_L_apart_B23 X (kb23 := f_L_apart_L23 σ n k23 x0 x1 x2 x3 x4 x5) hf  (fun x6 d hf H locs ls hl G => ih hf hl G) hk23 hl G
set_option maxHeartbeats 4000000 in
set_option maxRecDepth 100000 in
theorem w_L_apart_B14 {z : Int32 × Dt} (X : aw_X p c cL_apart 11 s RL m meth (some .int)) {kb14 : Int32 → Dt → Option (Int32 × Dt)} {k14 : Dt → Option (Int32 × Dt)} {x0 : Nat} {x1 : Int32} {x2 : Int32} {x3 : Int32} {x4 : Int32} {x5 : Int32} {d : Dt} (hf : f_L_apart_B14 σ kb14 k14 x0 x1 x2 x3 x4 x5 d = some z) (hkb14 : ∀ (y5 : Int32) (d : Dt), kb14 y5 d = some z → ∀ (H : Heap) (locs : List Loc) (ls : Array Slot), lv_has ls 11 [(0, .ref (ad x0)), (1, .int x1), (2, .int x2), (3, .int x3), (4, .int x4), (5, .int y5)] → aw_G D cA base ad σ d s H locs → W p l e rm_L_apart s m args below meth c H locs 0 0 (aw_Ei D cA base ad σ below args s z) (F0 m 14 ls [])) (hk14 : ∀ (d : Dt), k14 d = some z → ∀ (H : Heap) (locs : List Loc) (ls : Array Slot), lv_has ls 11 [(0, .ref (ad x0)), (3, .int x3), (4, .int x4)] → aw_G D cA base ad σ d s H locs → W p l e rm_L_apart s m args below meth c H locs 0 0 (aw_Ei D cA base ad σ below args s z) (F0 m 223 ls [])) {H : Heap} {locs : List Loc} {ls : Array Slot} (hl : lv_has ls 11 [(0, .ref (ad x0)), (1, .int x1), (2, .int x2), (3, .int x3), (4, .int x4), (5, .int x5)]) (G : aw_G D cA base ad σ d s H locs) : W p l e rm_L_apart s m args below meth c H locs 0 0 (aw_Ei D cA base ad σ below args s z) (F0 m 14 ls []) := by
  have hx := X.1; have hb := X.2.1; have hml := X.2.2.1; have hown := X.2.2.2.1
  unfold f_L_apart_B14 at hf
  refine lv_iload hx hb dL_apart_14 (lv_at hl 5 rfl) ?_
  refine lv_iload_n hx hb dL_apart_16 rfl (lv_at hl 3 rfl) ?_
  refine lv_icmp_gt (tgt := 223) hx hb dL_apart_17 (by decide) (fun hc => ?_) (fun hc => ?_)
  · have hf := aw_ite_t hc hf
    exact hk14 _ hf _ _ _ (lv_sub hl [0, 3, 4] rfl) G
  · have hf := aw_ite_f hc hf
    refine lv_iconst (v := (0 : Int32)) hx hb dL_apart_20 (by decide) ?_
    refine lv_istore (lv' := [(6, .int ((0 : Int32))), (0, .ref (ad x0)), (1, .int x1), (2, .int x2), (3, .int x3), (4, .int x4), (5, .int x5)]) hx hb dL_apart_21 hl (by decide) rfl (fun ls hl => ?_)
    refine w_L_apart_L23 X aw_FU hf  (fun d_13 hf H locs ls hl G => ?_) (lv_sub hl [1, 2, 3, 4, 5, 6, 0] rfl) G
    refine lv_iinc (v := x5 + 1) (lv' := [(5, .int (x5 + 1)), (0, .ref (ad x0)), (1, .int x1), (2, .int x2), (3, .int x3), (4, .int x4)]) hx hb dL_apart_217 hl (k := 5) rfl rfl (by decide) rfl (fun ls hl => ?_)
    refine lv_goto (tgt := 14) hx hb dL_apart_220 (by decide) ?_
    exact hkb14 _ _ hf _ _ _ (lv_sub hl [1, 2, 3, 4, 5, 0] rfl) G
theorem w_L_apart_L14 {z : Int32 × Dt} (X : aw_X p c cL_apart 11 s RL m meth (some .int)) {k14 : Dt → Option (Int32 × Dt)} {x0 : Nat} {x1 : Int32} {x2 : Int32} {x3 : Int32} {x4 : Int32} (n : Nat) {x5 : Int32} {d : Dt} (hf : f_L_apart_L14 σ n k14 x0 x1 x2 x3 x4 x5 d = some z) (hk14 : ∀ (d : Dt), k14 d = some z → ∀ (H : Heap) (locs : List Loc) (ls : Array Slot), lv_has ls 11 [(0, .ref (ad x0)), (3, .int x3), (4, .int x4)] → aw_G D cA base ad σ d s H locs → W p l e rm_L_apart s m args below meth c H locs 0 0 (aw_Ei D cA base ad σ below args s z) (F0 m 223 ls [])) {H : Heap} {locs : List Loc} {ls : Array Slot} (hl : lv_has ls 11 [(0, .ref (ad x0)), (1, .int x1), (2, .int x2), (3, .int x3), (4, .int x4), (5, .int x5)]) (G : aw_G D cA base ad σ d s H locs) : W p l e rm_L_apart s m args below meth c H locs 0 0 (aw_Ei D cA base ad σ below args s z) (F0 m 14 ls []) := by
  induction n generalizing x5 d H locs ls with
  | zero => exact absurd (show (none : Option (Int32 × Dt)) = some z from hf) (by simp)
  | succ n ih => exact w_L_apart_B14 X (kb14 := f_L_apart_L14 σ n k14 x0 x1 x2 x3 x4) hf  (fun x5 d hf H locs ls hl G => ih hf hl G) hk14 hl G
end W_L_apart
set_option maxHeartbeats 4000000 in
set_option maxRecDepth 100000 in
theorem c_L_apart (l : Launch) {σ : Sg} {x0 : Nat} {x1 : Int32} {x2 : Int32} {d : Dt} {z : Int32 × Dt} (hf : f_L_apart σ x0 x1 x2 d = some z) : aw_Mi l yL_apart (Cond.code yL_apart cL_apart 11 (some .int)) rm_L_apart (fun ad => [.ref (ad x0), .int x1, .int x2]) σ d z := by
  intro D cA base ad
  refine aw_ofW (own := RL) (cc := cL_apart) (nL := 11) (ret := some .int) (by decide) rfl rfl ?_
  intro p e s m below meth c X hnm G
  have hx := X.1; have hb := X.2.1; have hml := X.2.2.1; have hown := X.2.2.2.1
  refine aw_ls (lv := [(0, .ref (ad x0)), (1, .int x1), (2, .int x2)]) (Nat.le_of_ble_eq_true rfl) rfl (fun ls hl => ?_)
  unfold f_L_apart at hf
  refine lv_iload_n hx hb dL_apart_0 rfl (lv_at hl 1 rfl) ?_
  obtain ⟨z_1, hz_2, hf⟩ := aw_bind_some hf
  refine aw_SI (As := [.int x1]) (rest := []) X G hl.1 cr_L_101 (c_L_length l hz_2) ⟨rfl, rfl⟩ rfl rfl rfl ⟨Nat.le_of_ble_eq_true rfl, Nat.le_of_ble_eq_true rfl⟩ (Nat.le_of_ble_eq_true rfl) dL_apart_1 ⟨Nat.zero_le _, Nat.zero_le _⟩ (fun H locs G => ?_)
  refine lv_istore_n (lv' := [(3, .int z_1.1), (0, .ref (ad x0)), (1, .int x1), (2, .int x2)]) hx hb dL_apart_4 rfl hl (by decide) rfl (fun ls hl => ?_)
  refine lv_iload_n hx hb dL_apart_5 rfl (lv_at hl 3 rfl) ?_
  obtain ⟨z_3, hz_4, hf⟩ := aw_bind_some hf
  refine aw_SI (As := [.int x2]) (rest := []) X G hl.1 cr_L_101 (c_L_length l hz_4) ⟨rfl, rfl⟩ rfl rfl rfl ⟨Nat.le_of_ble_eq_true rfl, Nat.le_of_ble_eq_true rfl⟩ (Nat.le_of_ble_eq_true rfl) dL_apart_6 ⟨Nat.zero_le _, Nat.zero_le _⟩ (fun H locs G => ?_)
  refine lv_istore (lv' := [(4, .int z_3.1), (3, .int z_1.1), (0, .ref (ad x0)), (1, .int x1), (2, .int x2)]) hx hb dL_apart_9 hl (by decide) rfl (fun ls hl => ?_)
  refine lv_iconst (v := (0 : Int32)) hx hb dL_apart_11 (by decide) ?_
  refine lv_istore (lv' := [(5, .int ((0 : Int32))), (4, .int z_3.1), (3, .int z_1.1), (0, .ref (ad x0)), (1, .int x1), (2, .int x2)]) hx hb dL_apart_12 hl (by decide) rfl (fun ls hl => ?_)
  refine w_L_apart_L14 X aw_FU hf  (fun d_14 hf H locs ls hl G => ?_) (lv_sub hl [3, 4, 5, 2, 1, 0] rfl) G
  refine lv_aload_n hx hb dL_apart_223 rfl (lv_at hl 0 rfl) ?_
  refine lv_bipush (v := (20 : Int32)) hx hb dL_apart_224 (by decide) ?_
  refine lv_iconst (v := (5 : Int32)) hx hb dL_apart_226 (by decide) ?_
  refine lv_iload_n hx hb dL_apart_227 rfl (lv_at hl 1 rfl) ?_
  refine lv_imul hx hb dL_apart_228 ?_
  refine lv_iadd hx hb dL_apart_229 ?_
  refine lv_iload hx hb dL_apart_230 (lv_at hl 2 rfl) ?_
  refine lv_iadd hx hb dL_apart_232 ?_
  obtain ⟨hc_15, hf⟩ := aw_chk_some hf
  refine aw_ial hx hb G hc_15 dL_apart_233 ?_
  exact aw_reti X G hf dL_apart_234
def rm_L_isUnit : Room := { frames := 0, cells := 0, slots := 0, locals := 0 }
def f_L_isUnit_J35 (σ : Sg) (t0 : Int32) (d : Dt) : Option (Int32 × Dt) :=
  aw_chk (t0 &&& 1 = t0) (some (t0, d))
def f_L_isUnit_J34 (σ : Sg)  (d : Dt) : Option (Int32 × Dt) :=
  f_L_isUnit_J35 σ ((0 : Int32)) d
def f_L_isUnit_J30 (σ : Sg)  (d : Dt) : Option (Int32 × Dt) :=
  f_L_isUnit_J35 σ ((1 : Int32)) d
def f_L_isUnit (σ : Sg) (x0 : Nat) (x1 : Int32) (d : Dt) : Option (Int32 × Dt) :=
  if x1 < 0 then f_L_isUnit_J34 σ d else if ((47 : Int32)) ≤ x1 then f_L_isUnit_J34 σ d else aw_chk (aw_I σ 20 x0 ((47 : Int32))) (if (d.1 x0 ((47 : Int32)).toNatClampNeg) = ((1 : Int32)) then f_L_isUnit_J30 σ d else if x1 < ((12 : Int32)) then f_L_isUnit_J30 σ d else if x1 ≤ ((43 : Int32)) then f_L_isUnit_J34 σ d else f_L_isUnit_J30 σ d)
section W_L_isUnit
variable {p : Program} {l : Launch} {e : Env} {s : State} {m : MethodId} {args : Array Value} {below : List Frame} {meth : Method} {c : Code}
variable {D : va_G} {cA : Nat → ClassId} {base : Nat} {ad : Nat → Nat} {σ : Sg}
set_option maxHeartbeats 4000000 in
set_option maxRecDepth 100000 in
theorem w_L_isUnit_J35 {z : Int32 × Dt} (X : aw_X p c cL_isUnit 2 s RL m meth (some .boolean)) {t0 : Int32} {d : Dt} (hf : f_L_isUnit_J35 σ t0 d = some z)  {H : Heap} {locs : List Loc} {ls : Array Slot} (hl : lv_has ls 2 []) (G : aw_G D cA base ad σ d s H locs) : W p l e rm_L_isUnit s m args below meth c H locs 0 0 (aw_Ei D cA base ad σ below args s z) (F0 m 35 ls [.int t0]) := by
  have hx := X.1; have hb := X.2.1; have hml := X.2.2.1; have hown := X.2.2.2.1
  unfold f_L_isUnit_J35 at hf
  obtain ⟨hc_1, hf⟩ := aw_chk_some hf
  exact aw_retz X G hc_1 hf dL_isUnit_35
set_option maxHeartbeats 4000000 in
set_option maxRecDepth 100000 in
theorem w_L_isUnit_J34 {z : Int32 × Dt} (X : aw_X p c cL_isUnit 2 s RL m meth (some .boolean))  {d : Dt} (hf : f_L_isUnit_J34 σ d = some z)  {H : Heap} {locs : List Loc} {ls : Array Slot} (hl : lv_has ls 2 []) (G : aw_G D cA base ad σ d s H locs) : W p l e rm_L_isUnit s m args below meth c H locs 0 0 (aw_Ei D cA base ad σ below args s z) (F0 m 34 ls []) := by
  have hx := X.1; have hb := X.2.1; have hml := X.2.2.1; have hown := X.2.2.2.1
  unfold f_L_isUnit_J34 at hf
  refine lv_iconst (v := (0 : Int32)) hx hb dL_isUnit_34 (by decide) ?_
  exact w_L_isUnit_J35 X hf  (lv_sub hl [] rfl) G
set_option maxHeartbeats 4000000 in
set_option maxRecDepth 100000 in
theorem w_L_isUnit_J30 {z : Int32 × Dt} (X : aw_X p c cL_isUnit 2 s RL m meth (some .boolean))  {d : Dt} (hf : f_L_isUnit_J30 σ d = some z)  {H : Heap} {locs : List Loc} {ls : Array Slot} (hl : lv_has ls 2 []) (G : aw_G D cA base ad σ d s H locs) : W p l e rm_L_isUnit s m args below meth c H locs 0 0 (aw_Ei D cA base ad σ below args s z) (F0 m 30 ls []) := by
  have hx := X.1; have hb := X.2.1; have hml := X.2.2.1; have hown := X.2.2.2.1
  unfold f_L_isUnit_J30 at hf
  refine lv_iconst (v := (1 : Int32)) hx hb dL_isUnit_30 (by decide) ?_
  refine lv_goto (tgt := 35) hx hb dL_isUnit_31 (by decide) ?_
  exact w_L_isUnit_J35 X hf  (lv_sub hl [] rfl) G
end W_L_isUnit
set_option maxHeartbeats 4000000 in
set_option maxRecDepth 100000 in
theorem c_L_isUnit (l : Launch) {σ : Sg} {x0 : Nat} {x1 : Int32} {d : Dt} {z : Int32 × Dt} (hf : f_L_isUnit σ x0 x1 d = some z) : aw_Mi l yL_isUnit (Cond.code yL_isUnit cL_isUnit 2 (some .boolean)) rm_L_isUnit (fun ad => [.ref (ad x0), .int x1]) σ d z := by
  intro D cA base ad
  refine aw_ofW (own := RL) (cc := cL_isUnit) (nL := 2) (ret := some .boolean) (by decide) rfl rfl ?_
  intro p e s m below meth c X hnm G
  have hx := X.1; have hb := X.2.1; have hml := X.2.2.1; have hown := X.2.2.2.1
  refine aw_ls (lv := [(0, .ref (ad x0)), (1, .int x1)]) (Nat.le_of_ble_eq_true rfl) rfl (fun ls hl => ?_)
  unfold f_L_isUnit at hf
  refine lv_iload_n hx hb dL_isUnit_0 rfl (lv_at hl 1 rfl) ?_
  refine lv_if_lt (tgt := 34) hx hb dL_isUnit_1 (by decide) (fun hc => ?_) (fun hc => ?_)
  · have hf := aw_ite_t hc hf
    exact w_L_isUnit_J34 X hf  (lv_sub hl [] rfl) G
  · have hf := aw_ite_f hc hf
    refine lv_iload_n hx hb dL_isUnit_4 rfl (lv_at hl 1 rfl) ?_
    refine lv_bipush (v := (47 : Int32)) hx hb dL_isUnit_5 (by decide) ?_
    refine lv_icmp_ge (tgt := 34) hx hb dL_isUnit_7 (by decide) (fun hc => ?_) (fun hc => ?_)
    · have hf := aw_ite_t hc hf
      exact w_L_isUnit_J34 X hf  (lv_sub hl [] rfl) G
    · have hf := aw_ite_f hc hf
      refine lv_aload_n hx hb dL_isUnit_10 rfl (lv_at hl 0 rfl) ?_
      refine lv_bipush (v := (47 : Int32)) hx hb dL_isUnit_11 (by decide) ?_
      obtain ⟨hc_2, hf⟩ := aw_chk_some hf
      refine aw_ial hx hb G hc_2 dL_isUnit_13 ?_
      refine lv_iconst (v := (1 : Int32)) hx hb dL_isUnit_14 (by decide) ?_
      refine lv_icmp_eq (tgt := 30) hx hb dL_isUnit_15 (by decide) (fun hc => ?_) (fun hc => ?_)
      · have hf := aw_ite_t hc hf
        exact w_L_isUnit_J30 X hf  (lv_sub hl [] rfl) G
      · have hf := aw_ite_f hc hf
        refine lv_iload_n hx hb dL_isUnit_18 rfl (lv_at hl 1 rfl) ?_
        refine lv_bipush (v := (12 : Int32)) hx hb dL_isUnit_19 (by decide) ?_
        refine lv_icmp_lt (tgt := 30) hx hb dL_isUnit_21 (by decide) (fun hc => ?_) (fun hc => ?_)
        · have hf := aw_ite_t hc hf
          exact w_L_isUnit_J30 X hf  (lv_sub hl [] rfl) G
        · have hf := aw_ite_f hc hf
          refine lv_iload_n hx hb dL_isUnit_24 rfl (lv_at hl 1 rfl) ?_
          refine lv_bipush (v := (43 : Int32)) hx hb dL_isUnit_25 (by decide) ?_
          refine lv_icmp_le (tgt := 34) hx hb dL_isUnit_27 (by decide) (fun hc => ?_) (fun hc => ?_)
          · have hf := aw_ite_t hc hf
            exact w_L_isUnit_J34 X hf  (lv_sub hl [] rfl) G
          · have hf := aw_ite_f hc hf
            exact w_L_isUnit_J30 X hf  (lv_sub hl [] rfl) G
def rm_L_has : Room := { frames := 1, cells := 0, slots := 0, locals := 21 }
def f_L_has_J34 (σ : Sg) (kb4 : Int32 → Int32 → Dt → Option (Int32 × Dt)) (t0 : Int32) (x0 : Nat) (x1 : Int32) (x3 : Int32) (d : Dt) : Option (Int32 × Dt) :=
  kb4 t0 (x3 + 1) d
def f_L_has_J29 (σ : Sg) (kb4 : Int32 → Int32 → Dt → Option (Int32 × Dt)) (x0 : Nat) (x1 : Int32) (x3 : Int32) (d : Dt) : Option (Int32 × Dt) :=
  f_L_has_J34 σ kb4 ((1 : Int32)) x0 x1 x3 d
def f_L_has_J33 (σ : Sg) (kb4 : Int32 → Int32 → Dt → Option (Int32 × Dt)) (x0 : Nat) (x1 : Int32) (x3 : Int32) (d : Dt) : Option (Int32 × Dt) :=
  f_L_has_J34 σ kb4 ((0 : Int32)) x0 x1 x3 d
def f_L_has_B4 (σ : Sg) (kb4 : Int32 → Int32 → Dt → Option (Int32 × Dt)) (k4 : Int32 → Dt → Option (Int32 × Dt)) (x0 : Nat) (x1 : Int32) (x2 : Int32) (x3 : Int32) (d : Dt) : Option (Int32 × Dt) :=
  if ((47 : Int32)) ≤ x3 then k4 x2 d else if x2 = 0 then (f_L_isUnit σ x0 x3 d).bind (fun z_1 => if z_1.1 = 0 then f_L_has_J33 σ kb4 x0 x1 x3 z_1.2 else aw_chk (aw_I σ 20 x0 x3) (if (z_1.2.1 x0 x3.toNatClampNeg) = x1 then f_L_has_J29 σ kb4 x0 x1 x3 z_1.2 else f_L_has_J33 σ kb4 x0 x1 x3 z_1.2)) else f_L_has_J29 σ kb4 x0 x1 x3 d
def f_L_has_L4 (σ : Sg) (n : Nat) (k4 : Int32 → Dt → Option (Int32 × Dt)) (x0 : Nat) (x1 : Int32) : Int32 → Int32 → Dt → Option (Int32 × Dt) := match n with
  | 0 => fun _ _ _ => none
  | n + 1 => fun x2 x3 d => f_L_has_B4 σ (f_L_has_L4 σ n k4 x0 x1) k4 x0 x1 x2 x3 d
def f_L_has (σ : Sg) (x0 : Nat) (x1 : Int32) (d : Dt) : Option (Int32 × Dt) :=
  f_L_has_L4 σ aw_FU (fun x2_4 d_5 => aw_chk (x2_4 &&& 1 = x2_4) (some (x2_4, d_5))) x0 x1 ((0 : Int32)) ((0 : Int32)) d
section W_L_has
variable {p : Program} {l : Launch} {e : Env} {s : State} {m : MethodId} {args : Array Value} {below : List Frame} {meth : Method} {c : Code}
variable {D : va_G} {cA : Nat → ClassId} {base : Nat} {ad : Nat → Nat} {σ : Sg}
set_option maxHeartbeats 4000000 in
set_option maxRecDepth 100000 in
theorem w_L_has_J34 {z : Int32 × Dt} (X : aw_X p c cL_has 4 s RL m meth (some .boolean)) {kb4 : Int32 → Int32 → Dt → Option (Int32 × Dt)} {t0 : Int32} {x0 : Nat} {x1 : Int32} {x3 : Int32} {d : Dt} (hf : f_L_has_J34 σ kb4 t0 x0 x1 x3 d = some z) (hkb4 : ∀ (y2 : Int32) (y3 : Int32) (d : Dt), kb4 y2 y3 d = some z → ∀ (H : Heap) (locs : List Loc) (ls : Array Slot), lv_has ls 4 [(0, .ref (ad x0)), (1, .int x1), (2, .int y2), (3, .int y3)] → aw_G D cA base ad σ d s H locs → W p l e rm_L_has s m args below meth c H locs 0 0 (aw_Ei D cA base ad σ below args s z) (F0 m 4 ls [])) {H : Heap} {locs : List Loc} {ls : Array Slot} (hl : lv_has ls 4 [(0, .ref (ad x0)), (1, .int x1), (3, .int x3)]) (G : aw_G D cA base ad σ d s H locs) : W p l e rm_L_has s m args below meth c H locs 0 0 (aw_Ei D cA base ad σ below args s z) (F0 m 34 ls [.int t0]) := by
  have hx := X.1; have hb := X.2.1; have hml := X.2.2.1; have hown := X.2.2.2.1
  unfold f_L_has_J34 at hf
  refine lv_istore_n (lv' := [(2, .int t0), (0, .ref (ad x0)), (1, .int x1), (3, .int x3)]) hx hb dL_has_34 rfl hl (by decide) rfl (fun ls hl => ?_)
  refine lv_iinc (v := x3 + 1) (lv' := [(3, .int (x3 + 1)), (2, .int t0), (0, .ref (ad x0)), (1, .int x1)]) hx hb dL_has_35 hl (k := 3) rfl rfl (by decide) rfl (fun ls hl => ?_)
  refine lv_goto (tgt := 4) hx hb dL_has_38 (by decide) ?_
  exact hkb4 _ _ _ hf _ _ _ (lv_sub hl [2, 3, 1, 0] rfl) G
set_option maxHeartbeats 4000000 in
set_option maxRecDepth 100000 in
theorem w_L_has_J29 {z : Int32 × Dt} (X : aw_X p c cL_has 4 s RL m meth (some .boolean)) {kb4 : Int32 → Int32 → Dt → Option (Int32 × Dt)} {x0 : Nat} {x1 : Int32} {x3 : Int32} {d : Dt} (hf : f_L_has_J29 σ kb4 x0 x1 x3 d = some z) (hkb4 : ∀ (y2 : Int32) (y3 : Int32) (d : Dt), kb4 y2 y3 d = some z → ∀ (H : Heap) (locs : List Loc) (ls : Array Slot), lv_has ls 4 [(0, .ref (ad x0)), (1, .int x1), (2, .int y2), (3, .int y3)] → aw_G D cA base ad σ d s H locs → W p l e rm_L_has s m args below meth c H locs 0 0 (aw_Ei D cA base ad σ below args s z) (F0 m 4 ls [])) {H : Heap} {locs : List Loc} {ls : Array Slot} (hl : lv_has ls 4 [(0, .ref (ad x0)), (1, .int x1), (3, .int x3)]) (G : aw_G D cA base ad σ d s H locs) : W p l e rm_L_has s m args below meth c H locs 0 0 (aw_Ei D cA base ad σ below args s z) (F0 m 29 ls []) := by
  have hx := X.1; have hb := X.2.1; have hml := X.2.2.1; have hown := X.2.2.2.1
  unfold f_L_has_J29 at hf
  refine lv_iconst (v := (1 : Int32)) hx hb dL_has_29 (by decide) ?_
  refine lv_goto (tgt := 34) hx hb dL_has_30 (by decide) ?_
  exact w_L_has_J34 X hf hkb4 (lv_sub hl [0, 1, 2] rfl) G
set_option maxHeartbeats 4000000 in
set_option maxRecDepth 100000 in
theorem w_L_has_J33 {z : Int32 × Dt} (X : aw_X p c cL_has 4 s RL m meth (some .boolean)) {kb4 : Int32 → Int32 → Dt → Option (Int32 × Dt)} {x0 : Nat} {x1 : Int32} {x3 : Int32} {d : Dt} (hf : f_L_has_J33 σ kb4 x0 x1 x3 d = some z) (hkb4 : ∀ (y2 : Int32) (y3 : Int32) (d : Dt), kb4 y2 y3 d = some z → ∀ (H : Heap) (locs : List Loc) (ls : Array Slot), lv_has ls 4 [(0, .ref (ad x0)), (1, .int x1), (2, .int y2), (3, .int y3)] → aw_G D cA base ad σ d s H locs → W p l e rm_L_has s m args below meth c H locs 0 0 (aw_Ei D cA base ad σ below args s z) (F0 m 4 ls [])) {H : Heap} {locs : List Loc} {ls : Array Slot} (hl : lv_has ls 4 [(0, .ref (ad x0)), (1, .int x1), (3, .int x3)]) (G : aw_G D cA base ad σ d s H locs) : W p l e rm_L_has s m args below meth c H locs 0 0 (aw_Ei D cA base ad σ below args s z) (F0 m 33 ls []) := by
  have hx := X.1; have hb := X.2.1; have hml := X.2.2.1; have hown := X.2.2.2.1
  unfold f_L_has_J33 at hf
  refine lv_iconst (v := (0 : Int32)) hx hb dL_has_33 (by decide) ?_
  exact w_L_has_J34 X hf hkb4 (lv_sub hl [0, 1, 2] rfl) G
set_option maxHeartbeats 4000000 in
set_option maxRecDepth 100000 in
theorem w_L_has_B4 {z : Int32 × Dt} (X : aw_X p c cL_has 4 s RL m meth (some .boolean)) {kb4 : Int32 → Int32 → Dt → Option (Int32 × Dt)} {k4 : Int32 → Dt → Option (Int32 × Dt)} {x0 : Nat} {x1 : Int32} {x2 : Int32} {x3 : Int32} {d : Dt} (hf : f_L_has_B4 σ kb4 k4 x0 x1 x2 x3 d = some z) (hkb4 : ∀ (y2 : Int32) (y3 : Int32) (d : Dt), kb4 y2 y3 d = some z → ∀ (H : Heap) (locs : List Loc) (ls : Array Slot), lv_has ls 4 [(0, .ref (ad x0)), (1, .int x1), (2, .int y2), (3, .int y3)] → aw_G D cA base ad σ d s H locs → W p l e rm_L_has s m args below meth c H locs 0 0 (aw_Ei D cA base ad σ below args s z) (F0 m 4 ls [])) (hk4 : ∀ (y2 : Int32) (d : Dt), k4 y2 d = some z → ∀ (H : Heap) (locs : List Loc) (ls : Array Slot), lv_has ls 4 [(2, .int y2)] → aw_G D cA base ad σ d s H locs → W p l e rm_L_has s m args below meth c H locs 0 0 (aw_Ei D cA base ad σ below args s z) (F0 m 41 ls [])) {H : Heap} {locs : List Loc} {ls : Array Slot} (hl : lv_has ls 4 [(0, .ref (ad x0)), (1, .int x1), (2, .int x2), (3, .int x3)]) (G : aw_G D cA base ad σ d s H locs) : W p l e rm_L_has s m args below meth c H locs 0 0 (aw_Ei D cA base ad σ below args s z) (F0 m 4 ls []) := by
  have hx := X.1; have hb := X.2.1; have hml := X.2.2.1; have hown := X.2.2.2.1
  unfold f_L_has_B4 at hf
  refine lv_iload_n hx hb dL_has_4 rfl (lv_at hl 3 rfl) ?_
  refine lv_bipush (v := (47 : Int32)) hx hb dL_has_5 (by decide) ?_
  refine lv_icmp_ge (tgt := 41) hx hb dL_has_7 (by decide) (fun hc => ?_) (fun hc => ?_)
  · have hf := aw_ite_t hc hf
    exact hk4 _ _ hf _ _ _ (lv_sub hl [2] rfl) G
  · have hf := aw_ite_f hc hf
    refine lv_iload_n hx hb dL_has_10 rfl (lv_at hl 2 rfl) ?_
    refine lv_if_ne (tgt := 29) hx hb dL_has_11 (by decide) (fun hc => ?_) (fun hc => ?_)
    · have hf := aw_ite_f hc hf
      exact w_L_has_J29 X hf hkb4 (lv_sub hl [0, 1, 3] rfl) G
    · have hf := aw_ite_t hc hf
      refine lv_aload_n hx hb dL_has_14 rfl (lv_at hl 0 rfl) ?_
      refine lv_iload_n hx hb dL_has_15 rfl (lv_at hl 3 rfl) ?_
      obtain ⟨z_1, hz_2, hf⟩ := aw_bind_some hf
      refine aw_SI (As := [.ref (ad x0), .int x3]) (rest := []) X G hl.1 cr_L_104 (c_L_isUnit l hz_2) ⟨rfl, rfl⟩ rfl rfl rfl ⟨Nat.le_of_ble_eq_true rfl, Nat.le_of_ble_eq_true rfl⟩ (Nat.le_of_ble_eq_true rfl) dL_has_16 ⟨Nat.zero_le _, Nat.zero_le _⟩ (fun H locs G => ?_)
      refine lv_if_eq (tgt := 33) hx hb dL_has_19 (by decide) (fun hc => ?_) (fun hc => ?_)
      · have hf := aw_ite_t hc hf
        exact w_L_has_J33 X hf hkb4 (lv_sub hl [0, 1, 3] rfl) G
      · have hf := aw_ite_f hc hf
        refine lv_aload_n hx hb dL_has_22 rfl (lv_at hl 0 rfl) ?_
        refine lv_iload_n hx hb dL_has_23 rfl (lv_at hl 3 rfl) ?_
        obtain ⟨hc_3, hf⟩ := aw_chk_some hf
        refine aw_ial hx hb G hc_3 dL_has_24 ?_
        refine lv_iload_n hx hb dL_has_25 rfl (lv_at hl 1 rfl) ?_
        refine lv_icmp_ne (tgt := 33) hx hb dL_has_26 (by decide) (fun hc => ?_) (fun hc => ?_)
        · have hf := aw_ite_f hc hf
          exact w_L_has_J33 X hf hkb4 (lv_sub hl [0, 1, 3] rfl) G
        · have hf := aw_ite_t hc hf
          exact w_L_has_J29 X hf hkb4 (lv_sub hl [0, 1, 3] rfl) G
theorem w_L_has_L4 {z : Int32 × Dt} (X : aw_X p c cL_has 4 s RL m meth (some .boolean)) {k4 : Int32 → Dt → Option (Int32 × Dt)} {x0 : Nat} {x1 : Int32} (n : Nat) {x2 : Int32} {x3 : Int32} {d : Dt} (hf : f_L_has_L4 σ n k4 x0 x1 x2 x3 d = some z) (hk4 : ∀ (y2 : Int32) (d : Dt), k4 y2 d = some z → ∀ (H : Heap) (locs : List Loc) (ls : Array Slot), lv_has ls 4 [(2, .int y2)] → aw_G D cA base ad σ d s H locs → W p l e rm_L_has s m args below meth c H locs 0 0 (aw_Ei D cA base ad σ below args s z) (F0 m 41 ls [])) {H : Heap} {locs : List Loc} {ls : Array Slot} (hl : lv_has ls 4 [(0, .ref (ad x0)), (1, .int x1), (2, .int x2), (3, .int x3)]) (G : aw_G D cA base ad σ d s H locs) : W p l e rm_L_has s m args below meth c H locs 0 0 (aw_Ei D cA base ad σ below args s z) (F0 m 4 ls []) := by
  induction n generalizing x2 x3 d H locs ls with
  | zero => exact absurd (show (none : Option (Int32 × Dt)) = some z from hf) (by simp)
  | succ n ih => exact w_L_has_B4 X (kb4 := f_L_has_L4 σ n k4 x0 x1) hf  (fun x2 x3 d hf H locs ls hl G => ih hf hl G) hk4 hl G
end W_L_has
set_option maxHeartbeats 4000000 in
set_option maxRecDepth 100000 in
theorem c_L_has (l : Launch) {σ : Sg} {x0 : Nat} {x1 : Int32} {d : Dt} {z : Int32 × Dt} (hf : f_L_has σ x0 x1 d = some z) : aw_Mi l yL_has (Cond.code yL_has cL_has 4 (some .boolean)) rm_L_has (fun ad => [.ref (ad x0), .int x1]) σ d z := by
  intro D cA base ad
  refine aw_ofW (own := RL) (cc := cL_has) (nL := 4) (ret := some .boolean) (by decide) rfl rfl ?_
  intro p e s m below meth c X hnm G
  have hx := X.1; have hb := X.2.1; have hml := X.2.2.1; have hown := X.2.2.2.1
  refine aw_ls (lv := [(0, .ref (ad x0)), (1, .int x1)]) (Nat.le_of_ble_eq_true rfl) rfl (fun ls hl => ?_)
  unfold f_L_has at hf
  refine lv_iconst (v := (0 : Int32)) hx hb dL_has_0 (by decide) ?_
  refine lv_istore_n (lv' := [(2, .int ((0 : Int32))), (0, .ref (ad x0)), (1, .int x1)]) hx hb dL_has_1 rfl hl (by decide) rfl (fun ls hl => ?_)
  refine lv_iconst (v := (0 : Int32)) hx hb dL_has_2 (by decide) ?_
  refine lv_istore_n (lv' := [(3, .int ((0 : Int32))), (2, .int ((0 : Int32))), (0, .ref (ad x0)), (1, .int x1)]) hx hb dL_has_3 rfl hl (by decide) rfl (fun ls hl => ?_)
  refine w_L_has_L4 X aw_FU hf  (fun x2_4 d_5 hf H locs ls hl G => ?_) (lv_sub hl [2, 3, 1, 0] rfl) G
  refine lv_iload_n hx hb dL_has_41 rfl (lv_at hl 0 rfl) ?_
  obtain ⟨hc_6, hf⟩ := aw_chk_some hf
  exact aw_retz X G hc_6 hf dL_has_42
def rm_L_errors : Room := { frames := 2, cells := 0, slots := 0, locals := 52 }
def f_L_errors_J68 (σ : Sg) (kb31 : Int32 → Int32 → Dt → Option (Int32 × Dt)) (t1 : Int32) (t0 : Int32) (x0 : Nat) (x1 : Nat) (x2 : Nat) (x3 : Nat) (x4 : Nat) (x5 : Int32) (x6 : Int32) (x7 : Int32) (x9 : Int32) (x10 : Int32) (d : Dt) : Option (Int32 × Dt) :=
  kb31 (t0 + t1) (x10 + 1) d
def f_L_errors_B31 (σ : Sg) (kb31 : Int32 → Int32 → Dt → Option (Int32 × Dt)) (k31 : Int32 → Dt → Option (Int32 × Dt)) (x0 : Nat) (x1 : Nat) (x2 : Nat) (x3 : Nat) (x4 : Nat) (x5 : Int32) (x6 : Int32) (x7 : Int32) (x9 : Int32) (x8 : Int32) (x10 : Int32) (d : Dt) : Option (Int32 × Dt) :=
  (f_L_many σ x2 x9 d).bind (fun z_2 => if z_2.1 ≤ x10 then k31 x8 z_2.2 else (f_L_sign σ x2 x9 x10 z_2.2).bind (fun z_4 => if z_4.1 = x7 then aw_chk (aw_I σ 20 x3 (((8 : Int32)) + x9)) (f_L_errors_J68 σ kb31 (z_4.2.1 x3 (((8 : Int32)) + x9).toNatClampNeg) x8 x0 x1 x2 x3 x4 x5 x6 x7 x9 x10 z_4.2) else f_L_errors_J68 σ kb31 ((0 : Int32)) x8 x0 x1 x2 x3 x4 x5 x6 x7 x9 x10 z_4.2))
def f_L_errors_L31 (σ : Sg) (n : Nat) (k31 : Int32 → Dt → Option (Int32 × Dt)) (x0 : Nat) (x1 : Nat) (x2 : Nat) (x3 : Nat) (x4 : Nat) (x5 : Int32) (x6 : Int32) (x7 : Int32) (x9 : Int32) : Int32 → Int32 → Dt → Option (Int32 × Dt) := match n with
  | 0 => fun _ _ _ => none
  | n + 1 => fun x8 x10 d => f_L_errors_B31 σ (f_L_errors_L31 σ n k31 x0 x1 x2 x3 x4 x5 x6 x7 x9) k31 x0 x1 x2 x3 x4 x5 x6 x7 x9 x8 x10 d
def f_L_errors_B19 (σ : Sg) (kb19 : Int32 → Int32 → Dt → Option (Int32 × Dt)) (k19 : Int32 → Dt → Option (Int32 × Dt)) (x0 : Nat) (x1 : Nat) (x2 : Nat) (x3 : Nat) (x4 : Nat) (x5 : Int32) (x6 : Int32) (x7 : Int32) (x8 : Int32) (x9 : Int32) (d : Dt) : Option (Int32 × Dt) :=
  aw_chk (aw_I σ 20 x4 ((0 : Int32))) (if (d.1 x4 ((0 : Int32)).toNatClampNeg) ≤ x9 then k19 x8 d else f_L_errors_L31 σ aw_FU (fun x8_7 d_8 => kb19 x8_7 (x9 + 1) d_8) x0 x1 x2 x3 x4 x5 x6 x7 x9 x8 ((0 : Int32)) d)
def f_L_errors_L19 (σ : Sg) (n : Nat) (k19 : Int32 → Dt → Option (Int32 × Dt)) (x0 : Nat) (x1 : Nat) (x2 : Nat) (x3 : Nat) (x4 : Nat) (x5 : Int32) (x6 : Int32) (x7 : Int32) : Int32 → Int32 → Dt → Option (Int32 × Dt) := match n with
  | 0 => fun _ _ _ => none
  | n + 1 => fun x8 x9 d => f_L_errors_B19 σ (f_L_errors_L19 σ n k19 x0 x1 x2 x3 x4 x5 x6 x7) k19 x0 x1 x2 x3 x4 x5 x6 x7 x8 x9 d
def f_L_errors_J144 (σ : Sg) (kb89 : Int32 → Int32 → Dt → Option (Int32 × Dt)) (t0 : Int32) (x0 : Nat) (x1 : Nat) (x2 : Nat) (x3 : Nat) (x4 : Nat) (x5 : Int32) (x6 : Int32) (x7 : Int32) (x8 : Int32) (x10 : Int32) (d : Dt) : Option (Int32 × Dt) :=
  kb89 t0 (x10 + 1) d
def f_L_errors_J143 (σ : Sg) (kb89 : Int32 → Int32 → Dt → Option (Int32 × Dt)) (x0 : Nat) (x1 : Nat) (x2 : Nat) (x3 : Nat) (x4 : Nat) (x5 : Int32) (x6 : Int32) (x7 : Int32) (x8 : Int32) (x10 : Int32) (d : Dt) : Option (Int32 × Dt) :=
  f_L_errors_J144 σ kb89 ((0 : Int32)) x0 x1 x2 x3 x4 x5 x6 x7 x8 x10 d
def f_L_errors_B89 (σ : Sg) (kb89 : Int32 → Int32 → Dt → Option (Int32 × Dt)) (k89 : Int32 → Dt → Option (Int32 × Dt)) (x0 : Nat) (x1 : Nat) (x2 : Nat) (x3 : Nat) (x4 : Nat) (x5 : Int32) (x6 : Int32) (x7 : Int32) (x8 : Int32) (x9 : Int32) (x10 : Int32) (d : Dt) : Option (Int32 × Dt) :=
  if ((50 : Int32)) ≤ x10 then k89 x9 d else if x8 ≤ 0 then k89 x9 d else if x9 = 0 then if x10 = x7 then f_L_errors_J143 σ kb89 x0 x1 x2 x3 x4 x5 x6 x7 x8 x10 d else (f_L_has σ x0 x10 d).bind (fun z_11 => if z_11.1 = 0 then f_L_errors_J143 σ kb89 x0 x1 x2 x3 x4 x5 x6 x7 x8 x10 z_11.2 else aw_chk (aw_I σ 20 x1 x7) (aw_chk (aw_I σ 20 x1 x10) ((f_L_apart σ x3 (z_11.2.1 x1 x7.toNatClampNeg) (z_11.2.1 x1 x10.toNatClampNeg) z_11.2).bind (fun z_15 => if x5 < z_15.1 then f_L_errors_J143 σ kb89 x0 x1 x2 x3 x4 x5 x6 x7 x8 x10 z_15.2 else f_L_errors_J144 σ kb89 ((1 : Int32)) x0 x1 x2 x3 x4 x5 x6 x7 x8 x10 z_15.2)))) else k89 x9 d
def f_L_errors_L89 (σ : Sg) (n : Nat) (k89 : Int32 → Dt → Option (Int32 × Dt)) (x0 : Nat) (x1 : Nat) (x2 : Nat) (x3 : Nat) (x4 : Nat) (x5 : Int32) (x6 : Int32) (x7 : Int32) (x8 : Int32) : Int32 → Int32 → Dt → Option (Int32 × Dt) := match n with
  | 0 => fun _ _ _ => none
  | n + 1 => fun x9 x10 d => f_L_errors_B89 σ (f_L_errors_L89 σ n k89 x0 x1 x2 x3 x4 x5 x6 x7 x8) k89 x0 x1 x2 x3 x4 x5 x6 x7 x8 x9 x10 d
def f_L_errors_J165 (σ : Sg) (kb6 : Int32 → Int32 → Dt → Option (Int32 × Dt)) (t1 : Int32) (t0 : Int32) (x0 : Nat) (x1 : Nat) (x2 : Nat) (x3 : Nat) (x4 : Nat) (x5 : Int32) (x7 : Int32) (d : Dt) : Option (Int32 × Dt) :=
  kb6 (t0 + t1) (x7 + 1) d
def f_L_errors_J152 (σ : Sg) (kb6 : Int32 → Int32 → Dt → Option (Int32 × Dt)) (x0 : Nat) (x1 : Nat) (x2 : Nat) (x3 : Nat) (x4 : Nat) (x5 : Int32) (x6 : Int32) (x7 : Int32) (x8 : Int32) (x9 : Int32) (d : Dt) : Option (Int32 × Dt) :=
  if x9 = 0 then f_L_errors_J165 σ kb6 ((0 : Int32)) x6 x0 x1 x2 x3 x4 x5 x7 d else f_L_errors_J165 σ kb6 x8 x6 x0 x1 x2 x3 x4 x5 x7 d
def f_L_errors_B6 (σ : Sg) (kb6 : Int32 → Int32 → Dt → Option (Int32 × Dt)) (k6 : Int32 → Dt → Option (Int32 × Dt)) (x0 : Nat) (x1 : Nat) (x2 : Nat) (x3 : Nat) (x4 : Nat) (x5 : Int32) (x6 : Int32) (x7 : Int32) (d : Dt) : Option (Int32 × Dt) :=
  if ((50 : Int32)) ≤ x7 then k6 x6 d else f_L_errors_L19 σ aw_FU (fun x8_9 d_10 => f_L_errors_L89 σ aw_FU (fun x9_17 d_18 => f_L_errors_J152 σ kb6 x0 x1 x2 x3 x4 x5 x6 x7 x8_9 x9_17 d_18) x0 x1 x2 x3 x4 x5 x6 x7 x8_9 ((0 : Int32)) ((0 : Int32)) d_10) x0 x1 x2 x3 x4 x5 x6 x7 ((0 : Int32)) ((0 : Int32)) d
def f_L_errors_L6 (σ : Sg) (n : Nat) (k6 : Int32 → Dt → Option (Int32 × Dt)) (x0 : Nat) (x1 : Nat) (x2 : Nat) (x3 : Nat) (x4 : Nat) (x5 : Int32) : Int32 → Int32 → Dt → Option (Int32 × Dt) := match n with
  | 0 => fun _ _ _ => none
  | n + 1 => fun x6 x7 d => f_L_errors_B6 σ (f_L_errors_L6 σ n k6 x0 x1 x2 x3 x4 x5) k6 x0 x1 x2 x3 x4 x5 x6 x7 d
def f_L_errors (σ : Sg) (x0 : Nat) (x1 : Nat) (x2 : Nat) (x3 : Nat) (x4 : Nat) (x5 : Int32) (d : Dt) : Option (Int32 × Dt) :=
  f_L_errors_L6 σ aw_FU (fun x6_19 d_20 => some (x6_19, d_20)) x0 x1 x2 x3 x4 x5 ((0 : Int32)) ((0 : Int32)) d
section W_L_errors
variable {p : Program} {l : Launch} {e : Env} {s : State} {m : MethodId} {args : Array Value} {below : List Frame} {meth : Method} {c : Code}
variable {D : va_G} {cA : Nat → ClassId} {base : Nat} {ad : Nat → Nat} {σ : Sg}
set_option maxHeartbeats 4000000 in
set_option maxRecDepth 100000 in
theorem w_L_errors_J68 {z : Int32 × Dt} (X : aw_X p c cL_errors 11 s RL m meth (some .int)) {kb31 : Int32 → Int32 → Dt → Option (Int32 × Dt)} {t1 : Int32} {t0 : Int32} {x0 : Nat} {x1 : Nat} {x2 : Nat} {x3 : Nat} {x4 : Nat} {x5 : Int32} {x6 : Int32} {x7 : Int32} {x9 : Int32} {x10 : Int32} {d : Dt} (hf : f_L_errors_J68 σ kb31 t1 t0 x0 x1 x2 x3 x4 x5 x6 x7 x9 x10 d = some z) (hkb31 : ∀ (y8 : Int32) (y10 : Int32) (d : Dt), kb31 y8 y10 d = some z → ∀ (H : Heap) (locs : List Loc) (ls : Array Slot), lv_has ls 11 [(0, .ref (ad x0)), (1, .ref (ad x1)), (2, .ref (ad x2)), (3, .ref (ad x3)), (4, .ref (ad x4)), (5, .int x5), (6, .int x6), (7, .int x7), (8, .int y8), (9, .int x9), (10, .int y10)] → aw_G D cA base ad σ d s H locs → W p l e rm_L_errors s m args below meth c H locs 0 0 (aw_Ei D cA base ad σ below args s z) (F0 m 31 ls [])) {H : Heap} {locs : List Loc} {ls : Array Slot} (hl : lv_has ls 11 [(0, .ref (ad x0)), (1, .ref (ad x1)), (2, .ref (ad x2)), (3, .ref (ad x3)), (4, .ref (ad x4)), (5, .int x5), (6, .int x6), (7, .int x7), (9, .int x9), (10, .int x10)]) (G : aw_G D cA base ad σ d s H locs) : W p l e rm_L_errors s m args below meth c H locs 0 0 (aw_Ei D cA base ad σ below args s z) (F0 m 68 ls [.int t1, .int t0]) := by
  have hx := X.1; have hb := X.2.1; have hml := X.2.2.1; have hown := X.2.2.2.1
  unfold f_L_errors_J68 at hf
  refine lv_iadd hx hb dL_errors_68 ?_
  refine lv_istore (lv' := [(8, .int (t0 + t1)), (0, .ref (ad x0)), (1, .ref (ad x1)), (2, .ref (ad x2)), (3, .ref (ad x3)), (4, .ref (ad x4)), (5, .int x5), (6, .int x6), (7, .int x7), (9, .int x9), (10, .int x10)]) hx hb dL_errors_69 hl (by decide) rfl (fun ls hl => ?_)
  refine lv_iinc (v := x10 + 1) (lv' := [(10, .int (x10 + 1)), (8, .int (t0 + t1)), (0, .ref (ad x0)), (1, .ref (ad x1)), (2, .ref (ad x2)), (3, .ref (ad x3)), (4, .ref (ad x4)), (5, .int x5), (6, .int x6), (7, .int x7), (9, .int x9)]) hx hb dL_errors_71 hl (k := 10) rfl rfl (by decide) rfl (fun ls hl => ?_)
  refine lv_goto (tgt := 31) hx hb dL_errors_74 (by decide) ?_
  exact hkb31 _ _ _ hf _ _ _ (lv_sub hl [2, 3, 4, 5, 6, 7, 8, 9, 1, 10, 0] rfl) G
set_option maxHeartbeats 4000000 in
set_option maxRecDepth 100000 in
theorem w_L_errors_B31 {z : Int32 × Dt} (X : aw_X p c cL_errors 11 s RL m meth (some .int)) {kb31 : Int32 → Int32 → Dt → Option (Int32 × Dt)} {k31 : Int32 → Dt → Option (Int32 × Dt)} {x0 : Nat} {x1 : Nat} {x2 : Nat} {x3 : Nat} {x4 : Nat} {x5 : Int32} {x6 : Int32} {x7 : Int32} {x9 : Int32} {x8 : Int32} {x10 : Int32} {d : Dt} (hf : f_L_errors_B31 σ kb31 k31 x0 x1 x2 x3 x4 x5 x6 x7 x9 x8 x10 d = some z) (hkb31 : ∀ (y8 : Int32) (y10 : Int32) (d : Dt), kb31 y8 y10 d = some z → ∀ (H : Heap) (locs : List Loc) (ls : Array Slot), lv_has ls 11 [(0, .ref (ad x0)), (1, .ref (ad x1)), (2, .ref (ad x2)), (3, .ref (ad x3)), (4, .ref (ad x4)), (5, .int x5), (6, .int x6), (7, .int x7), (8, .int y8), (9, .int x9), (10, .int y10)] → aw_G D cA base ad σ d s H locs → W p l e rm_L_errors s m args below meth c H locs 0 0 (aw_Ei D cA base ad σ below args s z) (F0 m 31 ls [])) (hk31 : ∀ (y8 : Int32) (d : Dt), k31 y8 d = some z → ∀ (H : Heap) (locs : List Loc) (ls : Array Slot), lv_has ls 11 [(0, .ref (ad x0)), (1, .ref (ad x1)), (2, .ref (ad x2)), (3, .ref (ad x3)), (4, .ref (ad x4)), (5, .int x5), (6, .int x6), (7, .int x7), (8, .int y8), (9, .int x9)] → aw_G D cA base ad σ d s H locs → W p l e rm_L_errors s m args below meth c H locs 0 0 (aw_Ei D cA base ad σ below args s z) (F0 m 77 ls [])) {H : Heap} {locs : List Loc} {ls : Array Slot} (hl : lv_has ls 11 [(0, .ref (ad x0)), (1, .ref (ad x1)), (2, .ref (ad x2)), (3, .ref (ad x3)), (4, .ref (ad x4)), (5, .int x5), (6, .int x6), (7, .int x7), (8, .int x8), (9, .int x9), (10, .int x10)]) (G : aw_G D cA base ad σ d s H locs) : W p l e rm_L_errors s m args below meth c H locs 0 0 (aw_Ei D cA base ad σ below args s z) (F0 m 31 ls []) := by
  have hx := X.1; have hb := X.2.1; have hml := X.2.2.1; have hown := X.2.2.2.1
  unfold f_L_errors_B31 at hf
  refine lv_iload hx hb dL_errors_31 (lv_at hl 10 rfl) ?_
  refine lv_aload_n hx hb dL_errors_33 rfl (lv_at hl 2 rfl) ?_
  refine lv_iload hx hb dL_errors_34 (lv_at hl 9 rfl) ?_
  obtain ⟨z_2, hz_3, hf⟩ := aw_bind_some hf
  refine aw_SI (As := [.ref (ad x2), .int x9]) (rest := [.int x10]) X G hl.1 cr_L_93 (c_L_many l hz_3) ⟨rfl, rfl⟩ rfl rfl rfl ⟨Nat.le_of_ble_eq_true rfl, Nat.le_of_ble_eq_true rfl⟩ (Nat.le_of_ble_eq_true rfl) dL_errors_36 ⟨Nat.zero_le _, Nat.zero_le _⟩ (fun H locs G => ?_)
  refine lv_icmp_ge (tgt := 77) hx hb dL_errors_39 (by decide) (fun hc => ?_) (fun hc => ?_)
  · have hf := aw_ite_t hc hf
    exact hk31 _ _ hf _ _ _ (lv_sub hl [0, 1, 2, 3, 4, 5, 6, 7, 8, 9] rfl) G
  · have hf := aw_ite_f hc hf
    refine lv_iload hx hb dL_errors_42 (lv_at hl 8 rfl) ?_
    refine lv_aload_n hx hb dL_errors_44 rfl (lv_at hl 2 rfl) ?_
    refine lv_iload hx hb dL_errors_45 (lv_at hl 9 rfl) ?_
    refine lv_iload hx hb dL_errors_47 (lv_at hl 10 rfl) ?_
    obtain ⟨z_4, hz_5, hf⟩ := aw_bind_some hf
    refine aw_SI (As := [.ref (ad x2), .int x9, .int x10]) (rest := [.int x8]) X G hl.1 cr_L_85 (c_L_sign l hz_5) ⟨rfl, rfl⟩ rfl rfl rfl ⟨Nat.le_of_ble_eq_true rfl, Nat.le_of_ble_eq_true rfl⟩ (Nat.le_of_ble_eq_true rfl) dL_errors_49 ⟨Nat.zero_le _, Nat.zero_le _⟩ (fun H locs G => ?_)
    refine lv_iload hx hb dL_errors_52 (lv_at hl 7 rfl) ?_
    refine lv_icmp_ne (tgt := 67) hx hb dL_errors_54 (by decide) (fun hc => ?_) (fun hc => ?_)
    · have hf := aw_ite_f hc hf
      refine lv_iconst (v := (0 : Int32)) hx hb dL_errors_67 (by decide) ?_
      exact w_L_errors_J68 X hf hkb31 (lv_sub hl [0, 1, 2, 3, 4, 5, 6, 7, 9, 10] rfl) G
    · have hf := aw_ite_t hc hf
      refine lv_aload_n hx hb dL_errors_57 rfl (lv_at hl 3 rfl) ?_
      refine lv_bipush (v := (8 : Int32)) hx hb dL_errors_58 (by decide) ?_
      refine lv_iload hx hb dL_errors_60 (lv_at hl 9 rfl) ?_
      refine lv_iadd hx hb dL_errors_62 ?_
      obtain ⟨hc_6, hf⟩ := aw_chk_some hf
      refine aw_ial hx hb G hc_6 dL_errors_63 ?_
      refine lv_goto (tgt := 68) hx hb dL_errors_64 (by decide) ?_
      exact w_L_errors_J68 X hf hkb31 (lv_sub hl [0, 1, 2, 3, 4, 5, 6, 7, 9, 10] rfl) G
theorem w_L_errors_L31 {z : Int32 × Dt} (X : aw_X p c cL_errors 11 s RL m meth (some .int)) {k31 : Int32 → Dt → Option (Int32 × Dt)} {x0 : Nat} {x1 : Nat} {x2 : Nat} {x3 : Nat} {x4 : Nat} {x5 : Int32} {x6 : Int32} {x7 : Int32} {x9 : Int32} (n : Nat) {x8 : Int32} {x10 : Int32} {d : Dt} (hf : f_L_errors_L31 σ n k31 x0 x1 x2 x3 x4 x5 x6 x7 x9 x8 x10 d = some z) (hk31 : ∀ (y8 : Int32) (d : Dt), k31 y8 d = some z → ∀ (H : Heap) (locs : List Loc) (ls : Array Slot), lv_has ls 11 [(0, .ref (ad x0)), (1, .ref (ad x1)), (2, .ref (ad x2)), (3, .ref (ad x3)), (4, .ref (ad x4)), (5, .int x5), (6, .int x6), (7, .int x7), (8, .int y8), (9, .int x9)] → aw_G D cA base ad σ d s H locs → W p l e rm_L_errors s m args below meth c H locs 0 0 (aw_Ei D cA base ad σ below args s z) (F0 m 77 ls [])) {H : Heap} {locs : List Loc} {ls : Array Slot} (hl : lv_has ls 11 [(0, .ref (ad x0)), (1, .ref (ad x1)), (2, .ref (ad x2)), (3, .ref (ad x3)), (4, .ref (ad x4)), (5, .int x5), (6, .int x6), (7, .int x7), (8, .int x8), (9, .int x9), (10, .int x10)]) (G : aw_G D cA base ad σ d s H locs) : W p l e rm_L_errors s m args below meth c H locs 0 0 (aw_Ei D cA base ad σ below args s z) (F0 m 31 ls []) := by
  induction n generalizing x8 x10 d H locs ls with
  | zero => exact absurd (show (none : Option (Int32 × Dt)) = some z from hf) (by simp)
  | succ n ih => exact w_L_errors_B31 X (kb31 := f_L_errors_L31 σ n k31 x0 x1 x2 x3 x4 x5 x6 x7 x9) hf  (fun x8 x10 d hf H locs ls hl G => ih hf hl G) hk31 hl G
set_option maxHeartbeats 4000000 in
set_option maxRecDepth 100000 in
theorem w_L_errors_B19 {z : Int32 × Dt} (X : aw_X p c cL_errors 11 s RL m meth (some .int)) {kb19 : Int32 → Int32 → Dt → Option (Int32 × Dt)} {k19 : Int32 → Dt → Option (Int32 × Dt)} {x0 : Nat} {x1 : Nat} {x2 : Nat} {x3 : Nat} {x4 : Nat} {x5 : Int32} {x6 : Int32} {x7 : Int32} {x8 : Int32} {x9 : Int32} {d : Dt} (hf : f_L_errors_B19 σ kb19 k19 x0 x1 x2 x3 x4 x5 x6 x7 x8 x9 d = some z) (hkb19 : ∀ (y8 : Int32) (y9 : Int32) (d : Dt), kb19 y8 y9 d = some z → ∀ (H : Heap) (locs : List Loc) (ls : Array Slot), lv_has ls 11 [(0, .ref (ad x0)), (1, .ref (ad x1)), (2, .ref (ad x2)), (3, .ref (ad x3)), (4, .ref (ad x4)), (5, .int x5), (6, .int x6), (7, .int x7), (8, .int y8), (9, .int y9)] → aw_G D cA base ad σ d s H locs → W p l e rm_L_errors s m args below meth c H locs 0 0 (aw_Ei D cA base ad σ below args s z) (F0 m 19 ls [])) (hk19 : ∀ (y8 : Int32) (d : Dt), k19 y8 d = some z → ∀ (H : Heap) (locs : List Loc) (ls : Array Slot), lv_has ls 11 [(0, .ref (ad x0)), (1, .ref (ad x1)), (2, .ref (ad x2)), (3, .ref (ad x3)), (4, .ref (ad x4)), (5, .int x5), (6, .int x6), (7, .int x7), (8, .int y8)] → aw_G D cA base ad σ d s H locs → W p l e rm_L_errors s m args below meth c H locs 0 0 (aw_Ei D cA base ad σ below args s z) (F0 m 83 ls [])) {H : Heap} {locs : List Loc} {ls : Array Slot} (hl : lv_has ls 11 [(0, .ref (ad x0)), (1, .ref (ad x1)), (2, .ref (ad x2)), (3, .ref (ad x3)), (4, .ref (ad x4)), (5, .int x5), (6, .int x6), (7, .int x7), (8, .int x8), (9, .int x9)]) (G : aw_G D cA base ad σ d s H locs) : W p l e rm_L_errors s m args below meth c H locs 0 0 (aw_Ei D cA base ad σ below args s z) (F0 m 19 ls []) := by
  have hx := X.1; have hb := X.2.1; have hml := X.2.2.1; have hown := X.2.2.2.1
  unfold f_L_errors_B19 at hf
  refine lv_iload hx hb dL_errors_19 (lv_at hl 9 rfl) ?_
  refine lv_aload hx hb dL_errors_21 (lv_at hl 4 rfl) ?_
  refine lv_iconst (v := (0 : Int32)) hx hb dL_errors_23 (by decide) ?_
  obtain ⟨hc_1, hf⟩ := aw_chk_some hf
  refine aw_ial hx hb G hc_1 dL_errors_24 ?_
  refine lv_icmp_ge (tgt := 83) hx hb dL_errors_25 (by decide) (fun hc => ?_) (fun hc => ?_)
  · have hf := aw_ite_t hc hf
    exact hk19 _ _ hf _ _ _ (lv_sub hl [0, 1, 2, 3, 4, 5, 6, 7, 8] rfl) G
  · have hf := aw_ite_f hc hf
    refine lv_iconst (v := (0 : Int32)) hx hb dL_errors_28 (by decide) ?_
    refine lv_istore (lv' := [(10, .int ((0 : Int32))), (0, .ref (ad x0)), (1, .ref (ad x1)), (2, .ref (ad x2)), (3, .ref (ad x3)), (4, .ref (ad x4)), (5, .int x5), (6, .int x6), (7, .int x7), (8, .int x8), (9, .int x9)]) hx hb dL_errors_29 hl (by decide) rfl (fun ls hl => ?_)
    refine w_L_errors_L31 X aw_FU hf  (fun x8_7 d_8 hf H locs ls hl G => ?_) (lv_sub hl [1, 2, 3, 4, 5, 6, 7, 8, 9, 10, 0] rfl) G
    refine lv_iinc (v := x9 + 1) (lv' := [(9, .int (x9 + 1)), (0, .ref (ad x0)), (1, .ref (ad x1)), (2, .ref (ad x2)), (3, .ref (ad x3)), (4, .ref (ad x4)), (5, .int x5), (6, .int x6), (7, .int x7), (8, .int x8_7)]) hx hb dL_errors_77 hl (k := 9) rfl rfl (by decide) rfl (fun ls hl => ?_)
    refine lv_goto (tgt := 19) hx hb dL_errors_80 (by decide) ?_
    exact hkb19 _ _ _ hf _ _ _ (lv_sub hl [1, 2, 3, 4, 5, 6, 7, 8, 9, 0] rfl) G
theorem w_L_errors_L19 {z : Int32 × Dt} (X : aw_X p c cL_errors 11 s RL m meth (some .int)) {k19 : Int32 → Dt → Option (Int32 × Dt)} {x0 : Nat} {x1 : Nat} {x2 : Nat} {x3 : Nat} {x4 : Nat} {x5 : Int32} {x6 : Int32} {x7 : Int32} (n : Nat) {x8 : Int32} {x9 : Int32} {d : Dt} (hf : f_L_errors_L19 σ n k19 x0 x1 x2 x3 x4 x5 x6 x7 x8 x9 d = some z) (hk19 : ∀ (y8 : Int32) (d : Dt), k19 y8 d = some z → ∀ (H : Heap) (locs : List Loc) (ls : Array Slot), lv_has ls 11 [(0, .ref (ad x0)), (1, .ref (ad x1)), (2, .ref (ad x2)), (3, .ref (ad x3)), (4, .ref (ad x4)), (5, .int x5), (6, .int x6), (7, .int x7), (8, .int y8)] → aw_G D cA base ad σ d s H locs → W p l e rm_L_errors s m args below meth c H locs 0 0 (aw_Ei D cA base ad σ below args s z) (F0 m 83 ls [])) {H : Heap} {locs : List Loc} {ls : Array Slot} (hl : lv_has ls 11 [(0, .ref (ad x0)), (1, .ref (ad x1)), (2, .ref (ad x2)), (3, .ref (ad x3)), (4, .ref (ad x4)), (5, .int x5), (6, .int x6), (7, .int x7), (8, .int x8), (9, .int x9)]) (G : aw_G D cA base ad σ d s H locs) : W p l e rm_L_errors s m args below meth c H locs 0 0 (aw_Ei D cA base ad σ below args s z) (F0 m 19 ls []) := by
  induction n generalizing x8 x9 d H locs ls with
  | zero => exact absurd (show (none : Option (Int32 × Dt)) = some z from hf) (by simp)
  | succ n ih => exact w_L_errors_B19 X (kb19 := f_L_errors_L19 σ n k19 x0 x1 x2 x3 x4 x5 x6 x7) hf  (fun x8 x9 d hf H locs ls hl G => ih hf hl G) hk19 hl G
set_option maxHeartbeats 4000000 in
set_option maxRecDepth 100000 in
theorem w_L_errors_J144 {z : Int32 × Dt} (X : aw_X p c cL_errors 11 s RL m meth (some .int)) {kb89 : Int32 → Int32 → Dt → Option (Int32 × Dt)} {t0 : Int32} {x0 : Nat} {x1 : Nat} {x2 : Nat} {x3 : Nat} {x4 : Nat} {x5 : Int32} {x6 : Int32} {x7 : Int32} {x8 : Int32} {x10 : Int32} {d : Dt} (hf : f_L_errors_J144 σ kb89 t0 x0 x1 x2 x3 x4 x5 x6 x7 x8 x10 d = some z) (hkb89 : ∀ (y9 : Int32) (y10 : Int32) (d : Dt), kb89 y9 y10 d = some z → ∀ (H : Heap) (locs : List Loc) (ls : Array Slot), lv_has ls 11 [(0, .ref (ad x0)), (1, .ref (ad x1)), (2, .ref (ad x2)), (3, .ref (ad x3)), (4, .ref (ad x4)), (5, .int x5), (6, .int x6), (7, .int x7), (8, .int x8), (9, .int y9), (10, .int y10)] → aw_G D cA base ad σ d s H locs → W p l e rm_L_errors s m args below meth c H locs 0 0 (aw_Ei D cA base ad σ below args s z) (F0 m 89 ls [])) {H : Heap} {locs : List Loc} {ls : Array Slot} (hl : lv_has ls 11 [(0, .ref (ad x0)), (1, .ref (ad x1)), (2, .ref (ad x2)), (3, .ref (ad x3)), (4, .ref (ad x4)), (5, .int x5), (6, .int x6), (7, .int x7), (8, .int x8), (10, .int x10)]) (G : aw_G D cA base ad σ d s H locs) : W p l e rm_L_errors s m args below meth c H locs 0 0 (aw_Ei D cA base ad σ below args s z) (F0 m 144 ls [.int t0]) := by
  have hx := X.1; have hb := X.2.1; have hml := X.2.2.1; have hown := X.2.2.2.1
  unfold f_L_errors_J144 at hf
  refine lv_istore (lv' := [(9, .int t0), (0, .ref (ad x0)), (1, .ref (ad x1)), (2, .ref (ad x2)), (3, .ref (ad x3)), (4, .ref (ad x4)), (5, .int x5), (6, .int x6), (7, .int x7), (8, .int x8), (10, .int x10)]) hx hb dL_errors_144 hl (by decide) rfl (fun ls hl => ?_)
  refine lv_iinc (v := x10 + 1) (lv' := [(10, .int (x10 + 1)), (9, .int t0), (0, .ref (ad x0)), (1, .ref (ad x1)), (2, .ref (ad x2)), (3, .ref (ad x3)), (4, .ref (ad x4)), (5, .int x5), (6, .int x6), (7, .int x7), (8, .int x8)]) hx hb dL_errors_146 hl (k := 10) rfl rfl (by decide) rfl (fun ls hl => ?_)
  refine lv_goto (tgt := 89) hx hb dL_errors_149 (by decide) ?_
  exact hkb89 _ _ _ hf _ _ _ (lv_sub hl [2, 3, 4, 5, 6, 7, 8, 9, 10, 1, 0] rfl) G
set_option maxHeartbeats 4000000 in
set_option maxRecDepth 100000 in
theorem w_L_errors_J143 {z : Int32 × Dt} (X : aw_X p c cL_errors 11 s RL m meth (some .int)) {kb89 : Int32 → Int32 → Dt → Option (Int32 × Dt)} {x0 : Nat} {x1 : Nat} {x2 : Nat} {x3 : Nat} {x4 : Nat} {x5 : Int32} {x6 : Int32} {x7 : Int32} {x8 : Int32} {x10 : Int32} {d : Dt} (hf : f_L_errors_J143 σ kb89 x0 x1 x2 x3 x4 x5 x6 x7 x8 x10 d = some z) (hkb89 : ∀ (y9 : Int32) (y10 : Int32) (d : Dt), kb89 y9 y10 d = some z → ∀ (H : Heap) (locs : List Loc) (ls : Array Slot), lv_has ls 11 [(0, .ref (ad x0)), (1, .ref (ad x1)), (2, .ref (ad x2)), (3, .ref (ad x3)), (4, .ref (ad x4)), (5, .int x5), (6, .int x6), (7, .int x7), (8, .int x8), (9, .int y9), (10, .int y10)] → aw_G D cA base ad σ d s H locs → W p l e rm_L_errors s m args below meth c H locs 0 0 (aw_Ei D cA base ad σ below args s z) (F0 m 89 ls [])) {H : Heap} {locs : List Loc} {ls : Array Slot} (hl : lv_has ls 11 [(0, .ref (ad x0)), (1, .ref (ad x1)), (2, .ref (ad x2)), (3, .ref (ad x3)), (4, .ref (ad x4)), (5, .int x5), (6, .int x6), (7, .int x7), (8, .int x8), (10, .int x10)]) (G : aw_G D cA base ad σ d s H locs) : W p l e rm_L_errors s m args below meth c H locs 0 0 (aw_Ei D cA base ad σ below args s z) (F0 m 143 ls []) := by
  have hx := X.1; have hb := X.2.1; have hml := X.2.2.1; have hown := X.2.2.2.1
  unfold f_L_errors_J143 at hf
  refine lv_iconst (v := (0 : Int32)) hx hb dL_errors_143 (by decide) ?_
  exact w_L_errors_J144 X hf hkb89 (lv_sub hl [0, 1, 2, 3, 4, 5, 6, 7, 8, 9] rfl) G
set_option maxHeartbeats 4000000 in
set_option maxRecDepth 100000 in
theorem w_L_errors_B89 {z : Int32 × Dt} (X : aw_X p c cL_errors 11 s RL m meth (some .int)) {kb89 : Int32 → Int32 → Dt → Option (Int32 × Dt)} {k89 : Int32 → Dt → Option (Int32 × Dt)} {x0 : Nat} {x1 : Nat} {x2 : Nat} {x3 : Nat} {x4 : Nat} {x5 : Int32} {x6 : Int32} {x7 : Int32} {x8 : Int32} {x9 : Int32} {x10 : Int32} {d : Dt} (hf : f_L_errors_B89 σ kb89 k89 x0 x1 x2 x3 x4 x5 x6 x7 x8 x9 x10 d = some z) (hkb89 : ∀ (y9 : Int32) (y10 : Int32) (d : Dt), kb89 y9 y10 d = some z → ∀ (H : Heap) (locs : List Loc) (ls : Array Slot), lv_has ls 11 [(0, .ref (ad x0)), (1, .ref (ad x1)), (2, .ref (ad x2)), (3, .ref (ad x3)), (4, .ref (ad x4)), (5, .int x5), (6, .int x6), (7, .int x7), (8, .int x8), (9, .int y9), (10, .int y10)] → aw_G D cA base ad σ d s H locs → W p l e rm_L_errors s m args below meth c H locs 0 0 (aw_Ei D cA base ad σ below args s z) (F0 m 89 ls [])) (hk89 : ∀ (y9 : Int32) (d : Dt), k89 y9 d = some z → ∀ (H : Heap) (locs : List Loc) (ls : Array Slot), lv_has ls 11 [(0, .ref (ad x0)), (1, .ref (ad x1)), (2, .ref (ad x2)), (3, .ref (ad x3)), (4, .ref (ad x4)), (5, .int x5), (6, .int x6), (7, .int x7), (8, .int x8), (9, .int y9)] → aw_G D cA base ad σ d s H locs → W p l e rm_L_errors s m args below meth c H locs 0 0 (aw_Ei D cA base ad σ below args s z) (F0 m 152 ls [])) {H : Heap} {locs : List Loc} {ls : Array Slot} (hl : lv_has ls 11 [(0, .ref (ad x0)), (1, .ref (ad x1)), (2, .ref (ad x2)), (3, .ref (ad x3)), (4, .ref (ad x4)), (5, .int x5), (6, .int x6), (7, .int x7), (8, .int x8), (9, .int x9), (10, .int x10)]) (G : aw_G D cA base ad σ d s H locs) : W p l e rm_L_errors s m args below meth c H locs 0 0 (aw_Ei D cA base ad σ below args s z) (F0 m 89 ls []) := by
  have hx := X.1; have hb := X.2.1; have hml := X.2.2.1; have hown := X.2.2.2.1
  unfold f_L_errors_B89 at hf
  refine lv_iload hx hb dL_errors_89 (lv_at hl 10 rfl) ?_
  refine lv_bipush (v := (50 : Int32)) hx hb dL_errors_91 (by decide) ?_
  refine lv_icmp_ge (tgt := 152) hx hb dL_errors_93 (by decide) (fun hc => ?_) (fun hc => ?_)
  · have hf := aw_ite_t hc hf
    exact hk89 _ _ hf _ _ _ (lv_sub hl [0, 1, 2, 3, 4, 5, 6, 7, 8, 9] rfl) G
  · have hf := aw_ite_f hc hf
    refine lv_iload hx hb dL_errors_96 (lv_at hl 8 rfl) ?_
    refine lv_if_le (tgt := 152) hx hb dL_errors_98 (by decide) (fun hc => ?_) (fun hc => ?_)
    · have hf := aw_ite_t hc hf
      exact hk89 _ _ hf _ _ _ (lv_sub hl [0, 1, 2, 3, 4, 5, 6, 7, 8, 9] rfl) G
    · have hf := aw_ite_f hc hf
      refine lv_iload hx hb dL_errors_101 (lv_at hl 9 rfl) ?_
      refine lv_if_ne (tgt := 152) hx hb dL_errors_103 (by decide) (fun hc => ?_) (fun hc => ?_)
      · have hf := aw_ite_f hc hf
        exact hk89 _ _ hf _ _ _ (lv_sub hl [0, 1, 2, 3, 4, 5, 6, 7, 8, 9] rfl) G
      · have hf := aw_ite_t hc hf
        refine lv_iload hx hb dL_errors_106 (lv_at hl 10 rfl) ?_
        refine lv_iload hx hb dL_errors_108 (lv_at hl 7 rfl) ?_
        refine lv_icmp_eq (tgt := 143) hx hb dL_errors_110 (by decide) (fun hc => ?_) (fun hc => ?_)
        · have hf := aw_ite_t hc hf
          exact w_L_errors_J143 X hf hkb89 (lv_sub hl [0, 1, 2, 3, 4, 5, 6, 7, 8, 10] rfl) G
        · have hf := aw_ite_f hc hf
          refine lv_aload_n hx hb dL_errors_113 rfl (lv_at hl 0 rfl) ?_
          refine lv_iload hx hb dL_errors_114 (lv_at hl 10 rfl) ?_
          obtain ⟨z_11, hz_12, hf⟩ := aw_bind_some hf
          refine aw_SI (As := [.ref (ad x0), .int x10]) (rest := []) X G hl.1 cr_L_108 (c_L_has l hz_12) ⟨rfl, rfl⟩ rfl rfl rfl ⟨Nat.le_of_ble_eq_true rfl, Nat.le_of_ble_eq_true rfl⟩ (Nat.le_of_ble_eq_true rfl) dL_errors_116 ⟨Nat.zero_le _, Nat.zero_le _⟩ (fun H locs G => ?_)
          refine lv_if_eq (tgt := 143) hx hb dL_errors_119 (by decide) (fun hc => ?_) (fun hc => ?_)
          · have hf := aw_ite_t hc hf
            exact w_L_errors_J143 X hf hkb89 (lv_sub hl [0, 1, 2, 3, 4, 5, 6, 7, 8, 10] rfl) G
          · have hf := aw_ite_f hc hf
            refine lv_aload_n hx hb dL_errors_122 rfl (lv_at hl 3 rfl) ?_
            refine lv_aload_n hx hb dL_errors_123 rfl (lv_at hl 1 rfl) ?_
            refine lv_iload hx hb dL_errors_124 (lv_at hl 7 rfl) ?_
            obtain ⟨hc_13, hf⟩ := aw_chk_some hf
            refine aw_ial hx hb G hc_13 dL_errors_126 ?_
            refine lv_aload_n hx hb dL_errors_127 rfl (lv_at hl 1 rfl) ?_
            refine lv_iload hx hb dL_errors_128 (lv_at hl 10 rfl) ?_
            obtain ⟨hc_14, hf⟩ := aw_chk_some hf
            refine aw_ial hx hb G hc_14 dL_errors_130 ?_
            obtain ⟨z_15, hz_16, hf⟩ := aw_bind_some hf
            refine aw_SI (As := [.ref (ad x3), .int (z_11.2.1 x1 x7.toNatClampNeg), .int (z_11.2.1 x1 x10.toNatClampNeg)]) (rest := []) X G hl.1 cr_L_111 (c_L_apart l hz_16) ⟨rfl, rfl⟩ rfl rfl rfl ⟨Nat.le_of_ble_eq_true rfl, Nat.le_of_ble_eq_true rfl⟩ (Nat.le_of_ble_eq_true rfl) dL_errors_131 ⟨Nat.zero_le _, Nat.zero_le _⟩ (fun H locs G => ?_)
            refine lv_iload hx hb dL_errors_134 (lv_at hl 5 rfl) ?_
            refine lv_icmp_gt (tgt := 143) hx hb dL_errors_136 (by decide) (fun hc => ?_) (fun hc => ?_)
            · have hf := aw_ite_t hc hf
              exact w_L_errors_J143 X hf hkb89 (lv_sub hl [0, 1, 2, 3, 4, 5, 6, 7, 8, 10] rfl) G
            · have hf := aw_ite_f hc hf
              refine lv_iconst (v := (1 : Int32)) hx hb dL_errors_139 (by decide) ?_
              refine lv_goto (tgt := 144) hx hb dL_errors_140 (by decide) ?_
              exact w_L_errors_J144 X hf hkb89 (lv_sub hl [0, 1, 2, 3, 4, 5, 6, 7, 8, 10] rfl) G
theorem w_L_errors_L89 {z : Int32 × Dt} (X : aw_X p c cL_errors 11 s RL m meth (some .int)) {k89 : Int32 → Dt → Option (Int32 × Dt)} {x0 : Nat} {x1 : Nat} {x2 : Nat} {x3 : Nat} {x4 : Nat} {x5 : Int32} {x6 : Int32} {x7 : Int32} {x8 : Int32} (n : Nat) {x9 : Int32} {x10 : Int32} {d : Dt} (hf : f_L_errors_L89 σ n k89 x0 x1 x2 x3 x4 x5 x6 x7 x8 x9 x10 d = some z) (hk89 : ∀ (y9 : Int32) (d : Dt), k89 y9 d = some z → ∀ (H : Heap) (locs : List Loc) (ls : Array Slot), lv_has ls 11 [(0, .ref (ad x0)), (1, .ref (ad x1)), (2, .ref (ad x2)), (3, .ref (ad x3)), (4, .ref (ad x4)), (5, .int x5), (6, .int x6), (7, .int x7), (8, .int x8), (9, .int y9)] → aw_G D cA base ad σ d s H locs → W p l e rm_L_errors s m args below meth c H locs 0 0 (aw_Ei D cA base ad σ below args s z) (F0 m 152 ls [])) {H : Heap} {locs : List Loc} {ls : Array Slot} (hl : lv_has ls 11 [(0, .ref (ad x0)), (1, .ref (ad x1)), (2, .ref (ad x2)), (3, .ref (ad x3)), (4, .ref (ad x4)), (5, .int x5), (6, .int x6), (7, .int x7), (8, .int x8), (9, .int x9), (10, .int x10)]) (G : aw_G D cA base ad σ d s H locs) : W p l e rm_L_errors s m args below meth c H locs 0 0 (aw_Ei D cA base ad σ below args s z) (F0 m 89 ls []) := by
  induction n generalizing x9 x10 d H locs ls with
  | zero => exact absurd (show (none : Option (Int32 × Dt)) = some z from hf) (by simp)
  | succ n ih => exact w_L_errors_B89 X (kb89 := f_L_errors_L89 σ n k89 x0 x1 x2 x3 x4 x5 x6 x7 x8) hf  (fun x9 x10 d hf H locs ls hl G => ih hf hl G) hk89 hl G
set_option maxHeartbeats 4000000 in
set_option maxRecDepth 100000 in
theorem w_L_errors_J165 {z : Int32 × Dt} (X : aw_X p c cL_errors 11 s RL m meth (some .int)) {kb6 : Int32 → Int32 → Dt → Option (Int32 × Dt)} {t1 : Int32} {t0 : Int32} {x0 : Nat} {x1 : Nat} {x2 : Nat} {x3 : Nat} {x4 : Nat} {x5 : Int32} {x7 : Int32} {d : Dt} (hf : f_L_errors_J165 σ kb6 t1 t0 x0 x1 x2 x3 x4 x5 x7 d = some z) (hkb6 : ∀ (y6 : Int32) (y7 : Int32) (d : Dt), kb6 y6 y7 d = some z → ∀ (H : Heap) (locs : List Loc) (ls : Array Slot), lv_has ls 11 [(0, .ref (ad x0)), (1, .ref (ad x1)), (2, .ref (ad x2)), (3, .ref (ad x3)), (4, .ref (ad x4)), (5, .int x5), (6, .int y6), (7, .int y7)] → aw_G D cA base ad σ d s H locs → W p l e rm_L_errors s m args below meth c H locs 0 0 (aw_Ei D cA base ad σ below args s z) (F0 m 6 ls [])) {H : Heap} {locs : List Loc} {ls : Array Slot} (hl : lv_has ls 11 [(0, .ref (ad x0)), (1, .ref (ad x1)), (2, .ref (ad x2)), (3, .ref (ad x3)), (4, .ref (ad x4)), (5, .int x5), (7, .int x7)]) (G : aw_G D cA base ad σ d s H locs) : W p l e rm_L_errors s m args below meth c H locs 0 0 (aw_Ei D cA base ad σ below args s z) (F0 m 165 ls [.int t1, .int t0]) := by
  have hx := X.1; have hb := X.2.1; have hml := X.2.2.1; have hown := X.2.2.2.1
  unfold f_L_errors_J165 at hf
  refine lv_iadd hx hb dL_errors_165 ?_
  refine lv_istore (lv' := [(6, .int (t0 + t1)), (0, .ref (ad x0)), (1, .ref (ad x1)), (2, .ref (ad x2)), (3, .ref (ad x3)), (4, .ref (ad x4)), (5, .int x5), (7, .int x7)]) hx hb dL_errors_166 hl (by decide) rfl (fun ls hl => ?_)
  refine lv_iinc (v := x7 + 1) (lv' := [(7, .int (x7 + 1)), (6, .int (t0 + t1)), (0, .ref (ad x0)), (1, .ref (ad x1)), (2, .ref (ad x2)), (3, .ref (ad x3)), (4, .ref (ad x4)), (5, .int x5)]) hx hb dL_errors_168 hl (k := 7) rfl rfl (by decide) rfl (fun ls hl => ?_)
  refine lv_goto (tgt := 6) hx hb dL_errors_171 (by decide) ?_
  exact hkb6 _ _ _ hf _ _ _ (lv_sub hl [2, 3, 4, 5, 6, 7, 1, 0] rfl) G
set_option maxHeartbeats 4000000 in
set_option maxRecDepth 100000 in
theorem w_L_errors_J152 {z : Int32 × Dt} (X : aw_X p c cL_errors 11 s RL m meth (some .int)) {kb6 : Int32 → Int32 → Dt → Option (Int32 × Dt)} {x0 : Nat} {x1 : Nat} {x2 : Nat} {x3 : Nat} {x4 : Nat} {x5 : Int32} {x6 : Int32} {x7 : Int32} {x8 : Int32} {x9 : Int32} {d : Dt} (hf : f_L_errors_J152 σ kb6 x0 x1 x2 x3 x4 x5 x6 x7 x8 x9 d = some z) (hkb6 : ∀ (y6 : Int32) (y7 : Int32) (d : Dt), kb6 y6 y7 d = some z → ∀ (H : Heap) (locs : List Loc) (ls : Array Slot), lv_has ls 11 [(0, .ref (ad x0)), (1, .ref (ad x1)), (2, .ref (ad x2)), (3, .ref (ad x3)), (4, .ref (ad x4)), (5, .int x5), (6, .int y6), (7, .int y7)] → aw_G D cA base ad σ d s H locs → W p l e rm_L_errors s m args below meth c H locs 0 0 (aw_Ei D cA base ad σ below args s z) (F0 m 6 ls [])) {H : Heap} {locs : List Loc} {ls : Array Slot} (hl : lv_has ls 11 [(0, .ref (ad x0)), (1, .ref (ad x1)), (2, .ref (ad x2)), (3, .ref (ad x3)), (4, .ref (ad x4)), (5, .int x5), (6, .int x6), (7, .int x7), (8, .int x8), (9, .int x9)]) (G : aw_G D cA base ad σ d s H locs) : W p l e rm_L_errors s m args below meth c H locs 0 0 (aw_Ei D cA base ad σ below args s z) (F0 m 152 ls []) := by
  have hx := X.1; have hb := X.2.1; have hml := X.2.2.1; have hown := X.2.2.2.1
  unfold f_L_errors_J152 at hf
  refine lv_iload hx hb dL_errors_152 (lv_at hl 6 rfl) ?_
  refine lv_iload hx hb dL_errors_154 (lv_at hl 9 rfl) ?_
  refine lv_if_eq (tgt := 164) hx hb dL_errors_156 (by decide) (fun hc => ?_) (fun hc => ?_)
  · have hf := aw_ite_t hc hf
    refine lv_iconst (v := (0 : Int32)) hx hb dL_errors_164 (by decide) ?_
    exact w_L_errors_J165 X hf hkb6 (lv_sub hl [0, 1, 2, 3, 4, 5, 7] rfl) G
  · have hf := aw_ite_f hc hf
    refine lv_iload hx hb dL_errors_159 (lv_at hl 8 rfl) ?_
    refine lv_goto (tgt := 165) hx hb dL_errors_161 (by decide) ?_
    exact w_L_errors_J165 X hf hkb6 (lv_sub hl [0, 1, 2, 3, 4, 5, 7] rfl) G
set_option maxHeartbeats 4000000 in
set_option maxRecDepth 100000 in
theorem w_L_errors_B6 {z : Int32 × Dt} (X : aw_X p c cL_errors 11 s RL m meth (some .int)) {kb6 : Int32 → Int32 → Dt → Option (Int32 × Dt)} {k6 : Int32 → Dt → Option (Int32 × Dt)} {x0 : Nat} {x1 : Nat} {x2 : Nat} {x3 : Nat} {x4 : Nat} {x5 : Int32} {x6 : Int32} {x7 : Int32} {d : Dt} (hf : f_L_errors_B6 σ kb6 k6 x0 x1 x2 x3 x4 x5 x6 x7 d = some z) (hkb6 : ∀ (y6 : Int32) (y7 : Int32) (d : Dt), kb6 y6 y7 d = some z → ∀ (H : Heap) (locs : List Loc) (ls : Array Slot), lv_has ls 11 [(0, .ref (ad x0)), (1, .ref (ad x1)), (2, .ref (ad x2)), (3, .ref (ad x3)), (4, .ref (ad x4)), (5, .int x5), (6, .int y6), (7, .int y7)] → aw_G D cA base ad σ d s H locs → W p l e rm_L_errors s m args below meth c H locs 0 0 (aw_Ei D cA base ad σ below args s z) (F0 m 6 ls [])) (hk6 : ∀ (y6 : Int32) (d : Dt), k6 y6 d = some z → ∀ (H : Heap) (locs : List Loc) (ls : Array Slot), lv_has ls 11 [(6, .int y6)] → aw_G D cA base ad σ d s H locs → W p l e rm_L_errors s m args below meth c H locs 0 0 (aw_Ei D cA base ad σ below args s z) (F0 m 174 ls [])) {H : Heap} {locs : List Loc} {ls : Array Slot} (hl : lv_has ls 11 [(0, .ref (ad x0)), (1, .ref (ad x1)), (2, .ref (ad x2)), (3, .ref (ad x3)), (4, .ref (ad x4)), (5, .int x5), (6, .int x6), (7, .int x7)]) (G : aw_G D cA base ad σ d s H locs) : W p l e rm_L_errors s m args below meth c H locs 0 0 (aw_Ei D cA base ad σ below args s z) (F0 m 6 ls []) := by
  have hx := X.1; have hb := X.2.1; have hml := X.2.2.1; have hown := X.2.2.2.1
  unfold f_L_errors_B6 at hf
  refine lv_iload hx hb dL_errors_6 (lv_at hl 7 rfl) ?_
  refine lv_bipush (v := (50 : Int32)) hx hb dL_errors_8 (by decide) ?_
  refine lv_icmp_ge (tgt := 174) hx hb dL_errors_10 (by decide) (fun hc => ?_) (fun hc => ?_)
  · have hf := aw_ite_t hc hf
    exact hk6 _ _ hf _ _ _ (lv_sub hl [6] rfl) G
  · have hf := aw_ite_f hc hf
    refine lv_iconst (v := (0 : Int32)) hx hb dL_errors_13 (by decide) ?_
    refine lv_istore (lv' := [(8, .int ((0 : Int32))), (0, .ref (ad x0)), (1, .ref (ad x1)), (2, .ref (ad x2)), (3, .ref (ad x3)), (4, .ref (ad x4)), (5, .int x5), (6, .int x6), (7, .int x7)]) hx hb dL_errors_14 hl (by decide) rfl (fun ls hl => ?_)
    refine lv_iconst (v := (0 : Int32)) hx hb dL_errors_16 (by decide) ?_
    refine lv_istore (lv' := [(9, .int ((0 : Int32))), (8, .int ((0 : Int32))), (0, .ref (ad x0)), (1, .ref (ad x1)), (2, .ref (ad x2)), (3, .ref (ad x3)), (4, .ref (ad x4)), (5, .int x5), (6, .int x6), (7, .int x7)]) hx hb dL_errors_17 hl (by decide) rfl (fun ls hl => ?_)
    refine w_L_errors_L19 X aw_FU hf  (fun x8_9 d_10 hf H locs ls hl G => ?_) (lv_sub hl [2, 3, 4, 5, 6, 7, 8, 9, 1, 0] rfl) G
    refine lv_iconst (v := (0 : Int32)) hx hb dL_errors_83 (by decide) ?_
    refine lv_istore (lv' := [(9, .int ((0 : Int32))), (0, .ref (ad x0)), (1, .ref (ad x1)), (2, .ref (ad x2)), (3, .ref (ad x3)), (4, .ref (ad x4)), (5, .int x5), (6, .int x6), (7, .int x7), (8, .int x8_9)]) hx hb dL_errors_84 hl (by decide) rfl (fun ls hl => ?_)
    refine lv_iconst (v := (0 : Int32)) hx hb dL_errors_86 (by decide) ?_
    refine lv_istore (lv' := [(10, .int ((0 : Int32))), (9, .int ((0 : Int32))), (0, .ref (ad x0)), (1, .ref (ad x1)), (2, .ref (ad x2)), (3, .ref (ad x3)), (4, .ref (ad x4)), (5, .int x5), (6, .int x6), (7, .int x7), (8, .int x8_9)]) hx hb dL_errors_87 hl (by decide) rfl (fun ls hl => ?_)
    refine w_L_errors_L89 X aw_FU hf  (fun x9_17 d_18 hf H locs ls hl G => ?_) (lv_sub hl [2, 3, 4, 5, 6, 7, 8, 9, 10, 1, 0] rfl) G
    exact w_L_errors_J152 X hf hkb6 (lv_sub hl [0, 1, 2, 3, 4, 5, 6, 7, 8, 9] rfl) G
theorem w_L_errors_L6 {z : Int32 × Dt} (X : aw_X p c cL_errors 11 s RL m meth (some .int)) {k6 : Int32 → Dt → Option (Int32 × Dt)} {x0 : Nat} {x1 : Nat} {x2 : Nat} {x3 : Nat} {x4 : Nat} {x5 : Int32} (n : Nat) {x6 : Int32} {x7 : Int32} {d : Dt} (hf : f_L_errors_L6 σ n k6 x0 x1 x2 x3 x4 x5 x6 x7 d = some z) (hk6 : ∀ (y6 : Int32) (d : Dt), k6 y6 d = some z → ∀ (H : Heap) (locs : List Loc) (ls : Array Slot), lv_has ls 11 [(6, .int y6)] → aw_G D cA base ad σ d s H locs → W p l e rm_L_errors s m args below meth c H locs 0 0 (aw_Ei D cA base ad σ below args s z) (F0 m 174 ls [])) {H : Heap} {locs : List Loc} {ls : Array Slot} (hl : lv_has ls 11 [(0, .ref (ad x0)), (1, .ref (ad x1)), (2, .ref (ad x2)), (3, .ref (ad x3)), (4, .ref (ad x4)), (5, .int x5), (6, .int x6), (7, .int x7)]) (G : aw_G D cA base ad σ d s H locs) : W p l e rm_L_errors s m args below meth c H locs 0 0 (aw_Ei D cA base ad σ below args s z) (F0 m 6 ls []) := by
  induction n generalizing x6 x7 d H locs ls with
  | zero => exact absurd (show (none : Option (Int32 × Dt)) = some z from hf) (by simp)
  | succ n ih => exact w_L_errors_B6 X (kb6 := f_L_errors_L6 σ n k6 x0 x1 x2 x3 x4 x5) hf  (fun x6 x7 d hf H locs ls hl G => ih hf hl G) hk6 hl G
end W_L_errors
set_option maxHeartbeats 4000000 in
set_option maxRecDepth 100000 in
theorem c_L_errors (l : Launch) {σ : Sg} {x0 : Nat} {x1 : Nat} {x2 : Nat} {x3 : Nat} {x4 : Nat} {x5 : Int32} {d : Dt} {z : Int32 × Dt} (hf : f_L_errors σ x0 x1 x2 x3 x4 x5 d = some z) : aw_Mi l yL_errors (Cond.code yL_errors cL_errors 11 (some .int)) rm_L_errors (fun ad => [.ref (ad x0), .ref (ad x1), .ref (ad x2), .ref (ad x3), .ref (ad x4), .int x5]) σ d z := by
  intro D cA base ad
  refine aw_ofW (own := RL) (cc := cL_errors) (nL := 11) (ret := some .int) (by decide) rfl rfl ?_
  intro p e s m below meth c X hnm G
  have hx := X.1; have hb := X.2.1; have hml := X.2.2.1; have hown := X.2.2.2.1
  refine aw_ls (lv := [(0, .ref (ad x0)), (1, .ref (ad x1)), (2, .ref (ad x2)), (3, .ref (ad x3)), (4, .ref (ad x4)), (5, .int x5)]) (Nat.le_of_ble_eq_true rfl) rfl (fun ls hl => ?_)
  unfold f_L_errors at hf
  refine lv_iconst (v := (0 : Int32)) hx hb dL_errors_0 (by decide) ?_
  refine lv_istore (lv' := [(6, .int ((0 : Int32))), (0, .ref (ad x0)), (1, .ref (ad x1)), (2, .ref (ad x2)), (3, .ref (ad x3)), (4, .ref (ad x4)), (5, .int x5)]) hx hb dL_errors_1 hl (by decide) rfl (fun ls hl => ?_)
  refine lv_iconst (v := (0 : Int32)) hx hb dL_errors_3 (by decide) ?_
  refine lv_istore (lv' := [(7, .int ((0 : Int32))), (6, .int ((0 : Int32))), (0, .ref (ad x0)), (1, .ref (ad x1)), (2, .ref (ad x2)), (3, .ref (ad x3)), (4, .ref (ad x4)), (5, .int x5)]) hx hb dL_errors_4 hl (by decide) rfl (fun ls hl => ?_)
  refine w_L_errors_L6 X aw_FU hf  (fun x6_19 d_20 hf H locs ls hl G => ?_) (lv_sub hl [2, 3, 4, 5, 6, 7, 1, 0] rfl) G
  refine lv_iload hx hb dL_errors_174 (lv_at hl 0 rfl) ?_
  exact aw_reti X G hf dL_errors_176
def rm_L_travel : Room := { frames := 2, cells := 0, slots := 0, locals := 44 }
def f_L_travel_J75 (σ : Sg) (kb17 : Int32 → Int32 → Dt → Option (Int32 × Dt)) (t2 : Int32) (t1 : Int32) (t0 : Int32) (x0 : Nat) (x1 : Nat) (x2 : Nat) (x3 : Nat) (x5 : Int32) (x6 : Int32) (d : Dt) : Option (Int32 × Dt) :=
  kb17 (t0 + (t1 * t2)) (x6 + 1) d
def f_L_travel_B17 (σ : Sg) (kb17 : Int32 → Int32 → Dt → Option (Int32 × Dt)) (k17 : Int32 → Dt → Option (Int32 × Dt)) (x0 : Nat) (x1 : Nat) (x2 : Nat) (x3 : Nat) (x5 : Int32) (x4 : Int32) (x6 : Int32) (d : Dt) : Option (Int32 × Dt) :=
  (f_L_many σ x1 x5 d).bind (fun z_2 => if z_2.1 ≤ x6 then k17 x4 z_2.2 else (f_L_sign σ x1 x5 x6 z_2.2).bind (fun z_4 => aw_chk (aw_I σ 20 x0 z_4.1) ((f_L_sign σ x1 x5 (x6 - ((1 : Int32))) z_4.2).bind (fun z_7 => aw_chk (aw_I σ 20 x0 z_7.1) (aw_chk (aw_I σ 20 x2 (((8 : Int32)) + x5)) (if ((z_4.2.1 x0 z_4.1.toNatClampNeg) - (z_7.2.1 x0 z_7.1.toNatClampNeg)) ≤ 0 then f_L_travel_J75 σ kb17 (-((z_4.2.1 x0 z_4.1.toNatClampNeg) - (z_7.2.1 x0 z_7.1.toNatClampNeg))) (z_7.2.1 x2 (((8 : Int32)) + x5).toNatClampNeg) x4 x0 x1 x2 x3 x5 x6 z_7.2 else f_L_travel_J75 σ kb17 ((z_4.2.1 x0 z_4.1.toNatClampNeg) - (z_7.2.1 x0 z_7.1.toNatClampNeg)) (z_7.2.1 x2 (((8 : Int32)) + x5).toNatClampNeg) x4 x0 x1 x2 x3 x5 x6 z_7.2))))))
def f_L_travel_L17 (σ : Sg) (n : Nat) (k17 : Int32 → Dt → Option (Int32 × Dt)) (x0 : Nat) (x1 : Nat) (x2 : Nat) (x3 : Nat) (x5 : Int32) : Int32 → Int32 → Dt → Option (Int32 × Dt) := match n with
  | 0 => fun _ _ _ => none
  | n + 1 => fun x4 x6 d => f_L_travel_B17 σ (f_L_travel_L17 σ n k17 x0 x1 x2 x3 x5) k17 x0 x1 x2 x3 x5 x4 x6 d
def f_L_travel_B6 (σ : Sg) (kb6 : Int32 → Int32 → Dt → Option (Int32 × Dt)) (k6 : Int32 → Dt → Option (Int32 × Dt)) (x0 : Nat) (x1 : Nat) (x2 : Nat) (x3 : Nat) (x4 : Int32) (x5 : Int32) (d : Dt) : Option (Int32 × Dt) :=
  aw_chk (aw_I σ 20 x3 ((0 : Int32))) (if (d.1 x3 ((0 : Int32)).toNatClampNeg) ≤ x5 then k6 x4 d else f_L_travel_L17 σ aw_FU (fun x4_11 d_12 => kb6 x4_11 (x5 + 1) d_12) x0 x1 x2 x3 x5 x4 ((1 : Int32)) d)
def f_L_travel_L6 (σ : Sg) (n : Nat) (k6 : Int32 → Dt → Option (Int32 × Dt)) (x0 : Nat) (x1 : Nat) (x2 : Nat) (x3 : Nat) : Int32 → Int32 → Dt → Option (Int32 × Dt) := match n with
  | 0 => fun _ _ _ => none
  | n + 1 => fun x4 x5 d => f_L_travel_B6 σ (f_L_travel_L6 σ n k6 x0 x1 x2 x3) k6 x0 x1 x2 x3 x4 x5 d
def f_L_travel (σ : Sg) (x0 : Nat) (x1 : Nat) (x2 : Nat) (x3 : Nat) (d : Dt) : Option (Int32 × Dt) :=
  f_L_travel_L6 σ aw_FU (fun x4_13 d_14 => some (x4_13, d_14)) x0 x1 x2 x3 ((0 : Int32)) ((0 : Int32)) d
section W_L_travel
variable {p : Program} {l : Launch} {e : Env} {s : State} {m : MethodId} {args : Array Value} {below : List Frame} {meth : Method} {c : Code}
variable {D : va_G} {cA : Nat → ClassId} {base : Nat} {ad : Nat → Nat} {σ : Sg}
set_option maxHeartbeats 4000000 in
set_option maxRecDepth 100000 in
theorem w_L_travel_J75 {z : Int32 × Dt} (X : aw_X p c cL_travel 8 s RL m meth (some .int)) {kb17 : Int32 → Int32 → Dt → Option (Int32 × Dt)} {t2 : Int32} {t1 : Int32} {t0 : Int32} {x0 : Nat} {x1 : Nat} {x2 : Nat} {x3 : Nat} {x5 : Int32} {x6 : Int32} {d : Dt} (hf : f_L_travel_J75 σ kb17 t2 t1 t0 x0 x1 x2 x3 x5 x6 d = some z) (hkb17 : ∀ (y4 : Int32) (y6 : Int32) (d : Dt), kb17 y4 y6 d = some z → ∀ (H : Heap) (locs : List Loc) (ls : Array Slot), lv_has ls 8 [(0, .ref (ad x0)), (1, .ref (ad x1)), (2, .ref (ad x2)), (3, .ref (ad x3)), (4, .int y4), (5, .int x5), (6, .int y6)] → aw_G D cA base ad σ d s H locs → W p l e rm_L_travel s m args below meth c H locs 0 0 (aw_Ei D cA base ad σ below args s z) (F0 m 17 ls [])) {H : Heap} {locs : List Loc} {ls : Array Slot} (hl : lv_has ls 8 [(0, .ref (ad x0)), (1, .ref (ad x1)), (2, .ref (ad x2)), (3, .ref (ad x3)), (5, .int x5), (6, .int x6)]) (G : aw_G D cA base ad σ d s H locs) : W p l e rm_L_travel s m args below meth c H locs 0 0 (aw_Ei D cA base ad σ below args s z) (F0 m 75 ls [.int t2, .int t1, .int t0]) := by
  have hx := X.1; have hb := X.2.1; have hml := X.2.2.1; have hown := X.2.2.2.1
  unfold f_L_travel_J75 at hf
  refine lv_imul hx hb dL_travel_75 ?_
  refine lv_iadd hx hb dL_travel_76 ?_
  refine lv_istore (lv' := [(4, .int (t0 + (t1 * t2))), (0, .ref (ad x0)), (1, .ref (ad x1)), (2, .ref (ad x2)), (3, .ref (ad x3)), (5, .int x5), (6, .int x6)]) hx hb dL_travel_77 hl (by decide) rfl (fun ls hl => ?_)
  refine lv_iinc (v := x6 + 1) (lv' := [(6, .int (x6 + 1)), (4, .int (t0 + (t1 * t2))), (0, .ref (ad x0)), (1, .ref (ad x1)), (2, .ref (ad x2)), (3, .ref (ad x3)), (5, .int x5)]) hx hb dL_travel_79 hl (k := 6) rfl rfl (by decide) rfl (fun ls hl => ?_)
  refine lv_goto (tgt := 17) hx hb dL_travel_82 (by decide) ?_
  exact hkb17 _ _ _ hf _ _ _ (lv_sub hl [2, 3, 4, 5, 1, 6, 0] rfl) G
set_option maxHeartbeats 4000000 in
set_option maxRecDepth 100000 in
theorem w_L_travel_B17 {z : Int32 × Dt} (X : aw_X p c cL_travel 8 s RL m meth (some .int)) {kb17 : Int32 → Int32 → Dt → Option (Int32 × Dt)} {k17 : Int32 → Dt → Option (Int32 × Dt)} {x0 : Nat} {x1 : Nat} {x2 : Nat} {x3 : Nat} {x5 : Int32} {x4 : Int32} {x6 : Int32} {d : Dt} (hf : f_L_travel_B17 σ kb17 k17 x0 x1 x2 x3 x5 x4 x6 d = some z) (hkb17 : ∀ (y4 : Int32) (y6 : Int32) (d : Dt), kb17 y4 y6 d = some z → ∀ (H : Heap) (locs : List Loc) (ls : Array Slot), lv_has ls 8 [(0, .ref (ad x0)), (1, .ref (ad x1)), (2, .ref (ad x2)), (3, .ref (ad x3)), (4, .int y4), (5, .int x5), (6, .int y6)] → aw_G D cA base ad σ d s H locs → W p l e rm_L_travel s m args below meth c H locs 0 0 (aw_Ei D cA base ad σ below args s z) (F0 m 17 ls [])) (hk17 : ∀ (y4 : Int32) (d : Dt), k17 y4 d = some z → ∀ (H : Heap) (locs : List Loc) (ls : Array Slot), lv_has ls 8 [(0, .ref (ad x0)), (1, .ref (ad x1)), (2, .ref (ad x2)), (3, .ref (ad x3)), (4, .int y4), (5, .int x5)] → aw_G D cA base ad σ d s H locs → W p l e rm_L_travel s m args below meth c H locs 0 0 (aw_Ei D cA base ad σ below args s z) (F0 m 85 ls [])) {H : Heap} {locs : List Loc} {ls : Array Slot} (hl : lv_has ls 8 [(0, .ref (ad x0)), (1, .ref (ad x1)), (2, .ref (ad x2)), (3, .ref (ad x3)), (4, .int x4), (5, .int x5), (6, .int x6)]) (G : aw_G D cA base ad σ d s H locs) : W p l e rm_L_travel s m args below meth c H locs 0 0 (aw_Ei D cA base ad σ below args s z) (F0 m 17 ls []) := by
  have hx := X.1; have hb := X.2.1; have hml := X.2.2.1; have hown := X.2.2.2.1
  unfold f_L_travel_B17 at hf
  refine lv_iload hx hb dL_travel_17 (lv_at hl 6 rfl) ?_
  refine lv_aload_n hx hb dL_travel_19 rfl (lv_at hl 1 rfl) ?_
  refine lv_iload hx hb dL_travel_20 (lv_at hl 5 rfl) ?_
  obtain ⟨z_2, hz_3, hf⟩ := aw_bind_some hf
  refine aw_SI (As := [.ref (ad x1), .int x5]) (rest := [.int x6]) X G hl.1 cr_L_93 (c_L_many l hz_3) ⟨rfl, rfl⟩ rfl rfl rfl ⟨Nat.le_of_ble_eq_true rfl, Nat.le_of_ble_eq_true rfl⟩ (Nat.le_of_ble_eq_true rfl) dL_travel_22 ⟨Nat.zero_le _, Nat.zero_le _⟩ (fun H locs G => ?_)
  refine lv_icmp_ge (tgt := 85) hx hb dL_travel_25 (by decide) (fun hc => ?_) (fun hc => ?_)
  · have hf := aw_ite_t hc hf
    exact hk17 _ _ hf _ _ _ (lv_sub hl [0, 1, 2, 3, 4, 5] rfl) G
  · have hf := aw_ite_f hc hf
    refine lv_aload_n hx hb dL_travel_28 rfl (lv_at hl 0 rfl) ?_
    refine lv_aload_n hx hb dL_travel_29 rfl (lv_at hl 1 rfl) ?_
    refine lv_iload hx hb dL_travel_30 (lv_at hl 5 rfl) ?_
    refine lv_iload hx hb dL_travel_32 (lv_at hl 6 rfl) ?_
    obtain ⟨z_4, hz_5, hf⟩ := aw_bind_some hf
    refine aw_SI (As := [.ref (ad x1), .int x5, .int x6]) (rest := [.ref (ad x0)]) X G hl.1 cr_L_85 (c_L_sign l hz_5) ⟨rfl, rfl⟩ rfl rfl rfl ⟨Nat.le_of_ble_eq_true rfl, Nat.le_of_ble_eq_true rfl⟩ (Nat.le_of_ble_eq_true rfl) dL_travel_34 ⟨Nat.zero_le _, Nat.zero_le _⟩ (fun H locs G => ?_)
    obtain ⟨hc_6, hf⟩ := aw_chk_some hf
    refine aw_ial hx hb G hc_6 dL_travel_37 ?_
    refine lv_aload_n hx hb dL_travel_38 rfl (lv_at hl 0 rfl) ?_
    refine lv_aload_n hx hb dL_travel_39 rfl (lv_at hl 1 rfl) ?_
    refine lv_iload hx hb dL_travel_40 (lv_at hl 5 rfl) ?_
    refine lv_iload hx hb dL_travel_42 (lv_at hl 6 rfl) ?_
    refine lv_iconst (v := (1 : Int32)) hx hb dL_travel_44 (by decide) ?_
    refine lv_isub hx hb dL_travel_45 ?_
    obtain ⟨z_7, hz_8, hf⟩ := aw_bind_some hf
    refine aw_SI (As := [.ref (ad x1), .int x5, .int (x6 - ((1 : Int32)))]) (rest := [.ref (ad x0), .int (z_4.2.1 x0 z_4.1.toNatClampNeg)]) X G hl.1 cr_L_85 (c_L_sign l hz_8) ⟨rfl, rfl⟩ rfl rfl rfl ⟨Nat.le_of_ble_eq_true rfl, Nat.le_of_ble_eq_true rfl⟩ (Nat.le_of_ble_eq_true rfl) dL_travel_46 ⟨Nat.zero_le _, Nat.zero_le _⟩ (fun H locs G => ?_)
    obtain ⟨hc_9, hf⟩ := aw_chk_some hf
    refine aw_ial hx hb G hc_9 dL_travel_49 ?_
    refine lv_isub hx hb dL_travel_50 ?_
    refine lv_istore (lv' := [(7, .int ((z_4.2.1 x0 z_4.1.toNatClampNeg) - (z_7.2.1 x0 z_7.1.toNatClampNeg))), (0, .ref (ad x0)), (1, .ref (ad x1)), (2, .ref (ad x2)), (3, .ref (ad x3)), (4, .int x4), (5, .int x5), (6, .int x6)]) hx hb dL_travel_51 hl (by decide) rfl (fun ls hl => ?_)
    refine lv_iload hx hb dL_travel_53 (lv_at hl 5 rfl) ?_
    refine lv_aload_n hx hb dL_travel_55 rfl (lv_at hl 3 rfl) ?_
    refine lv_bipush (v := (8 : Int32)) hx hb dL_travel_56 (by decide) ?_
    refine lv_iload hx hb dL_travel_58 (lv_at hl 6 rfl) ?_
    refine lv_iadd hx hb dL_travel_60 ?_
    obtain ⟨hc_10, hf⟩ := aw_chk_some hf
    refine aw_ial hx hb G hc_10 dL_travel_61 ?_
    refine lv_iload hx hb dL_travel_62 (lv_at hl 0 rfl) ?_
    refine lv_if_le (tgt := 72) hx hb dL_travel_64 (by decide) (fun hc => ?_) (fun hc => ?_)
    · have hf := aw_ite_t hc hf
      refine lv_iload hx hb dL_travel_72 (lv_at hl 0 rfl) ?_
      refine lv_ineg hx hb dL_travel_74 ?_
      exact w_L_travel_J75 X hf hkb17 (lv_sub hl [1, 2, 3, 4, 6, 7] rfl) G
    · have hf := aw_ite_f hc hf
      refine lv_iload hx hb dL_travel_67 (lv_at hl 0 rfl) ?_
      refine lv_goto (tgt := 75) hx hb dL_travel_69 (by decide) ?_
      exact w_L_travel_J75 X hf hkb17 (lv_sub hl [1, 2, 3, 4, 6, 7] rfl) G
theorem w_L_travel_L17 {z : Int32 × Dt} (X : aw_X p c cL_travel 8 s RL m meth (some .int)) {k17 : Int32 → Dt → Option (Int32 × Dt)} {x0 : Nat} {x1 : Nat} {x2 : Nat} {x3 : Nat} {x5 : Int32} (n : Nat) {x4 : Int32} {x6 : Int32} {d : Dt} (hf : f_L_travel_L17 σ n k17 x0 x1 x2 x3 x5 x4 x6 d = some z) (hk17 : ∀ (y4 : Int32) (d : Dt), k17 y4 d = some z → ∀ (H : Heap) (locs : List Loc) (ls : Array Slot), lv_has ls 8 [(0, .ref (ad x0)), (1, .ref (ad x1)), (2, .ref (ad x2)), (3, .ref (ad x3)), (4, .int y4), (5, .int x5)] → aw_G D cA base ad σ d s H locs → W p l e rm_L_travel s m args below meth c H locs 0 0 (aw_Ei D cA base ad σ below args s z) (F0 m 85 ls [])) {H : Heap} {locs : List Loc} {ls : Array Slot} (hl : lv_has ls 8 [(0, .ref (ad x0)), (1, .ref (ad x1)), (2, .ref (ad x2)), (3, .ref (ad x3)), (4, .int x4), (5, .int x5), (6, .int x6)]) (G : aw_G D cA base ad σ d s H locs) : W p l e rm_L_travel s m args below meth c H locs 0 0 (aw_Ei D cA base ad σ below args s z) (F0 m 17 ls []) := by
  induction n generalizing x4 x6 d H locs ls with
  | zero => exact absurd (show (none : Option (Int32 × Dt)) = some z from hf) (by simp)
  | succ n ih => exact w_L_travel_B17 X (kb17 := f_L_travel_L17 σ n k17 x0 x1 x2 x3 x5) hf  (fun x4 x6 d hf H locs ls hl G => ih hf hl G) hk17 hl G
set_option maxHeartbeats 4000000 in
set_option maxRecDepth 100000 in
theorem w_L_travel_B6 {z : Int32 × Dt} (X : aw_X p c cL_travel 8 s RL m meth (some .int)) {kb6 : Int32 → Int32 → Dt → Option (Int32 × Dt)} {k6 : Int32 → Dt → Option (Int32 × Dt)} {x0 : Nat} {x1 : Nat} {x2 : Nat} {x3 : Nat} {x4 : Int32} {x5 : Int32} {d : Dt} (hf : f_L_travel_B6 σ kb6 k6 x0 x1 x2 x3 x4 x5 d = some z) (hkb6 : ∀ (y4 : Int32) (y5 : Int32) (d : Dt), kb6 y4 y5 d = some z → ∀ (H : Heap) (locs : List Loc) (ls : Array Slot), lv_has ls 8 [(0, .ref (ad x0)), (1, .ref (ad x1)), (2, .ref (ad x2)), (3, .ref (ad x3)), (4, .int y4), (5, .int y5)] → aw_G D cA base ad σ d s H locs → W p l e rm_L_travel s m args below meth c H locs 0 0 (aw_Ei D cA base ad σ below args s z) (F0 m 6 ls [])) (hk6 : ∀ (y4 : Int32) (d : Dt), k6 y4 d = some z → ∀ (H : Heap) (locs : List Loc) (ls : Array Slot), lv_has ls 8 [(4, .int y4)] → aw_G D cA base ad σ d s H locs → W p l e rm_L_travel s m args below meth c H locs 0 0 (aw_Ei D cA base ad σ below args s z) (F0 m 91 ls [])) {H : Heap} {locs : List Loc} {ls : Array Slot} (hl : lv_has ls 8 [(0, .ref (ad x0)), (1, .ref (ad x1)), (2, .ref (ad x2)), (3, .ref (ad x3)), (4, .int x4), (5, .int x5)]) (G : aw_G D cA base ad σ d s H locs) : W p l e rm_L_travel s m args below meth c H locs 0 0 (aw_Ei D cA base ad σ below args s z) (F0 m 6 ls []) := by
  have hx := X.1; have hb := X.2.1; have hml := X.2.2.1; have hown := X.2.2.2.1
  unfold f_L_travel_B6 at hf
  refine lv_iload hx hb dL_travel_6 (lv_at hl 5 rfl) ?_
  refine lv_aload_n hx hb dL_travel_8 rfl (lv_at hl 3 rfl) ?_
  refine lv_iconst (v := (0 : Int32)) hx hb dL_travel_9 (by decide) ?_
  obtain ⟨hc_1, hf⟩ := aw_chk_some hf
  refine aw_ial hx hb G hc_1 dL_travel_10 ?_
  refine lv_icmp_ge (tgt := 91) hx hb dL_travel_11 (by decide) (fun hc => ?_) (fun hc => ?_)
  · have hf := aw_ite_t hc hf
    exact hk6 _ _ hf _ _ _ (lv_sub hl [4] rfl) G
  · have hf := aw_ite_f hc hf
    refine lv_iconst (v := (1 : Int32)) hx hb dL_travel_14 (by decide) ?_
    refine lv_istore (lv' := [(6, .int ((1 : Int32))), (0, .ref (ad x0)), (1, .ref (ad x1)), (2, .ref (ad x2)), (3, .ref (ad x3)), (4, .int x4), (5, .int x5)]) hx hb dL_travel_15 hl (by decide) rfl (fun ls hl => ?_)
    refine w_L_travel_L17 X aw_FU hf  (fun x4_11 d_12 hf H locs ls hl G => ?_) (lv_sub hl [1, 2, 3, 4, 5, 6, 0] rfl) G
    refine lv_iinc (v := x5 + 1) (lv' := [(5, .int (x5 + 1)), (0, .ref (ad x0)), (1, .ref (ad x1)), (2, .ref (ad x2)), (3, .ref (ad x3)), (4, .int x4_11)]) hx hb dL_travel_85 hl (k := 5) rfl rfl (by decide) rfl (fun ls hl => ?_)
    refine lv_goto (tgt := 6) hx hb dL_travel_88 (by decide) ?_
    exact hkb6 _ _ _ hf _ _ _ (lv_sub hl [1, 2, 3, 4, 5, 0] rfl) G
theorem w_L_travel_L6 {z : Int32 × Dt} (X : aw_X p c cL_travel 8 s RL m meth (some .int)) {k6 : Int32 → Dt → Option (Int32 × Dt)} {x0 : Nat} {x1 : Nat} {x2 : Nat} {x3 : Nat} (n : Nat) {x4 : Int32} {x5 : Int32} {d : Dt} (hf : f_L_travel_L6 σ n k6 x0 x1 x2 x3 x4 x5 d = some z) (hk6 : ∀ (y4 : Int32) (d : Dt), k6 y4 d = some z → ∀ (H : Heap) (locs : List Loc) (ls : Array Slot), lv_has ls 8 [(4, .int y4)] → aw_G D cA base ad σ d s H locs → W p l e rm_L_travel s m args below meth c H locs 0 0 (aw_Ei D cA base ad σ below args s z) (F0 m 91 ls [])) {H : Heap} {locs : List Loc} {ls : Array Slot} (hl : lv_has ls 8 [(0, .ref (ad x0)), (1, .ref (ad x1)), (2, .ref (ad x2)), (3, .ref (ad x3)), (4, .int x4), (5, .int x5)]) (G : aw_G D cA base ad σ d s H locs) : W p l e rm_L_travel s m args below meth c H locs 0 0 (aw_Ei D cA base ad σ below args s z) (F0 m 6 ls []) := by
  induction n generalizing x4 x5 d H locs ls with
  | zero => exact absurd (show (none : Option (Int32 × Dt)) = some z from hf) (by simp)
  | succ n ih => exact w_L_travel_B6 X (kb6 := f_L_travel_L6 σ n k6 x0 x1 x2 x3) hf  (fun x4 x5 d hf H locs ls hl G => ih hf hl G) hk6 hl G
end W_L_travel
set_option maxHeartbeats 4000000 in
set_option maxRecDepth 100000 in
theorem c_L_travel (l : Launch) {σ : Sg} {x0 : Nat} {x1 : Nat} {x2 : Nat} {x3 : Nat} {d : Dt} {z : Int32 × Dt} (hf : f_L_travel σ x0 x1 x2 x3 d = some z) : aw_Mi l yL_travel (Cond.code yL_travel cL_travel 8 (some .int)) rm_L_travel (fun ad => [.ref (ad x0), .ref (ad x1), .ref (ad x2), .ref (ad x3)]) σ d z := by
  intro D cA base ad
  refine aw_ofW (own := RL) (cc := cL_travel) (nL := 8) (ret := some .int) (by decide) rfl rfl ?_
  intro p e s m below meth c X hnm G
  have hx := X.1; have hb := X.2.1; have hml := X.2.2.1; have hown := X.2.2.2.1
  refine aw_ls (lv := [(0, .ref (ad x0)), (1, .ref (ad x1)), (2, .ref (ad x2)), (3, .ref (ad x3))]) (Nat.le_of_ble_eq_true rfl) rfl (fun ls hl => ?_)
  unfold f_L_travel at hf
  refine lv_iconst (v := (0 : Int32)) hx hb dL_travel_0 (by decide) ?_
  refine lv_istore (lv' := [(4, .int ((0 : Int32))), (0, .ref (ad x0)), (1, .ref (ad x1)), (2, .ref (ad x2)), (3, .ref (ad x3))]) hx hb dL_travel_1 hl (by decide) rfl (fun ls hl => ?_)
  refine lv_iconst (v := (0 : Int32)) hx hb dL_travel_3 (by decide) ?_
  refine lv_istore (lv' := [(5, .int ((0 : Int32))), (4, .int ((0 : Int32))), (0, .ref (ad x0)), (1, .ref (ad x1)), (2, .ref (ad x2)), (3, .ref (ad x3))]) hx hb dL_travel_4 hl (by decide) rfl (fun ls hl => ?_)
  refine w_L_travel_L6 X aw_FU hf  (fun x4_13 d_14 hf H locs ls hl G => ?_) (lv_sub hl [2, 3, 4, 5, 1, 0] rfl) G
  refine lv_iload hx hb dL_travel_91 (lv_at hl 0 rfl) ?_
  exact aw_reti X G hf dL_travel_93
def rm_L_hasSign : Room := { frames := 2, cells := 0, slots := 0, locals := 44 }
def f_L_hasSign_J68 (σ : Sg) (kb9 : Int32 → Int32 → Int32 → Dt → Option (Int32 × Dt)) (t0 : Int32) (x0 : Nat) (x1 : Int32) (x2 : Int32) (x3 : Int64) (x5 : Int32) (x7 : Int32) (d : Dt) : Option (Int32 × Dt) :=
  kb9 x5 t0 (x7 + 1) d
def f_L_hasSign_J67 (σ : Sg) (kb9 : Int32 → Int32 → Int32 → Dt → Option (Int32 × Dt)) (x0 : Nat) (x1 : Int32) (x2 : Int32) (x3 : Int64) (x5 : Int32) (x7 : Int32) (d : Dt) : Option (Int32 × Dt) :=
  f_L_hasSign_J68 σ kb9 ((0 : Int32)) x0 x1 x2 x3 x5 x7 d
def f_L_hasSign_J40 (σ : Sg) (kb9 : Int32 → Int32 → Int32 → Dt → Option (Int32 × Dt)) (t0 : Int32) (x0 : Nat) (x1 : Int32) (x2 : Int32) (x3 : Int64) (x6 : Int32) (x7 : Int32) (d : Dt) : Option (Int32 × Dt) :=
  if x6 = 0 then f_L_hasSign_J67 σ kb9 x0 x1 x2 x3 t0 x7 d else (f_L_sign σ x0 x1 x7 d).bind (fun z_3 => if (lg_cmp ((x3 >>> (z_3.1.toInt64 &&& 63)) &&& ((1 : Int64))) ((1 : Int64))) = 0 then f_L_hasSign_J68 σ kb9 ((1 : Int32)) x0 x1 x2 x3 t0 x7 z_3.2 else f_L_hasSign_J67 σ kb9 x0 x1 x2 x3 t0 x7 z_3.2)
def f_L_hasSign_J35 (σ : Sg) (kb9 : Int32 → Int32 → Int32 → Dt → Option (Int32 × Dt)) (x0 : Nat) (x1 : Int32) (x2 : Int32) (x3 : Int64) (x6 : Int32) (x7 : Int32) (d : Dt) : Option (Int32 × Dt) :=
  f_L_hasSign_J40 σ kb9 ((1 : Int32)) x0 x1 x2 x3 x6 x7 d
def f_L_hasSign_B9 (σ : Sg) (kb9 : Int32 → Int32 → Int32 → Dt → Option (Int32 × Dt)) (k9 : Int32 → Int32 → Dt → Option (Int32 × Dt)) (x0 : Nat) (x1 : Int32) (x2 : Int32) (x3 : Int64) (x5 : Int32) (x6 : Int32) (x7 : Int32) (d : Dt) : Option (Int32 × Dt) :=
  (f_L_many σ x0 x1 d).bind (fun z_1 => if z_1.1 ≤ x7 then k9 x5 x6 z_1.2 else if x5 = 0 then (f_L_sign σ x0 x1 x7 z_1.2).bind (fun z_5 => if z_5.1 = x2 then f_L_hasSign_J35 σ kb9 x0 x1 x2 x3 x6 x7 z_5.2 else f_L_hasSign_J40 σ kb9 ((0 : Int32)) x0 x1 x2 x3 x6 x7 z_5.2) else f_L_hasSign_J35 σ kb9 x0 x1 x2 x3 x6 x7 z_1.2)
def f_L_hasSign_L9 (σ : Sg) (n : Nat) (k9 : Int32 → Int32 → Dt → Option (Int32 × Dt)) (x0 : Nat) (x1 : Int32) (x2 : Int32) (x3 : Int64) : Int32 → Int32 → Int32 → Dt → Option (Int32 × Dt) := match n with
  | 0 => fun _ _ _ _ => none
  | n + 1 => fun x5 x6 x7 d => f_L_hasSign_B9 σ (f_L_hasSign_L9 σ n k9 x0 x1 x2 x3) k9 x0 x1 x2 x3 x5 x6 x7 d
def f_L_hasSign_J87 (σ : Sg) (t0 : Int32) (d : Dt) : Option (Int32 × Dt) :=
  aw_chk (t0 &&& 1 = t0) (some (t0, d))
def f_L_hasSign (σ : Sg) (x0 : Nat) (x1 : Int32) (x2 : Int32) (x3 : Int64) (d : Dt) : Option (Int32 × Dt) :=
  f_L_hasSign_L9 σ aw_FU (fun x5_7 x6_8 d_9 => if 0 ≤ x2 then f_L_hasSign_J87 σ x5_7 d_9 else f_L_hasSign_J87 σ x6_8 d_9) x0 x1 x2 x3 ((0 : Int32)) ((1 : Int32)) ((0 : Int32)) d
section W_L_hasSign
variable {p : Program} {l : Launch} {e : Env} {s : State} {m : MethodId} {args : Array Value} {below : List Frame} {meth : Method} {c : Code}
variable {D : va_G} {cA : Nat → ClassId} {base : Nat} {ad : Nat → Nat} {σ : Sg}
set_option maxHeartbeats 4000000 in
set_option maxRecDepth 100000 in
theorem w_L_hasSign_J68 {z : Int32 × Dt} (X : aw_X p c cL_hasSign 8 s RL m meth (some .boolean)) {kb9 : Int32 → Int32 → Int32 → Dt → Option (Int32 × Dt)} {t0 : Int32} {x0 : Nat} {x1 : Int32} {x2 : Int32} {x3 : Int64} {x5 : Int32} {x7 : Int32} {d : Dt} (hf : f_L_hasSign_J68 σ kb9 t0 x0 x1 x2 x3 x5 x7 d = some z) (hkb9 : ∀ (y5 : Int32) (y6 : Int32) (y7 : Int32) (d : Dt), kb9 y5 y6 y7 d = some z → ∀ (H : Heap) (locs : List Loc) (ls : Array Slot), lv_has ls 8 [(0, .ref (ad x0)), (1, .int x1), (2, .int x2), (3, .long x3), (5, .int y5), (6, .int y6), (7, .int y7)] → aw_G D cA base ad σ d s H locs → W p l e rm_L_hasSign s m args below meth c H locs 0 0 (aw_Ei D cA base ad σ below args s z) (F0 m 9 ls [])) {H : Heap} {locs : List Loc} {ls : Array Slot} (hl : lv_has ls 8 [(0, .ref (ad x0)), (1, .int x1), (2, .int x2), (3, .long x3), (5, .int x5), (7, .int x7)]) (G : aw_G D cA base ad σ d s H locs) : W p l e rm_L_hasSign s m args below meth c H locs 0 0 (aw_Ei D cA base ad σ below args s z) (F0 m 68 ls [.int t0]) := by
  have hx := X.1; have hb := X.2.1; have hml := X.2.2.1; have hown := X.2.2.2.1
  unfold f_L_hasSign_J68 at hf
  refine lv_istore (lv' := [(6, .int t0), (0, .ref (ad x0)), (1, .int x1), (2, .int x2), (3, .long x3), (5, .int x5), (7, .int x7)]) hx hb dL_hasSign_68 hl (by decide) rfl (fun ls hl => ?_)
  refine lv_iinc (v := x7 + 1) (lv' := [(7, .int (x7 + 1)), (6, .int t0), (0, .ref (ad x0)), (1, .int x1), (2, .int x2), (3, .long x3), (5, .int x5)]) hx hb dL_hasSign_70 hl (k := 6) rfl rfl (by decide) rfl (fun ls hl => ?_)
  refine lv_goto (tgt := 9) hx hb dL_hasSign_73 (by decide) ?_
  exact hkb9 _ _ _ _ hf _ _ _ (lv_sub hl [2, 3, 4, 5, 6, 1, 0] rfl) G
set_option maxHeartbeats 4000000 in
set_option maxRecDepth 100000 in
theorem w_L_hasSign_J67 {z : Int32 × Dt} (X : aw_X p c cL_hasSign 8 s RL m meth (some .boolean)) {kb9 : Int32 → Int32 → Int32 → Dt → Option (Int32 × Dt)} {x0 : Nat} {x1 : Int32} {x2 : Int32} {x3 : Int64} {x5 : Int32} {x7 : Int32} {d : Dt} (hf : f_L_hasSign_J67 σ kb9 x0 x1 x2 x3 x5 x7 d = some z) (hkb9 : ∀ (y5 : Int32) (y6 : Int32) (y7 : Int32) (d : Dt), kb9 y5 y6 y7 d = some z → ∀ (H : Heap) (locs : List Loc) (ls : Array Slot), lv_has ls 8 [(0, .ref (ad x0)), (1, .int x1), (2, .int x2), (3, .long x3), (5, .int y5), (6, .int y6), (7, .int y7)] → aw_G D cA base ad σ d s H locs → W p l e rm_L_hasSign s m args below meth c H locs 0 0 (aw_Ei D cA base ad σ below args s z) (F0 m 9 ls [])) {H : Heap} {locs : List Loc} {ls : Array Slot} (hl : lv_has ls 8 [(0, .ref (ad x0)), (1, .int x1), (2, .int x2), (3, .long x3), (5, .int x5), (7, .int x7)]) (G : aw_G D cA base ad σ d s H locs) : W p l e rm_L_hasSign s m args below meth c H locs 0 0 (aw_Ei D cA base ad σ below args s z) (F0 m 67 ls []) := by
  have hx := X.1; have hb := X.2.1; have hml := X.2.2.1; have hown := X.2.2.2.1
  unfold f_L_hasSign_J67 at hf
  refine lv_iconst (v := (0 : Int32)) hx hb dL_hasSign_67 (by decide) ?_
  exact w_L_hasSign_J68 X hf hkb9 (lv_sub hl [0, 1, 2, 3, 4, 5] rfl) G
set_option maxHeartbeats 4000000 in
set_option maxRecDepth 100000 in
theorem w_L_hasSign_J40 {z : Int32 × Dt} (X : aw_X p c cL_hasSign 8 s RL m meth (some .boolean)) {kb9 : Int32 → Int32 → Int32 → Dt → Option (Int32 × Dt)} {t0 : Int32} {x0 : Nat} {x1 : Int32} {x2 : Int32} {x3 : Int64} {x6 : Int32} {x7 : Int32} {d : Dt} (hf : f_L_hasSign_J40 σ kb9 t0 x0 x1 x2 x3 x6 x7 d = some z) (hkb9 : ∀ (y5 : Int32) (y6 : Int32) (y7 : Int32) (d : Dt), kb9 y5 y6 y7 d = some z → ∀ (H : Heap) (locs : List Loc) (ls : Array Slot), lv_has ls 8 [(0, .ref (ad x0)), (1, .int x1), (2, .int x2), (3, .long x3), (5, .int y5), (6, .int y6), (7, .int y7)] → aw_G D cA base ad σ d s H locs → W p l e rm_L_hasSign s m args below meth c H locs 0 0 (aw_Ei D cA base ad σ below args s z) (F0 m 9 ls [])) {H : Heap} {locs : List Loc} {ls : Array Slot} (hl : lv_has ls 8 [(0, .ref (ad x0)), (1, .int x1), (2, .int x2), (3, .long x3), (6, .int x6), (7, .int x7)]) (G : aw_G D cA base ad σ d s H locs) : W p l e rm_L_hasSign s m args below meth c H locs 0 0 (aw_Ei D cA base ad σ below args s z) (F0 m 40 ls [.int t0]) := by
  have hx := X.1; have hb := X.2.1; have hml := X.2.2.1; have hown := X.2.2.2.1
  unfold f_L_hasSign_J40 at hf
  refine lv_istore (lv' := [(5, .int t0), (0, .ref (ad x0)), (1, .int x1), (2, .int x2), (3, .long x3), (6, .int x6), (7, .int x7)]) hx hb dL_hasSign_40 hl (by decide) rfl (fun ls hl => ?_)
  refine lv_iload hx hb dL_hasSign_42 (lv_at hl 5 rfl) ?_
  refine lv_if_eq (tgt := 67) hx hb dL_hasSign_44 (by decide) (fun hc => ?_) (fun hc => ?_)
  · have hf := aw_ite_t hc hf
    exact w_L_hasSign_J67 X hf hkb9 (lv_sub hl [1, 2, 3, 4, 0, 6] rfl) G
  · have hf := aw_ite_f hc hf
    refine lv_lload_n hx hb dL_hasSign_47 rfl (lv_at hl 4 rfl) ?_
    refine lv_aload_n hx hb dL_hasSign_48 rfl (lv_at hl 1 rfl) ?_
    refine lv_iload_n hx hb dL_hasSign_49 rfl (lv_at hl 2 rfl) ?_
    refine lv_iload hx hb dL_hasSign_50 (lv_at hl 6 rfl) ?_
    obtain ⟨z_3, hz_4, hf⟩ := aw_bind_some hf
    refine aw_SI (As := [.ref (ad x0), .int x1, .int x7]) (rest := [.long x3]) X G hl.1 cr_L_85 (c_L_sign l hz_4) ⟨rfl, rfl⟩ rfl rfl rfl ⟨Nat.le_of_ble_eq_true rfl, Nat.le_of_ble_eq_true rfl⟩ (Nat.le_of_ble_eq_true rfl) dL_hasSign_52 ⟨Nat.zero_le _, Nat.zero_le _⟩ (fun H locs G => ?_)
    refine lv_lshr hx hb dL_hasSign_55 rfl ?_
    refine lv_lconst (v := (1 : Int64)) hx hb dL_hasSign_56 (by decide) ?_
    refine lv_land hx hb dL_hasSign_57 ?_
    refine lv_lconst (v := (1 : Int64)) hx hb dL_hasSign_58 (by decide) ?_
    refine W.lcmp hx hb dL_hasSign_59 ?_
    refine lv_if_ne (tgt := 67) hx hb dL_hasSign_60 (by decide) (fun hc => ?_) (fun hc => ?_)
    · have hf := aw_ite_f hc hf
      exact w_L_hasSign_J67 X hf hkb9 (lv_sub hl [1, 2, 3, 4, 0, 6] rfl) G
    · have hf := aw_ite_t hc hf
      refine lv_iconst (v := (1 : Int32)) hx hb dL_hasSign_63 (by decide) ?_
      refine lv_goto (tgt := 68) hx hb dL_hasSign_64 (by decide) ?_
      exact w_L_hasSign_J68 X hf hkb9 (lv_sub hl [1, 2, 3, 4, 0, 6] rfl) G
set_option maxHeartbeats 4000000 in
set_option maxRecDepth 100000 in
theorem w_L_hasSign_J35 {z : Int32 × Dt} (X : aw_X p c cL_hasSign 8 s RL m meth (some .boolean)) {kb9 : Int32 → Int32 → Int32 → Dt → Option (Int32 × Dt)} {x0 : Nat} {x1 : Int32} {x2 : Int32} {x3 : Int64} {x6 : Int32} {x7 : Int32} {d : Dt} (hf : f_L_hasSign_J35 σ kb9 x0 x1 x2 x3 x6 x7 d = some z) (hkb9 : ∀ (y5 : Int32) (y6 : Int32) (y7 : Int32) (d : Dt), kb9 y5 y6 y7 d = some z → ∀ (H : Heap) (locs : List Loc) (ls : Array Slot), lv_has ls 8 [(0, .ref (ad x0)), (1, .int x1), (2, .int x2), (3, .long x3), (5, .int y5), (6, .int y6), (7, .int y7)] → aw_G D cA base ad σ d s H locs → W p l e rm_L_hasSign s m args below meth c H locs 0 0 (aw_Ei D cA base ad σ below args s z) (F0 m 9 ls [])) {H : Heap} {locs : List Loc} {ls : Array Slot} (hl : lv_has ls 8 [(0, .ref (ad x0)), (1, .int x1), (2, .int x2), (3, .long x3), (6, .int x6), (7, .int x7)]) (G : aw_G D cA base ad σ d s H locs) : W p l e rm_L_hasSign s m args below meth c H locs 0 0 (aw_Ei D cA base ad σ below args s z) (F0 m 35 ls []) := by
  have hx := X.1; have hb := X.2.1; have hml := X.2.2.1; have hown := X.2.2.2.1
  unfold f_L_hasSign_J35 at hf
  refine lv_iconst (v := (1 : Int32)) hx hb dL_hasSign_35 (by decide) ?_
  refine lv_goto (tgt := 40) hx hb dL_hasSign_36 (by decide) ?_
  exact w_L_hasSign_J40 X hf hkb9 (lv_sub hl [0, 1, 2, 3, 4, 5] rfl) G
set_option maxHeartbeats 4000000 in
set_option maxRecDepth 100000 in
theorem w_L_hasSign_B9 {z : Int32 × Dt} (X : aw_X p c cL_hasSign 8 s RL m meth (some .boolean)) {kb9 : Int32 → Int32 → Int32 → Dt → Option (Int32 × Dt)} {k9 : Int32 → Int32 → Dt → Option (Int32 × Dt)} {x0 : Nat} {x1 : Int32} {x2 : Int32} {x3 : Int64} {x5 : Int32} {x6 : Int32} {x7 : Int32} {d : Dt} (hf : f_L_hasSign_B9 σ kb9 k9 x0 x1 x2 x3 x5 x6 x7 d = some z) (hkb9 : ∀ (y5 : Int32) (y6 : Int32) (y7 : Int32) (d : Dt), kb9 y5 y6 y7 d = some z → ∀ (H : Heap) (locs : List Loc) (ls : Array Slot), lv_has ls 8 [(0, .ref (ad x0)), (1, .int x1), (2, .int x2), (3, .long x3), (5, .int y5), (6, .int y6), (7, .int y7)] → aw_G D cA base ad σ d s H locs → W p l e rm_L_hasSign s m args below meth c H locs 0 0 (aw_Ei D cA base ad σ below args s z) (F0 m 9 ls [])) (hk9 : ∀ (y5 : Int32) (y6 : Int32) (d : Dt), k9 y5 y6 d = some z → ∀ (H : Heap) (locs : List Loc) (ls : Array Slot), lv_has ls 8 [(2, .int x2), (5, .int y5), (6, .int y6)] → aw_G D cA base ad σ d s H locs → W p l e rm_L_hasSign s m args below meth c H locs 0 0 (aw_Ei D cA base ad σ below args s z) (F0 m 76 ls [])) {H : Heap} {locs : List Loc} {ls : Array Slot} (hl : lv_has ls 8 [(0, .ref (ad x0)), (1, .int x1), (2, .int x2), (3, .long x3), (5, .int x5), (6, .int x6), (7, .int x7)]) (G : aw_G D cA base ad σ d s H locs) : W p l e rm_L_hasSign s m args below meth c H locs 0 0 (aw_Ei D cA base ad σ below args s z) (F0 m 9 ls []) := by
  have hx := X.1; have hb := X.2.1; have hml := X.2.2.1; have hown := X.2.2.2.1
  unfold f_L_hasSign_B9 at hf
  refine lv_iload hx hb dL_hasSign_9 (lv_at hl 6 rfl) ?_
  refine lv_aload_n hx hb dL_hasSign_11 rfl (lv_at hl 0 rfl) ?_
  refine lv_iload_n hx hb dL_hasSign_12 rfl (lv_at hl 1 rfl) ?_
  obtain ⟨z_1, hz_2, hf⟩ := aw_bind_some hf
  refine aw_SI (As := [.ref (ad x0), .int x1]) (rest := [.int x7]) X G hl.1 cr_L_93 (c_L_many l hz_2) ⟨rfl, rfl⟩ rfl rfl rfl ⟨Nat.le_of_ble_eq_true rfl, Nat.le_of_ble_eq_true rfl⟩ (Nat.le_of_ble_eq_true rfl) dL_hasSign_13 ⟨Nat.zero_le _, Nat.zero_le _⟩ (fun H locs G => ?_)
  refine lv_icmp_ge (tgt := 76) hx hb dL_hasSign_16 (by decide) (fun hc => ?_) (fun hc => ?_)
  · have hf := aw_ite_t hc hf
    exact hk9 _ _ _ hf _ _ _ (lv_sub hl [2, 4, 5] rfl) G
  · have hf := aw_ite_f hc hf
    refine lv_iload hx hb dL_hasSign_19 (lv_at hl 4 rfl) ?_
    refine lv_if_ne (tgt := 35) hx hb dL_hasSign_21 (by decide) (fun hc => ?_) (fun hc => ?_)
    · have hf := aw_ite_f hc hf
      exact w_L_hasSign_J35 X hf hkb9 (lv_sub hl [0, 1, 2, 3, 5, 6] rfl) G
    · have hf := aw_ite_t hc hf
      refine lv_aload_n hx hb dL_hasSign_24 rfl (lv_at hl 0 rfl) ?_
      refine lv_iload_n hx hb dL_hasSign_25 rfl (lv_at hl 1 rfl) ?_
      refine lv_iload hx hb dL_hasSign_26 (lv_at hl 6 rfl) ?_
      obtain ⟨z_5, hz_6, hf⟩ := aw_bind_some hf
      refine aw_SI (As := [.ref (ad x0), .int x1, .int x7]) (rest := []) X G hl.1 cr_L_85 (c_L_sign l hz_6) ⟨rfl, rfl⟩ rfl rfl rfl ⟨Nat.le_of_ble_eq_true rfl, Nat.le_of_ble_eq_true rfl⟩ (Nat.le_of_ble_eq_true rfl) dL_hasSign_28 ⟨Nat.zero_le _, Nat.zero_le _⟩ (fun H locs G => ?_)
      refine lv_iload_n hx hb dL_hasSign_31 rfl (lv_at hl 2 rfl) ?_
      refine lv_icmp_ne (tgt := 39) hx hb dL_hasSign_32 (by decide) (fun hc => ?_) (fun hc => ?_)
      · have hf := aw_ite_f hc hf
        refine lv_iconst (v := (0 : Int32)) hx hb dL_hasSign_39 (by decide) ?_
        exact w_L_hasSign_J40 X hf hkb9 (lv_sub hl [0, 1, 2, 3, 5, 6] rfl) G
      · have hf := aw_ite_t hc hf
        exact w_L_hasSign_J35 X hf hkb9 (lv_sub hl [0, 1, 2, 3, 5, 6] rfl) G
theorem w_L_hasSign_L9 {z : Int32 × Dt} (X : aw_X p c cL_hasSign 8 s RL m meth (some .boolean)) {k9 : Int32 → Int32 → Dt → Option (Int32 × Dt)} {x0 : Nat} {x1 : Int32} {x2 : Int32} {x3 : Int64} (n : Nat) {x5 : Int32} {x6 : Int32} {x7 : Int32} {d : Dt} (hf : f_L_hasSign_L9 σ n k9 x0 x1 x2 x3 x5 x6 x7 d = some z) (hk9 : ∀ (y5 : Int32) (y6 : Int32) (d : Dt), k9 y5 y6 d = some z → ∀ (H : Heap) (locs : List Loc) (ls : Array Slot), lv_has ls 8 [(2, .int x2), (5, .int y5), (6, .int y6)] → aw_G D cA base ad σ d s H locs → W p l e rm_L_hasSign s m args below meth c H locs 0 0 (aw_Ei D cA base ad σ below args s z) (F0 m 76 ls [])) {H : Heap} {locs : List Loc} {ls : Array Slot} (hl : lv_has ls 8 [(0, .ref (ad x0)), (1, .int x1), (2, .int x2), (3, .long x3), (5, .int x5), (6, .int x6), (7, .int x7)]) (G : aw_G D cA base ad σ d s H locs) : W p l e rm_L_hasSign s m args below meth c H locs 0 0 (aw_Ei D cA base ad σ below args s z) (F0 m 9 ls []) := by
  induction n generalizing x5 x6 x7 d H locs ls with
  | zero => exact absurd (show (none : Option (Int32 × Dt)) = some z from hf) (by simp)
  | succ n ih => exact w_L_hasSign_B9 X (kb9 := f_L_hasSign_L9 σ n k9 x0 x1 x2 x3) hf  (fun x5 x6 x7 d hf H locs ls hl G => ih hf hl G) hk9 hl G
set_option maxHeartbeats 4000000 in
set_option maxRecDepth 100000 in
theorem w_L_hasSign_J87 {z : Int32 × Dt} (X : aw_X p c cL_hasSign 8 s RL m meth (some .boolean)) {t0 : Int32} {d : Dt} (hf : f_L_hasSign_J87 σ t0 d = some z)  {H : Heap} {locs : List Loc} {ls : Array Slot} (hl : lv_has ls 8 []) (G : aw_G D cA base ad σ d s H locs) : W p l e rm_L_hasSign s m args below meth c H locs 0 0 (aw_Ei D cA base ad σ below args s z) (F0 m 87 ls [.int t0]) := by
  have hx := X.1; have hb := X.2.1; have hml := X.2.2.1; have hown := X.2.2.2.1
  unfold f_L_hasSign_J87 at hf
  obtain ⟨hc_10, hf⟩ := aw_chk_some hf
  exact aw_retz X G hc_10 hf dL_hasSign_87
end W_L_hasSign
set_option maxHeartbeats 4000000 in
set_option maxRecDepth 100000 in
theorem c_L_hasSign (l : Launch) {σ : Sg} {x0 : Nat} {x1 : Int32} {x2 : Int32} {x3 : Int64} {d : Dt} {z : Int32 × Dt} (hf : f_L_hasSign σ x0 x1 x2 x3 d = some z) : aw_Mi l yL_hasSign (Cond.code yL_hasSign cL_hasSign 8 (some .boolean)) rm_L_hasSign (fun ad => [.ref (ad x0), .int x1, .int x2, .long x3]) σ d z := by
  intro D cA base ad
  refine aw_ofW (own := RL) (cc := cL_hasSign) (nL := 8) (ret := some .boolean) (by decide) rfl rfl ?_
  intro p e s m below meth c X hnm G
  have hx := X.1; have hb := X.2.1; have hml := X.2.2.1; have hown := X.2.2.2.1
  refine aw_ls (lv := [(0, .ref (ad x0)), (1, .int x1), (2, .int x2), (3, .long x3)]) (Nat.le_of_ble_eq_true rfl) rfl (fun ls hl => ?_)
  unfold f_L_hasSign at hf
  refine lv_iconst (v := (0 : Int32)) hx hb dL_hasSign_0 (by decide) ?_
  refine lv_istore (lv' := [(5, .int ((0 : Int32))), (0, .ref (ad x0)), (1, .int x1), (2, .int x2), (3, .long x3)]) hx hb dL_hasSign_1 hl (by decide) rfl (fun ls hl => ?_)
  refine lv_iconst (v := (1 : Int32)) hx hb dL_hasSign_3 (by decide) ?_
  refine lv_istore (lv' := [(6, .int ((1 : Int32))), (5, .int ((0 : Int32))), (0, .ref (ad x0)), (1, .int x1), (2, .int x2), (3, .long x3)]) hx hb dL_hasSign_4 hl (by decide) rfl (fun ls hl => ?_)
  refine lv_iconst (v := (0 : Int32)) hx hb dL_hasSign_6 (by decide) ?_
  refine lv_istore (lv' := [(7, .int ((0 : Int32))), (6, .int ((1 : Int32))), (5, .int ((0 : Int32))), (0, .ref (ad x0)), (1, .int x1), (2, .int x2), (3, .long x3)]) hx hb dL_hasSign_7 hl (by decide) rfl (fun ls hl => ?_)
  refine w_L_hasSign_L9 X aw_FU hf  (fun x5_7 x6_8 d_9 hf H locs ls hl G => ?_) (lv_sub hl [3, 4, 5, 6, 2, 1, 0] rfl) G
  refine lv_iload_n hx hb dL_hasSign_76 rfl (lv_at hl 0 rfl) ?_
  refine lv_if_ge (tgt := 85) hx hb dL_hasSign_77 (by decide) (fun hc => ?_) (fun hc => ?_)
  · have hf := aw_ite_t hc hf
    refine lv_iload hx hb dL_hasSign_85 (lv_at hl 1 rfl) ?_
    exact w_L_hasSign_J87 X hf  (lv_sub hl [] rfl) G
  · have hf := aw_ite_f hc hf
    refine lv_iload hx hb dL_hasSign_80 (lv_at hl 2 rfl) ?_
    refine lv_goto (tgt := 87) hx hb dL_hasSign_82 (by decide) ?_
    exact w_L_hasSign_J87 X hf  (lv_sub hl [] rfl) G
def rm_L_read : Room := { frames := 3, cells := 0, slots := 0, locals := 71 }
def f_L_read_J38 (σ : Sg) (kb6 : Int32 → Int32 → Dt → Option (Int32 × Dt)) (t1 : Int32) (t0 : Int32) (x0 : Nat) (x1 : Nat) (x2 : Nat) (x3 : Int64) (x6 : Int32) (d : Dt) : Option (Int32 × Dt) :=
  kb6 (t0 + t1) (x6 + 1) d
def f_L_read_B6 (σ : Sg) (kb6 : Int32 → Int32 → Dt → Option (Int32 × Dt)) (k6 : Int32 → Dt → Option (Int32 × Dt)) (x0 : Nat) (x1 : Nat) (x2 : Nat) (x3 : Int64) (x5 : Int32) (x6 : Int32) (d : Dt) : Option (Int32 × Dt) :=
  aw_chk (aw_I σ 20 x2 ((0 : Int32))) (if (d.1 x2 ((0 : Int32)).toNatClampNeg) ≤ x6 then k6 x5 d else (f_L_hasSign σ x0 x6 ((-1 : Int32)) x3 d).bind (fun z_2 => if z_2.1 = 0 then f_L_read_J38 σ kb6 ((0 : Int32)) x5 x0 x1 x2 x3 x6 z_2.2 else aw_chk (aw_I σ 20 x1 (((8 : Int32)) + x6)) (f_L_read_J38 σ kb6 (z_2.2.1 x1 (((8 : Int32)) + x6).toNatClampNeg) x5 x0 x1 x2 x3 x6 z_2.2)))
def f_L_read_L6 (σ : Sg) (n : Nat) (k6 : Int32 → Dt → Option (Int32 × Dt)) (x0 : Nat) (x1 : Nat) (x2 : Nat) (x3 : Int64) : Int32 → Int32 → Dt → Option (Int32 × Dt) := match n with
  | 0 => fun _ _ _ => none
  | n + 1 => fun x5 x6 d => f_L_read_B6 σ (f_L_read_L6 σ n k6 x0 x1 x2 x3) k6 x0 x1 x2 x3 x5 x6 d
def f_L_read (σ : Sg) (x0 : Nat) (x1 : Nat) (x2 : Nat) (x3 : Int64) (d : Dt) : Option (Int32 × Dt) :=
  f_L_read_L6 σ aw_FU (fun x5_5 d_6 => some (x5_5, d_6)) x0 x1 x2 x3 ((0 : Int32)) ((0 : Int32)) d
section W_L_read
variable {p : Program} {l : Launch} {e : Env} {s : State} {m : MethodId} {args : Array Value} {below : List Frame} {meth : Method} {c : Code}
variable {D : va_G} {cA : Nat → ClassId} {base : Nat} {ad : Nat → Nat} {σ : Sg}
set_option maxHeartbeats 4000000 in
set_option maxRecDepth 100000 in
theorem w_L_read_J38 {z : Int32 × Dt} (X : aw_X p c cL_read 7 s RL m meth (some .int)) {kb6 : Int32 → Int32 → Dt → Option (Int32 × Dt)} {t1 : Int32} {t0 : Int32} {x0 : Nat} {x1 : Nat} {x2 : Nat} {x3 : Int64} {x6 : Int32} {d : Dt} (hf : f_L_read_J38 σ kb6 t1 t0 x0 x1 x2 x3 x6 d = some z) (hkb6 : ∀ (y5 : Int32) (y6 : Int32) (d : Dt), kb6 y5 y6 d = some z → ∀ (H : Heap) (locs : List Loc) (ls : Array Slot), lv_has ls 7 [(0, .ref (ad x0)), (1, .ref (ad x1)), (2, .ref (ad x2)), (3, .long x3), (5, .int y5), (6, .int y6)] → aw_G D cA base ad σ d s H locs → W p l e rm_L_read s m args below meth c H locs 0 0 (aw_Ei D cA base ad σ below args s z) (F0 m 6 ls [])) {H : Heap} {locs : List Loc} {ls : Array Slot} (hl : lv_has ls 7 [(0, .ref (ad x0)), (1, .ref (ad x1)), (2, .ref (ad x2)), (3, .long x3), (6, .int x6)]) (G : aw_G D cA base ad σ d s H locs) : W p l e rm_L_read s m args below meth c H locs 0 0 (aw_Ei D cA base ad σ below args s z) (F0 m 38 ls [.int t1, .int t0]) := by
  have hx := X.1; have hb := X.2.1; have hml := X.2.2.1; have hown := X.2.2.2.1
  unfold f_L_read_J38 at hf
  refine lv_iadd hx hb dL_read_38 ?_
  refine lv_istore (lv' := [(5, .int (t0 + t1)), (0, .ref (ad x0)), (1, .ref (ad x1)), (2, .ref (ad x2)), (3, .long x3), (6, .int x6)]) hx hb dL_read_39 hl (by decide) rfl (fun ls hl => ?_)
  refine lv_iinc (v := x6 + 1) (lv' := [(6, .int (x6 + 1)), (5, .int (t0 + t1)), (0, .ref (ad x0)), (1, .ref (ad x1)), (2, .ref (ad x2)), (3, .long x3)]) hx hb dL_read_41 hl (k := 5) rfl rfl (by decide) rfl (fun ls hl => ?_)
  refine lv_goto (tgt := 6) hx hb dL_read_44 (by decide) ?_
  exact hkb6 _ _ _ hf _ _ _ (lv_sub hl [2, 3, 4, 5, 1, 0] rfl) G
set_option maxHeartbeats 4000000 in
set_option maxRecDepth 100000 in
theorem w_L_read_B6 {z : Int32 × Dt} (X : aw_X p c cL_read 7 s RL m meth (some .int)) {kb6 : Int32 → Int32 → Dt → Option (Int32 × Dt)} {k6 : Int32 → Dt → Option (Int32 × Dt)} {x0 : Nat} {x1 : Nat} {x2 : Nat} {x3 : Int64} {x5 : Int32} {x6 : Int32} {d : Dt} (hf : f_L_read_B6 σ kb6 k6 x0 x1 x2 x3 x5 x6 d = some z) (hkb6 : ∀ (y5 : Int32) (y6 : Int32) (d : Dt), kb6 y5 y6 d = some z → ∀ (H : Heap) (locs : List Loc) (ls : Array Slot), lv_has ls 7 [(0, .ref (ad x0)), (1, .ref (ad x1)), (2, .ref (ad x2)), (3, .long x3), (5, .int y5), (6, .int y6)] → aw_G D cA base ad σ d s H locs → W p l e rm_L_read s m args below meth c H locs 0 0 (aw_Ei D cA base ad σ below args s z) (F0 m 6 ls [])) (hk6 : ∀ (y5 : Int32) (d : Dt), k6 y5 d = some z → ∀ (H : Heap) (locs : List Loc) (ls : Array Slot), lv_has ls 7 [(5, .int y5)] → aw_G D cA base ad σ d s H locs → W p l e rm_L_read s m args below meth c H locs 0 0 (aw_Ei D cA base ad σ below args s z) (F0 m 47 ls [])) {H : Heap} {locs : List Loc} {ls : Array Slot} (hl : lv_has ls 7 [(0, .ref (ad x0)), (1, .ref (ad x1)), (2, .ref (ad x2)), (3, .long x3), (5, .int x5), (6, .int x6)]) (G : aw_G D cA base ad σ d s H locs) : W p l e rm_L_read s m args below meth c H locs 0 0 (aw_Ei D cA base ad σ below args s z) (F0 m 6 ls []) := by
  have hx := X.1; have hb := X.2.1; have hml := X.2.2.1; have hown := X.2.2.2.1
  unfold f_L_read_B6 at hf
  refine lv_iload hx hb dL_read_6 (lv_at hl 5 rfl) ?_
  refine lv_aload_n hx hb dL_read_8 rfl (lv_at hl 2 rfl) ?_
  refine lv_iconst (v := (0 : Int32)) hx hb dL_read_9 (by decide) ?_
  obtain ⟨hc_1, hf⟩ := aw_chk_some hf
  refine aw_ial hx hb G hc_1 dL_read_10 ?_
  refine lv_icmp_ge (tgt := 47) hx hb dL_read_11 (by decide) (fun hc => ?_) (fun hc => ?_)
  · have hf := aw_ite_t hc hf
    exact hk6 _ _ hf _ _ _ (lv_sub hl [4] rfl) G
  · have hf := aw_ite_f hc hf
    refine lv_iload hx hb dL_read_14 (lv_at hl 4 rfl) ?_
    refine lv_aload_n hx hb dL_read_16 rfl (lv_at hl 0 rfl) ?_
    refine lv_iload hx hb dL_read_17 (lv_at hl 5 rfl) ?_
    refine lv_iconst (v := (-1 : Int32)) hx hb dL_read_19 (by decide) ?_
    refine lv_lload_n hx hb dL_read_20 rfl (lv_at hl 3 rfl) ?_
    obtain ⟨z_2, hz_3, hf⟩ := aw_bind_some hf
    refine aw_SI (As := [.ref (ad x0), .int x6, .int ((-1 : Int32)), .long x3]) (rest := [.int x5]) X G hl.1 cr_L_115 (c_L_hasSign l hz_3) ⟨rfl, rfl⟩ rfl rfl rfl ⟨Nat.le_of_ble_eq_true rfl, Nat.le_of_ble_eq_true rfl⟩ (Nat.le_of_ble_eq_true rfl) dL_read_21 ⟨Nat.zero_le _, Nat.zero_le _⟩ (fun H locs G => ?_)
    refine lv_if_eq (tgt := 37) hx hb dL_read_24 (by decide) (fun hc => ?_) (fun hc => ?_)
    · have hf := aw_ite_t hc hf
      refine lv_iconst (v := (0 : Int32)) hx hb dL_read_37 (by decide) ?_
      exact w_L_read_J38 X hf hkb6 (lv_sub hl [0, 1, 2, 3, 5] rfl) G
    · have hf := aw_ite_f hc hf
      refine lv_aload_n hx hb dL_read_27 rfl (lv_at hl 1 rfl) ?_
      refine lv_bipush (v := (8 : Int32)) hx hb dL_read_28 (by decide) ?_
      refine lv_iload hx hb dL_read_30 (lv_at hl 5 rfl) ?_
      refine lv_iadd hx hb dL_read_32 ?_
      obtain ⟨hc_4, hf⟩ := aw_chk_some hf
      refine aw_ial hx hb G hc_4 dL_read_33 ?_
      refine lv_goto (tgt := 38) hx hb dL_read_34 (by decide) ?_
      exact w_L_read_J38 X hf hkb6 (lv_sub hl [0, 1, 2, 3, 5] rfl) G
theorem w_L_read_L6 {z : Int32 × Dt} (X : aw_X p c cL_read 7 s RL m meth (some .int)) {k6 : Int32 → Dt → Option (Int32 × Dt)} {x0 : Nat} {x1 : Nat} {x2 : Nat} {x3 : Int64} (n : Nat) {x5 : Int32} {x6 : Int32} {d : Dt} (hf : f_L_read_L6 σ n k6 x0 x1 x2 x3 x5 x6 d = some z) (hk6 : ∀ (y5 : Int32) (d : Dt), k6 y5 d = some z → ∀ (H : Heap) (locs : List Loc) (ls : Array Slot), lv_has ls 7 [(5, .int y5)] → aw_G D cA base ad σ d s H locs → W p l e rm_L_read s m args below meth c H locs 0 0 (aw_Ei D cA base ad σ below args s z) (F0 m 47 ls [])) {H : Heap} {locs : List Loc} {ls : Array Slot} (hl : lv_has ls 7 [(0, .ref (ad x0)), (1, .ref (ad x1)), (2, .ref (ad x2)), (3, .long x3), (5, .int x5), (6, .int x6)]) (G : aw_G D cA base ad σ d s H locs) : W p l e rm_L_read s m args below meth c H locs 0 0 (aw_Ei D cA base ad σ below args s z) (F0 m 6 ls []) := by
  induction n generalizing x5 x6 d H locs ls with
  | zero => exact absurd (show (none : Option (Int32 × Dt)) = some z from hf) (by simp)
  | succ n ih => exact w_L_read_B6 X (kb6 := f_L_read_L6 σ n k6 x0 x1 x2 x3) hf  (fun x5 x6 d hf H locs ls hl G => ih hf hl G) hk6 hl G
end W_L_read
set_option maxHeartbeats 4000000 in
set_option maxRecDepth 100000 in
theorem c_L_read (l : Launch) {σ : Sg} {x0 : Nat} {x1 : Nat} {x2 : Nat} {x3 : Int64} {d : Dt} {z : Int32 × Dt} (hf : f_L_read σ x0 x1 x2 x3 d = some z) : aw_Mi l yL_read (Cond.code yL_read cL_read 7 (some .int)) rm_L_read (fun ad => [.ref (ad x0), .ref (ad x1), .ref (ad x2), .long x3]) σ d z := by
  intro D cA base ad
  refine aw_ofW (own := RL) (cc := cL_read) (nL := 7) (ret := some .int) (by decide) rfl rfl ?_
  intro p e s m below meth c X hnm G
  have hx := X.1; have hb := X.2.1; have hml := X.2.2.1; have hown := X.2.2.2.1
  refine aw_ls (lv := [(0, .ref (ad x0)), (1, .ref (ad x1)), (2, .ref (ad x2)), (3, .long x3)]) (Nat.le_of_ble_eq_true rfl) rfl (fun ls hl => ?_)
  unfold f_L_read at hf
  refine lv_iconst (v := (0 : Int32)) hx hb dL_read_0 (by decide) ?_
  refine lv_istore (lv' := [(5, .int ((0 : Int32))), (0, .ref (ad x0)), (1, .ref (ad x1)), (2, .ref (ad x2)), (3, .long x3)]) hx hb dL_read_1 hl (by decide) rfl (fun ls hl => ?_)
  refine lv_iconst (v := (0 : Int32)) hx hb dL_read_3 (by decide) ?_
  refine lv_istore (lv' := [(6, .int ((0 : Int32))), (5, .int ((0 : Int32))), (0, .ref (ad x0)), (1, .ref (ad x1)), (2, .ref (ad x2)), (3, .long x3)]) hx hb dL_read_4 hl (by decide) rfl (fun ls hl => ?_)
  refine w_L_read_L6 X aw_FU hf  (fun x5_5 d_6 hf H locs ls hl G => ?_) (lv_sub hl [2, 3, 4, 5, 1, 0] rfl) G
  refine lv_iload hx hb dL_read_47 (lv_at hl 0 rfl) ?_
  exact aw_reti X G hf dL_read_49
def rm_L_way : Room := { frames := 2, cells := 0, slots := 0, locals := 44 }
def f_L_way_B11 (σ : Sg) (kb11 : Int32 → Dt → Option (Int32 × Dt)) (k11 : Dt → Option (Int32 × Dt)) (x0 : Nat) (x1 : Nat) (x2 : Int32) (x3 : Nat) (x4 : Int32) (x5 : Int32) (x6 : Int32) (d : Dt) : Option (Int32 × Dt) :=
  if x5 < x6 then k11 d else aw_chk (aw_I σ 20 x0 (((46 : Int32)) + x6)) (kb11 (x6 + 1) (aw_sI d x0 (((46 : Int32)) + x6).toNatClampNeg x6))
def f_L_way_L11 (σ : Sg) (n : Nat) (k11 : Dt → Option (Int32 × Dt)) (x0 : Nat) (x1 : Nat) (x2 : Int32) (x3 : Nat) (x4 : Int32) (x5 : Int32) : Int32 → Dt → Option (Int32 × Dt) := match n with
  | 0 => fun _ _ => none
  | n + 1 => fun x6 d => f_L_way_B11 σ (f_L_way_L11 σ n k11 x0 x1 x2 x3 x4 x5) k11 x0 x1 x2 x3 x4 x5 x6 d
def f_L_way_J165 (σ : Sg) (kb62 : Int32 → Int32 → Dt → Option (Int32 × Dt)) (t2 : Int32) (t1 : Int32) (t0 : Nat) (x0 : Nat) (x1 : Nat) (x2 : Int32) (x3 : Nat) (x4 : Int32) (x5 : Int32) (x6 : Int32) (x7 : Int32) (x8 : Int32) (d : Dt) : Option (Int32 × Dt) :=
  aw_chk (aw_I σ 20 t0 t1) (kb62 x7 (x8 + 1) (aw_sI d t0 t1.toNatClampNeg t2))
def f_L_way_J134 (σ : Sg) (kb62 : Int32 → Int32 → Dt → Option (Int32 × Dt)) (t0 : Int32) (x0 : Nat) (x1 : Nat) (x2 : Int32) (x3 : Nat) (x4 : Int32) (x5 : Int32) (x6 : Int32) (x7 : Int32) (x8 : Int32) (d : Dt) : Option (Int32 × Dt) :=
  aw_chk (aw_I σ 20 x0 (x8 - ((1 : Int32)))) (if t0 ≤ ((d.1 x0 (x8 - ((1 : Int32))).toNatClampNeg) + ((1 : Int32))) then f_L_way_J165 σ kb62 t0 x8 x0 x0 x1 x2 x3 x4 x5 x6 x7 x8 d else f_L_way_J165 σ kb62 ((d.1 x0 (x8 - ((1 : Int32))).toNatClampNeg) + ((1 : Int32))) x8 x0 x0 x1 x2 x3 x4 x5 x6 x7 x8 d)
def f_L_way_J104 (σ : Sg) (kb62 : Int32 → Int32 → Dt → Option (Int32 × Dt)) (t0 : Int32) (x0 : Nat) (x1 : Nat) (x2 : Int32) (x3 : Nat) (x4 : Int32) (x5 : Int32) (x6 : Int32) (x8 : Int32) (d : Dt) : Option (Int32 × Dt) :=
  aw_chk (aw_I σ 20 x0 x8) (if t0 ≤ ((d.1 x0 x8.toNatClampNeg) + ((1 : Int32))) then f_L_way_J134 σ kb62 t0 x0 x1 x2 x3 x4 x5 x6 (d.1 x0 x8.toNatClampNeg) x8 d else f_L_way_J134 σ kb62 ((d.1 x0 x8.toNatClampNeg) + ((1 : Int32))) x0 x1 x2 x3 x4 x5 x6 (d.1 x0 x8.toNatClampNeg) x8 d)
def f_L_way_B62 (σ : Sg) (kb62 : Int32 → Int32 → Dt → Option (Int32 × Dt)) (k62 : Dt → Option (Int32 × Dt)) (x0 : Nat) (x1 : Nat) (x2 : Int32) (x3 : Nat) (x4 : Int32) (x5 : Int32) (x6 : Int32) (x7 : Int32) (x8 : Int32) (d : Dt) : Option (Int32 × Dt) :=
  if (((46 : Int32)) + x5) < x8 then k62 d else (f_L_sign σ x1 x2 (x6 - ((1 : Int32))) d).bind (fun z_8 => (f_L_sign σ x3 x4 (x8 - ((47 : Int32))) z_8.2).bind (fun z_10 => if z_8.1 = z_10.1 then f_L_way_J104 σ kb62 x7 x0 x1 x2 x3 x4 x5 x6 x8 z_10.2 else f_L_way_J104 σ kb62 (x7 + ((1 : Int32))) x0 x1 x2 x3 x4 x5 x6 x8 z_10.2))
def f_L_way_L62 (σ : Sg) (n : Nat) (k62 : Dt → Option (Int32 × Dt)) (x0 : Nat) (x1 : Nat) (x2 : Int32) (x3 : Nat) (x4 : Int32) (x5 : Int32) (x6 : Int32) : Int32 → Int32 → Dt → Option (Int32 × Dt) := match n with
  | 0 => fun _ _ _ => none
  | n + 1 => fun x7 x8 d => f_L_way_B62 σ (f_L_way_L62 σ n k62 x0 x1 x2 x3 x4 x5 x6) k62 x0 x1 x2 x3 x4 x5 x6 x7 x8 d
def f_L_way_B36 (σ : Sg) (kb36 : Int32 → Dt → Option (Int32 × Dt)) (k36 : Dt → Option (Int32 × Dt)) (x0 : Nat) (x1 : Nat) (x2 : Int32) (x3 : Nat) (x4 : Int32) (x5 : Int32) (x6 : Int32) (d : Dt) : Option (Int32 × Dt) :=
  (f_L_many σ x1 x2 d).bind (fun z_5 => if z_5.1 < x6 then k36 z_5.2 else aw_chk (aw_I σ 20 x0 ((46 : Int32))) (f_L_way_L62 σ aw_FU (fun d_15 => kb36 (x6 + 1) d_15) x0 x1 x2 x3 x4 x5 x6 (z_5.2.1 x0 ((46 : Int32)).toNatClampNeg) ((47 : Int32)) (aw_sI z_5.2 x0 ((46 : Int32)).toNatClampNeg x6)))
def f_L_way_L36 (σ : Sg) (n : Nat) (k36 : Dt → Option (Int32 × Dt)) (x0 : Nat) (x1 : Nat) (x2 : Int32) (x3 : Nat) (x4 : Int32) (x5 : Int32) : Int32 → Dt → Option (Int32 × Dt) := match n with
  | 0 => fun _ _ => none
  | n + 1 => fun x6 d => f_L_way_B36 σ (f_L_way_L36 σ n k36 x0 x1 x2 x3 x4 x5) k36 x0 x1 x2 x3 x4 x5 x6 d
def f_L_way (σ : Sg) (x0 : Nat) (x1 : Nat) (x2 : Int32) (x3 : Nat) (x4 : Int32) (d : Dt) : Option (Int32 × Dt) :=
  (f_L_many σ x3 x4 d).bind (fun z_1 => f_L_way_L11 σ aw_FU (fun d_4 => f_L_way_L36 σ aw_FU (fun d_16 => aw_chk (aw_I σ 20 x0 (((46 : Int32)) + z_1.1)) (some (d_16.1 x0 (((46 : Int32)) + z_1.1).toNatClampNeg, d_16))) x0 x1 x2 x3 x4 z_1.1 ((1 : Int32)) d_4) x0 x1 x2 x3 x4 z_1.1 ((0 : Int32)) z_1.2)
section W_L_way
variable {p : Program} {l : Launch} {e : Env} {s : State} {m : MethodId} {args : Array Value} {below : List Frame} {meth : Method} {c : Code}
variable {D : va_G} {cA : Nat → ClassId} {base : Nat} {ad : Nat → Nat} {σ : Sg}
set_option maxHeartbeats 4000000 in
set_option maxRecDepth 100000 in
theorem w_L_way_B11 {z : Int32 × Dt} (X : aw_X p c cL_way 10 s RL m meth (some .int)) {kb11 : Int32 → Dt → Option (Int32 × Dt)} {k11 : Dt → Option (Int32 × Dt)} {x0 : Nat} {x1 : Nat} {x2 : Int32} {x3 : Nat} {x4 : Int32} {x5 : Int32} {x6 : Int32} {d : Dt} (hf : f_L_way_B11 σ kb11 k11 x0 x1 x2 x3 x4 x5 x6 d = some z) (hkb11 : ∀ (y6 : Int32) (d : Dt), kb11 y6 d = some z → ∀ (H : Heap) (locs : List Loc) (ls : Array Slot), lv_has ls 10 [(0, .ref (ad x0)), (1, .ref (ad x1)), (2, .int x2), (3, .ref (ad x3)), (4, .int x4), (5, .int x5), (6, .int y6)] → aw_G D cA base ad σ d s H locs → W p l e rm_L_way s m args below meth c H locs 0 0 (aw_Ei D cA base ad σ below args s z) (F0 m 11 ls [])) (hk11 : ∀ (d : Dt), k11 d = some z → ∀ (H : Heap) (locs : List Loc) (ls : Array Slot), lv_has ls 10 [(0, .ref (ad x0)), (1, .ref (ad x1)), (2, .int x2), (3, .ref (ad x3)), (4, .int x4), (5, .int x5)] → aw_G D cA base ad σ d s H locs → W p l e rm_L_way s m args below meth c H locs 0 0 (aw_Ei D cA base ad σ below args s z) (F0 m 33 ls [])) {H : Heap} {locs : List Loc} {ls : Array Slot} (hl : lv_has ls 10 [(0, .ref (ad x0)), (1, .ref (ad x1)), (2, .int x2), (3, .ref (ad x3)), (4, .int x4), (5, .int x5), (6, .int x6)]) (G : aw_G D cA base ad σ d s H locs) : W p l e rm_L_way s m args below meth c H locs 0 0 (aw_Ei D cA base ad σ below args s z) (F0 m 11 ls []) := by
  have hx := X.1; have hb := X.2.1; have hml := X.2.2.1; have hown := X.2.2.2.1
  unfold f_L_way_B11 at hf
  refine lv_iload hx hb dL_way_11 (lv_at hl 6 rfl) ?_
  refine lv_iload hx hb dL_way_13 (lv_at hl 5 rfl) ?_
  refine lv_icmp_gt (tgt := 33) hx hb dL_way_15 (by decide) (fun hc => ?_) (fun hc => ?_)
  · have hf := aw_ite_t hc hf
    exact hk11 _ hf _ _ _ (lv_sub hl [0, 1, 2, 3, 4, 5] rfl) G
  · have hf := aw_ite_f hc hf
    refine lv_aload_n hx hb dL_way_18 rfl (lv_at hl 0 rfl) ?_
    refine lv_bipush (v := (46 : Int32)) hx hb dL_way_19 (by decide) ?_
    refine lv_iload hx hb dL_way_21 (lv_at hl 6 rfl) ?_
    refine lv_iadd hx hb dL_way_23 ?_
    refine lv_iload hx hb dL_way_24 (lv_at hl 6 rfl) ?_
    obtain ⟨hc_3, hf⟩ := aw_chk_some hf
    refine aw_ias hx hb G hc_3 dL_way_26 (fun H locs G => ?_)
    refine lv_iinc (v := x6 + 1) (lv' := [(6, .int (x6 + 1)), (0, .ref (ad x0)), (1, .ref (ad x1)), (2, .int x2), (3, .ref (ad x3)), (4, .int x4), (5, .int x5)]) hx hb dL_way_27 hl (k := 6) rfl rfl (by decide) rfl (fun ls hl => ?_)
    refine lv_goto (tgt := 11) hx hb dL_way_30 (by decide) ?_
    exact hkb11 _ _ hf _ _ _ (lv_sub hl [1, 2, 3, 4, 5, 6, 0] rfl) G
theorem w_L_way_L11 {z : Int32 × Dt} (X : aw_X p c cL_way 10 s RL m meth (some .int)) {k11 : Dt → Option (Int32 × Dt)} {x0 : Nat} {x1 : Nat} {x2 : Int32} {x3 : Nat} {x4 : Int32} {x5 : Int32} (n : Nat) {x6 : Int32} {d : Dt} (hf : f_L_way_L11 σ n k11 x0 x1 x2 x3 x4 x5 x6 d = some z) (hk11 : ∀ (d : Dt), k11 d = some z → ∀ (H : Heap) (locs : List Loc) (ls : Array Slot), lv_has ls 10 [(0, .ref (ad x0)), (1, .ref (ad x1)), (2, .int x2), (3, .ref (ad x3)), (4, .int x4), (5, .int x5)] → aw_G D cA base ad σ d s H locs → W p l e rm_L_way s m args below meth c H locs 0 0 (aw_Ei D cA base ad σ below args s z) (F0 m 33 ls [])) {H : Heap} {locs : List Loc} {ls : Array Slot} (hl : lv_has ls 10 [(0, .ref (ad x0)), (1, .ref (ad x1)), (2, .int x2), (3, .ref (ad x3)), (4, .int x4), (5, .int x5), (6, .int x6)]) (G : aw_G D cA base ad σ d s H locs) : W p l e rm_L_way s m args below meth c H locs 0 0 (aw_Ei D cA base ad σ below args s z) (F0 m 11 ls []) := by
  induction n generalizing x6 d H locs ls with
  | zero => exact absurd (show (none : Option (Int32 × Dt)) = some z from hf) (by simp)
  | succ n ih => exact w_L_way_B11 X (kb11 := f_L_way_L11 σ n k11 x0 x1 x2 x3 x4 x5) hf  (fun x6 d hf H locs ls hl G => ih hf hl G) hk11 hl G
set_option maxHeartbeats 4000000 in
set_option maxRecDepth 100000 in
theorem w_L_way_J165 {z : Int32 × Dt} (X : aw_X p c cL_way 10 s RL m meth (some .int)) {kb62 : Int32 → Int32 → Dt → Option (Int32 × Dt)} {t2 : Int32} {t1 : Int32} {t0 : Nat} {x0 : Nat} {x1 : Nat} {x2 : Int32} {x3 : Nat} {x4 : Int32} {x5 : Int32} {x6 : Int32} {x7 : Int32} {x8 : Int32} {d : Dt} (hf : f_L_way_J165 σ kb62 t2 t1 t0 x0 x1 x2 x3 x4 x5 x6 x7 x8 d = some z) (hkb62 : ∀ (y7 : Int32) (y8 : Int32) (d : Dt), kb62 y7 y8 d = some z → ∀ (H : Heap) (locs : List Loc) (ls : Array Slot), lv_has ls 10 [(0, .ref (ad x0)), (1, .ref (ad x1)), (2, .int x2), (3, .ref (ad x3)), (4, .int x4), (5, .int x5), (6, .int x6), (7, .int y7), (8, .int y8)] → aw_G D cA base ad σ d s H locs → W p l e rm_L_way s m args below meth c H locs 0 0 (aw_Ei D cA base ad σ below args s z) (F0 m 62 ls [])) {H : Heap} {locs : List Loc} {ls : Array Slot} (hl : lv_has ls 10 [(0, .ref (ad x0)), (1, .ref (ad x1)), (2, .int x2), (3, .ref (ad x3)), (4, .int x4), (5, .int x5), (6, .int x6), (7, .int x7), (8, .int x8)]) (G : aw_G D cA base ad σ d s H locs) : W p l e rm_L_way s m args below meth c H locs 0 0 (aw_Ei D cA base ad σ below args s z) (F0 m 165 ls [.int t2, .int t1, .ref (ad t0)]) := by
  have hx := X.1; have hb := X.2.1; have hml := X.2.2.1; have hown := X.2.2.2.1
  unfold f_L_way_J165 at hf
  obtain ⟨hc_14, hf⟩ := aw_chk_some hf
  refine aw_ias hx hb G hc_14 dL_way_165 (fun H locs G => ?_)
  refine lv_iinc (v := x8 + 1) (lv' := [(8, .int (x8 + 1)), (0, .ref (ad x0)), (1, .ref (ad x1)), (2, .int x2), (3, .ref (ad x3)), (4, .int x4), (5, .int x5), (6, .int x6), (7, .int x7)]) hx hb dL_way_166 hl (k := 8) rfl rfl (by decide) rfl (fun ls hl => ?_)
  refine lv_goto (tgt := 62) hx hb dL_way_169 (by decide) ?_
  exact hkb62 _ _ _ hf _ _ _ (lv_sub hl [1, 2, 3, 4, 5, 6, 7, 8, 0] rfl) G
set_option maxHeartbeats 4000000 in
set_option maxRecDepth 100000 in
theorem w_L_way_J134 {z : Int32 × Dt} (X : aw_X p c cL_way 10 s RL m meth (some .int)) {kb62 : Int32 → Int32 → Dt → Option (Int32 × Dt)} {t0 : Int32} {x0 : Nat} {x1 : Nat} {x2 : Int32} {x3 : Nat} {x4 : Int32} {x5 : Int32} {x6 : Int32} {x7 : Int32} {x8 : Int32} {d : Dt} (hf : f_L_way_J134 σ kb62 t0 x0 x1 x2 x3 x4 x5 x6 x7 x8 d = some z) (hkb62 : ∀ (y7 : Int32) (y8 : Int32) (d : Dt), kb62 y7 y8 d = some z → ∀ (H : Heap) (locs : List Loc) (ls : Array Slot), lv_has ls 10 [(0, .ref (ad x0)), (1, .ref (ad x1)), (2, .int x2), (3, .ref (ad x3)), (4, .int x4), (5, .int x5), (6, .int x6), (7, .int y7), (8, .int y8)] → aw_G D cA base ad σ d s H locs → W p l e rm_L_way s m args below meth c H locs 0 0 (aw_Ei D cA base ad σ below args s z) (F0 m 62 ls [])) {H : Heap} {locs : List Loc} {ls : Array Slot} (hl : lv_has ls 10 [(0, .ref (ad x0)), (1, .ref (ad x1)), (2, .int x2), (3, .ref (ad x3)), (4, .int x4), (5, .int x5), (6, .int x6), (7, .int x7), (8, .int x8)]) (G : aw_G D cA base ad σ d s H locs) : W p l e rm_L_way s m args below meth c H locs 0 0 (aw_Ei D cA base ad σ below args s z) (F0 m 134 ls [.int t0]) := by
  have hx := X.1; have hb := X.2.1; have hml := X.2.2.1; have hown := X.2.2.2.1
  unfold f_L_way_J134 at hf
  refine lv_istore (lv' := [(9, .int t0), (0, .ref (ad x0)), (1, .ref (ad x1)), (2, .int x2), (3, .ref (ad x3)), (4, .int x4), (5, .int x5), (6, .int x6), (7, .int x7), (8, .int x8)]) hx hb dL_way_134 hl (by decide) rfl (fun ls hl => ?_)
  refine lv_aload_n hx hb dL_way_136 rfl (lv_at hl 1 rfl) ?_
  refine lv_iload hx hb dL_way_137 (lv_at hl 9 rfl) ?_
  refine lv_aload_n hx hb dL_way_139 rfl (lv_at hl 1 rfl) ?_
  refine lv_iload hx hb dL_way_140 (lv_at hl 9 rfl) ?_
  refine lv_iconst (v := (1 : Int32)) hx hb dL_way_142 (by decide) ?_
  refine lv_isub hx hb dL_way_143 ?_
  obtain ⟨hc_13, hf⟩ := aw_chk_some hf
  refine aw_ial hx hb G hc_13 dL_way_144 ?_
  refine lv_iconst (v := (1 : Int32)) hx hb dL_way_145 (by decide) ?_
  refine lv_iadd hx hb dL_way_146 ?_
  refine lv_iload hx hb dL_way_147 (lv_at hl 0 rfl) ?_
  refine lv_icmp_ge (tgt := 163) hx hb dL_way_149 (by decide) (fun hc => ?_) (fun hc => ?_)
  · have hf := aw_ite_t hc hf
    refine lv_iload hx hb dL_way_163 (lv_at hl 0 rfl) ?_
    exact w_L_way_J165 X hf hkb62 (lv_sub hl [1, 2, 3, 4, 5, 6, 7, 8, 9] rfl) G
  · have hf := aw_ite_f hc hf
    refine lv_aload_n hx hb dL_way_152 rfl (lv_at hl 1 rfl) ?_
    refine lv_iload hx hb dL_way_153 (lv_at hl 9 rfl) ?_
    refine lv_iconst (v := (1 : Int32)) hx hb dL_way_155 (by decide) ?_
    refine lv_isub hx hb dL_way_156 ?_
    refine aw_ial hx hb G hc_13 dL_way_157 ?_
    refine lv_iconst (v := (1 : Int32)) hx hb dL_way_158 (by decide) ?_
    refine lv_iadd hx hb dL_way_159 ?_
    refine lv_goto (tgt := 165) hx hb dL_way_160 (by decide) ?_
    exact w_L_way_J165 X hf hkb62 (lv_sub hl [1, 2, 3, 4, 5, 6, 7, 8, 9] rfl) G
set_option maxHeartbeats 4000000 in
set_option maxRecDepth 100000 in
theorem w_L_way_J104 {z : Int32 × Dt} (X : aw_X p c cL_way 10 s RL m meth (some .int)) {kb62 : Int32 → Int32 → Dt → Option (Int32 × Dt)} {t0 : Int32} {x0 : Nat} {x1 : Nat} {x2 : Int32} {x3 : Nat} {x4 : Int32} {x5 : Int32} {x6 : Int32} {x8 : Int32} {d : Dt} (hf : f_L_way_J104 σ kb62 t0 x0 x1 x2 x3 x4 x5 x6 x8 d = some z) (hkb62 : ∀ (y7 : Int32) (y8 : Int32) (d : Dt), kb62 y7 y8 d = some z → ∀ (H : Heap) (locs : List Loc) (ls : Array Slot), lv_has ls 10 [(0, .ref (ad x0)), (1, .ref (ad x1)), (2, .int x2), (3, .ref (ad x3)), (4, .int x4), (5, .int x5), (6, .int x6), (7, .int y7), (8, .int y8)] → aw_G D cA base ad σ d s H locs → W p l e rm_L_way s m args below meth c H locs 0 0 (aw_Ei D cA base ad σ below args s z) (F0 m 62 ls [])) {H : Heap} {locs : List Loc} {ls : Array Slot} (hl : lv_has ls 10 [(0, .ref (ad x0)), (1, .ref (ad x1)), (2, .int x2), (3, .ref (ad x3)), (4, .int x4), (5, .int x5), (6, .int x6), (8, .int x8)]) (G : aw_G D cA base ad σ d s H locs) : W p l e rm_L_way s m args below meth c H locs 0 0 (aw_Ei D cA base ad σ below args s z) (F0 m 104 ls [.int t0]) := by
  have hx := X.1; have hb := X.2.1; have hml := X.2.2.1; have hown := X.2.2.2.1
  unfold f_L_way_J104 at hf
  refine lv_istore (lv' := [(9, .int t0), (0, .ref (ad x0)), (1, .ref (ad x1)), (2, .int x2), (3, .ref (ad x3)), (4, .int x4), (5, .int x5), (6, .int x6), (8, .int x8)]) hx hb dL_way_104 hl (by decide) rfl (fun ls hl => ?_)
  refine lv_aload_n hx hb dL_way_106 rfl (lv_at hl 1 rfl) ?_
  refine lv_iload hx hb dL_way_107 (lv_at hl 8 rfl) ?_
  obtain ⟨hc_12, hf⟩ := aw_chk_some hf
  refine aw_ial hx hb G hc_12 dL_way_109 ?_
  refine lv_istore (lv' := [(7, .int (d.1 x0 x8.toNatClampNeg)), (9, .int t0), (0, .ref (ad x0)), (1, .ref (ad x1)), (2, .int x2), (3, .ref (ad x3)), (4, .int x4), (5, .int x5), (6, .int x6), (8, .int x8)]) hx hb dL_way_110 hl (by decide) rfl (fun ls hl => ?_)
  refine lv_aload_n hx hb dL_way_112 rfl (lv_at hl 2 rfl) ?_
  refine lv_iload hx hb dL_way_113 (lv_at hl 9 rfl) ?_
  refine aw_ial hx hb G hc_12 dL_way_115 ?_
  refine lv_iconst (v := (1 : Int32)) hx hb dL_way_116 (by decide) ?_
  refine lv_iadd hx hb dL_way_117 ?_
  refine lv_iload hx hb dL_way_118 (lv_at hl 1 rfl) ?_
  refine lv_icmp_ge (tgt := 132) hx hb dL_way_120 (by decide) (fun hc => ?_) (fun hc => ?_)
  · have hf := aw_ite_t hc hf
    refine lv_iload hx hb dL_way_132 (lv_at hl 1 rfl) ?_
    exact w_L_way_J134 X hf hkb62 (lv_sub hl [2, 3, 4, 5, 6, 7, 8, 0, 9] rfl) G
  · have hf := aw_ite_f hc hf
    refine lv_aload_n hx hb dL_way_123 rfl (lv_at hl 2 rfl) ?_
    refine lv_iload hx hb dL_way_124 (lv_at hl 9 rfl) ?_
    refine aw_ial hx hb G hc_12 dL_way_126 ?_
    refine lv_iconst (v := (1 : Int32)) hx hb dL_way_127 (by decide) ?_
    refine lv_iadd hx hb dL_way_128 ?_
    refine lv_goto (tgt := 134) hx hb dL_way_129 (by decide) ?_
    exact w_L_way_J134 X hf hkb62 (lv_sub hl [2, 3, 4, 5, 6, 7, 8, 0, 9] rfl) G
set_option maxHeartbeats 4000000 in
set_option maxRecDepth 100000 in
theorem w_L_way_B62 {z : Int32 × Dt} (X : aw_X p c cL_way 10 s RL m meth (some .int)) {kb62 : Int32 → Int32 → Dt → Option (Int32 × Dt)} {k62 : Dt → Option (Int32 × Dt)} {x0 : Nat} {x1 : Nat} {x2 : Int32} {x3 : Nat} {x4 : Int32} {x5 : Int32} {x6 : Int32} {x7 : Int32} {x8 : Int32} {d : Dt} (hf : f_L_way_B62 σ kb62 k62 x0 x1 x2 x3 x4 x5 x6 x7 x8 d = some z) (hkb62 : ∀ (y7 : Int32) (y8 : Int32) (d : Dt), kb62 y7 y8 d = some z → ∀ (H : Heap) (locs : List Loc) (ls : Array Slot), lv_has ls 10 [(0, .ref (ad x0)), (1, .ref (ad x1)), (2, .int x2), (3, .ref (ad x3)), (4, .int x4), (5, .int x5), (6, .int x6), (7, .int y7), (8, .int y8)] → aw_G D cA base ad σ d s H locs → W p l e rm_L_way s m args below meth c H locs 0 0 (aw_Ei D cA base ad σ below args s z) (F0 m 62 ls [])) (hk62 : ∀ (d : Dt), k62 d = some z → ∀ (H : Heap) (locs : List Loc) (ls : Array Slot), lv_has ls 10 [(0, .ref (ad x0)), (1, .ref (ad x1)), (2, .int x2), (3, .ref (ad x3)), (4, .int x4), (5, .int x5), (6, .int x6)] → aw_G D cA base ad σ d s H locs → W p l e rm_L_way s m args below meth c H locs 0 0 (aw_Ei D cA base ad σ below args s z) (F0 m 172 ls [])) {H : Heap} {locs : List Loc} {ls : Array Slot} (hl : lv_has ls 10 [(0, .ref (ad x0)), (1, .ref (ad x1)), (2, .int x2), (3, .ref (ad x3)), (4, .int x4), (5, .int x5), (6, .int x6), (7, .int x7), (8, .int x8)]) (G : aw_G D cA base ad σ d s H locs) : W p l e rm_L_way s m args below meth c H locs 0 0 (aw_Ei D cA base ad σ below args s z) (F0 m 62 ls []) := by
  have hx := X.1; have hb := X.2.1; have hml := X.2.2.1; have hown := X.2.2.2.1
  unfold f_L_way_B62 at hf
  refine lv_iload hx hb dL_way_62 (lv_at hl 8 rfl) ?_
  refine lv_bipush (v := (46 : Int32)) hx hb dL_way_64 (by decide) ?_
  refine lv_iload hx hb dL_way_66 (lv_at hl 5 rfl) ?_
  refine lv_iadd hx hb dL_way_68 ?_
  refine lv_icmp_gt (tgt := 172) hx hb dL_way_69 (by decide) (fun hc => ?_) (fun hc => ?_)
  · have hf := aw_ite_t hc hf
    exact hk62 _ hf _ _ _ (lv_sub hl [0, 1, 2, 3, 4, 5, 6] rfl) G
  · have hf := aw_ite_f hc hf
    refine lv_aload_n hx hb dL_way_72 rfl (lv_at hl 1 rfl) ?_
    refine lv_iload_n hx hb dL_way_73 rfl (lv_at hl 2 rfl) ?_
    refine lv_iload hx hb dL_way_74 (lv_at hl 6 rfl) ?_
    refine lv_iconst (v := (1 : Int32)) hx hb dL_way_76 (by decide) ?_
    refine lv_isub hx hb dL_way_77 ?_
    obtain ⟨z_8, hz_9, hf⟩ := aw_bind_some hf
    refine aw_SI (As := [.ref (ad x1), .int x2, .int (x6 - ((1 : Int32)))]) (rest := []) X G hl.1 cr_L_85 (c_L_sign l hz_9) ⟨rfl, rfl⟩ rfl rfl rfl ⟨Nat.le_of_ble_eq_true rfl, Nat.le_of_ble_eq_true rfl⟩ (Nat.le_of_ble_eq_true rfl) dL_way_78 ⟨Nat.zero_le _, Nat.zero_le _⟩ (fun H locs G => ?_)
    refine lv_aload_n hx hb dL_way_81 rfl (lv_at hl 3 rfl) ?_
    refine lv_iload hx hb dL_way_82 (lv_at hl 4 rfl) ?_
    refine lv_iload hx hb dL_way_84 (lv_at hl 8 rfl) ?_
    refine lv_bipush (v := (47 : Int32)) hx hb dL_way_86 (by decide) ?_
    refine lv_isub hx hb dL_way_88 ?_
    obtain ⟨z_10, hz_11, hf⟩ := aw_bind_some hf
    refine aw_SI (As := [.ref (ad x3), .int x4, .int (x8 - ((47 : Int32)))]) (rest := [.int z_8.1]) X G hl.1 cr_L_85 (c_L_sign l hz_11) ⟨rfl, rfl⟩ rfl rfl rfl ⟨Nat.le_of_ble_eq_true rfl, Nat.le_of_ble_eq_true rfl⟩ (Nat.le_of_ble_eq_true rfl) dL_way_89 ⟨Nat.zero_le _, Nat.zero_le _⟩ (fun H locs G => ?_)
    refine lv_icmp_ne (tgt := 100) hx hb dL_way_92 (by decide) (fun hc => ?_) (fun hc => ?_)
    · have hf := aw_ite_f hc hf
      refine lv_iload hx hb dL_way_100 (lv_at hl 7 rfl) ?_
      refine lv_iconst (v := (1 : Int32)) hx hb dL_way_102 (by decide) ?_
      refine lv_iadd hx hb dL_way_103 ?_
      exact w_L_way_J104 X hf hkb62 (lv_sub hl [0, 1, 2, 3, 4, 5, 6, 8] rfl) G
    · have hf := aw_ite_t hc hf
      refine lv_iload hx hb dL_way_95 (lv_at hl 7 rfl) ?_
      refine lv_goto (tgt := 104) hx hb dL_way_97 (by decide) ?_
      exact w_L_way_J104 X hf hkb62 (lv_sub hl [0, 1, 2, 3, 4, 5, 6, 8] rfl) G
theorem w_L_way_L62 {z : Int32 × Dt} (X : aw_X p c cL_way 10 s RL m meth (some .int)) {k62 : Dt → Option (Int32 × Dt)} {x0 : Nat} {x1 : Nat} {x2 : Int32} {x3 : Nat} {x4 : Int32} {x5 : Int32} {x6 : Int32} (n : Nat) {x7 : Int32} {x8 : Int32} {d : Dt} (hf : f_L_way_L62 σ n k62 x0 x1 x2 x3 x4 x5 x6 x7 x8 d = some z) (hk62 : ∀ (d : Dt), k62 d = some z → ∀ (H : Heap) (locs : List Loc) (ls : Array Slot), lv_has ls 10 [(0, .ref (ad x0)), (1, .ref (ad x1)), (2, .int x2), (3, .ref (ad x3)), (4, .int x4), (5, .int x5), (6, .int x6)] → aw_G D cA base ad σ d s H locs → W p l e rm_L_way s m args below meth c H locs 0 0 (aw_Ei D cA base ad σ below args s z) (F0 m 172 ls [])) {H : Heap} {locs : List Loc} {ls : Array Slot} (hl : lv_has ls 10 [(0, .ref (ad x0)), (1, .ref (ad x1)), (2, .int x2), (3, .ref (ad x3)), (4, .int x4), (5, .int x5), (6, .int x6), (7, .int x7), (8, .int x8)]) (G : aw_G D cA base ad σ d s H locs) : W p l e rm_L_way s m args below meth c H locs 0 0 (aw_Ei D cA base ad σ below args s z) (F0 m 62 ls []) := by
  induction n generalizing x7 x8 d H locs ls with
  | zero => exact absurd (show (none : Option (Int32 × Dt)) = some z from hf) (by simp)
  | succ n ih => exact w_L_way_B62 X (kb62 := f_L_way_L62 σ n k62 x0 x1 x2 x3 x4 x5 x6) hf  (fun x7 x8 d hf H locs ls hl G => ih hf hl G) hk62 hl G
set_option maxHeartbeats 4000000 in
set_option maxRecDepth 100000 in
theorem w_L_way_B36 {z : Int32 × Dt} (X : aw_X p c cL_way 10 s RL m meth (some .int)) {kb36 : Int32 → Dt → Option (Int32 × Dt)} {k36 : Dt → Option (Int32 × Dt)} {x0 : Nat} {x1 : Nat} {x2 : Int32} {x3 : Nat} {x4 : Int32} {x5 : Int32} {x6 : Int32} {d : Dt} (hf : f_L_way_B36 σ kb36 k36 x0 x1 x2 x3 x4 x5 x6 d = some z) (hkb36 : ∀ (y6 : Int32) (d : Dt), kb36 y6 d = some z → ∀ (H : Heap) (locs : List Loc) (ls : Array Slot), lv_has ls 10 [(0, .ref (ad x0)), (1, .ref (ad x1)), (2, .int x2), (3, .ref (ad x3)), (4, .int x4), (5, .int x5), (6, .int y6)] → aw_G D cA base ad σ d s H locs → W p l e rm_L_way s m args below meth c H locs 0 0 (aw_Ei D cA base ad σ below args s z) (F0 m 36 ls [])) (hk36 : ∀ (d : Dt), k36 d = some z → ∀ (H : Heap) (locs : List Loc) (ls : Array Slot), lv_has ls 10 [(0, .ref (ad x0)), (5, .int x5)] → aw_G D cA base ad σ d s H locs → W p l e rm_L_way s m args below meth c H locs 0 0 (aw_Ei D cA base ad σ below args s z) (F0 m 178 ls [])) {H : Heap} {locs : List Loc} {ls : Array Slot} (hl : lv_has ls 10 [(0, .ref (ad x0)), (1, .ref (ad x1)), (2, .int x2), (3, .ref (ad x3)), (4, .int x4), (5, .int x5), (6, .int x6)]) (G : aw_G D cA base ad σ d s H locs) : W p l e rm_L_way s m args below meth c H locs 0 0 (aw_Ei D cA base ad σ below args s z) (F0 m 36 ls []) := by
  have hx := X.1; have hb := X.2.1; have hml := X.2.2.1; have hown := X.2.2.2.1
  unfold f_L_way_B36 at hf
  refine lv_iload hx hb dL_way_36 (lv_at hl 6 rfl) ?_
  refine lv_aload_n hx hb dL_way_38 rfl (lv_at hl 1 rfl) ?_
  refine lv_iload_n hx hb dL_way_39 rfl (lv_at hl 2 rfl) ?_
  obtain ⟨z_5, hz_6, hf⟩ := aw_bind_some hf
  refine aw_SI (As := [.ref (ad x1), .int x2]) (rest := [.int x6]) X G hl.1 cr_L_93 (c_L_many l hz_6) ⟨rfl, rfl⟩ rfl rfl rfl ⟨Nat.le_of_ble_eq_true rfl, Nat.le_of_ble_eq_true rfl⟩ (Nat.le_of_ble_eq_true rfl) dL_way_40 ⟨Nat.zero_le _, Nat.zero_le _⟩ (fun H locs G => ?_)
  refine lv_icmp_gt (tgt := 178) hx hb dL_way_43 (by decide) (fun hc => ?_) (fun hc => ?_)
  · have hf := aw_ite_t hc hf
    exact hk36 _ hf _ _ _ (lv_sub hl [0, 5] rfl) G
  · have hf := aw_ite_f hc hf
    refine lv_aload_n hx hb dL_way_46 rfl (lv_at hl 0 rfl) ?_
    refine lv_bipush (v := (46 : Int32)) hx hb dL_way_47 (by decide) ?_
    obtain ⟨hc_7, hf⟩ := aw_chk_some hf
    refine aw_ial hx hb G hc_7 dL_way_49 ?_
    refine lv_istore (lv' := [(7, .int (z_5.2.1 x0 ((46 : Int32)).toNatClampNeg)), (0, .ref (ad x0)), (1, .ref (ad x1)), (2, .int x2), (3, .ref (ad x3)), (4, .int x4), (5, .int x5), (6, .int x6)]) hx hb dL_way_50 hl (by decide) rfl (fun ls hl => ?_)
    refine lv_aload_n hx hb dL_way_52 rfl (lv_at hl 1 rfl) ?_
    refine lv_bipush (v := (46 : Int32)) hx hb dL_way_53 (by decide) ?_
    refine lv_iload hx hb dL_way_55 (lv_at hl 7 rfl) ?_
    refine aw_ias hx hb G hc_7 dL_way_57 (fun H locs G => ?_)
    refine lv_bipush (v := (47 : Int32)) hx hb dL_way_58 (by decide) ?_
    refine lv_istore (lv' := [(8, .int ((47 : Int32))), (7, .int (z_5.2.1 x0 ((46 : Int32)).toNatClampNeg)), (0, .ref (ad x0)), (1, .ref (ad x1)), (2, .int x2), (3, .ref (ad x3)), (4, .int x4), (5, .int x5), (6, .int x6)]) hx hb dL_way_60 hl (by decide) rfl (fun ls hl => ?_)
    refine w_L_way_L62 X aw_FU hf  (fun d_15 hf H locs ls hl G => ?_) (lv_sub hl [2, 3, 4, 5, 6, 7, 8, 1, 0] rfl) G
    refine lv_iinc (v := x6 + 1) (lv' := [(6, .int (x6 + 1)), (0, .ref (ad x0)), (1, .ref (ad x1)), (2, .int x2), (3, .ref (ad x3)), (4, .int x4), (5, .int x5)]) hx hb dL_way_172 hl (k := 6) rfl rfl (by decide) rfl (fun ls hl => ?_)
    refine lv_goto (tgt := 36) hx hb dL_way_175 (by decide) ?_
    exact hkb36 _ _ hf _ _ _ (lv_sub hl [1, 2, 3, 4, 5, 6, 0] rfl) G
theorem w_L_way_L36 {z : Int32 × Dt} (X : aw_X p c cL_way 10 s RL m meth (some .int)) {k36 : Dt → Option (Int32 × Dt)} {x0 : Nat} {x1 : Nat} {x2 : Int32} {x3 : Nat} {x4 : Int32} {x5 : Int32} (n : Nat) {x6 : Int32} {d : Dt} (hf : f_L_way_L36 σ n k36 x0 x1 x2 x3 x4 x5 x6 d = some z) (hk36 : ∀ (d : Dt), k36 d = some z → ∀ (H : Heap) (locs : List Loc) (ls : Array Slot), lv_has ls 10 [(0, .ref (ad x0)), (5, .int x5)] → aw_G D cA base ad σ d s H locs → W p l e rm_L_way s m args below meth c H locs 0 0 (aw_Ei D cA base ad σ below args s z) (F0 m 178 ls [])) {H : Heap} {locs : List Loc} {ls : Array Slot} (hl : lv_has ls 10 [(0, .ref (ad x0)), (1, .ref (ad x1)), (2, .int x2), (3, .ref (ad x3)), (4, .int x4), (5, .int x5), (6, .int x6)]) (G : aw_G D cA base ad σ d s H locs) : W p l e rm_L_way s m args below meth c H locs 0 0 (aw_Ei D cA base ad σ below args s z) (F0 m 36 ls []) := by
  induction n generalizing x6 d H locs ls with
  | zero => exact absurd (show (none : Option (Int32 × Dt)) = some z from hf) (by simp)
  | succ n ih => exact w_L_way_B36 X (kb36 := f_L_way_L36 σ n k36 x0 x1 x2 x3 x4 x5) hf  (fun x6 d hf H locs ls hl G => ih hf hl G) hk36 hl G
end W_L_way
set_option maxHeartbeats 4000000 in
set_option maxRecDepth 100000 in
theorem c_L_way (l : Launch) {σ : Sg} {x0 : Nat} {x1 : Nat} {x2 : Int32} {x3 : Nat} {x4 : Int32} {d : Dt} {z : Int32 × Dt} (hf : f_L_way σ x0 x1 x2 x3 x4 d = some z) : aw_Mi l yL_way (Cond.code yL_way cL_way 10 (some .int)) rm_L_way (fun ad => [.ref (ad x0), .ref (ad x1), .int x2, .ref (ad x3), .int x4]) σ d z := by
  intro D cA base ad
  refine aw_ofW (own := RL) (cc := cL_way) (nL := 10) (ret := some .int) (by decide) rfl rfl ?_
  intro p e s m below meth c X hnm G
  have hx := X.1; have hb := X.2.1; have hml := X.2.2.1; have hown := X.2.2.2.1
  refine aw_ls (lv := [(0, .ref (ad x0)), (1, .ref (ad x1)), (2, .int x2), (3, .ref (ad x3)), (4, .int x4)]) (Nat.le_of_ble_eq_true rfl) rfl (fun ls hl => ?_)
  unfold f_L_way at hf
  refine lv_aload_n hx hb dL_way_0 rfl (lv_at hl 3 rfl) ?_
  refine lv_iload hx hb dL_way_1 (lv_at hl 4 rfl) ?_
  obtain ⟨z_1, hz_2, hf⟩ := aw_bind_some hf
  refine aw_SI (As := [.ref (ad x3), .int x4]) (rest := []) X G hl.1 cr_L_93 (c_L_many l hz_2) ⟨rfl, rfl⟩ rfl rfl rfl ⟨Nat.le_of_ble_eq_true rfl, Nat.le_of_ble_eq_true rfl⟩ (Nat.le_of_ble_eq_true rfl) dL_way_3 ⟨Nat.zero_le _, Nat.zero_le _⟩ (fun H locs G => ?_)
  refine lv_istore (lv' := [(5, .int z_1.1), (0, .ref (ad x0)), (1, .ref (ad x1)), (2, .int x2), (3, .ref (ad x3)), (4, .int x4)]) hx hb dL_way_6 hl (by decide) rfl (fun ls hl => ?_)
  refine lv_iconst (v := (0 : Int32)) hx hb dL_way_8 (by decide) ?_
  refine lv_istore (lv' := [(6, .int ((0 : Int32))), (5, .int z_1.1), (0, .ref (ad x0)), (1, .ref (ad x1)), (2, .int x2), (3, .ref (ad x3)), (4, .int x4)]) hx hb dL_way_9 hl (by decide) rfl (fun ls hl => ?_)
  refine w_L_way_L11 X aw_FU hf  (fun d_4 hf H locs ls hl G => ?_) (lv_sub hl [2, 3, 4, 5, 6, 1, 0] rfl) G
  refine lv_iconst (v := (1 : Int32)) hx hb dL_way_33 (by decide) ?_
  refine lv_istore (lv' := [(6, .int ((1 : Int32))), (0, .ref (ad x0)), (1, .ref (ad x1)), (2, .int x2), (3, .ref (ad x3)), (4, .int x4), (5, .int z_1.1)]) hx hb dL_way_34 hl (by decide) rfl (fun ls hl => ?_)
  refine w_L_way_L36 X aw_FU hf  (fun d_16 hf H locs ls hl G => ?_) (lv_sub hl [1, 2, 3, 4, 5, 6, 0] rfl) G
  refine lv_aload_n hx hb dL_way_178 rfl (lv_at hl 0 rfl) ?_
  refine lv_bipush (v := (46 : Int32)) hx hb dL_way_179 (by decide) ?_
  refine lv_iload hx hb dL_way_181 (lv_at hl 1 rfl) ?_
  refine lv_iadd hx hb dL_way_183 ?_
  obtain ⟨hc_17, hf⟩ := aw_chk_some hf
  refine aw_ial hx hb G hc_17 dL_way_184 ?_
  exact aw_reti X G hf dL_way_185
def rm_L_score : Room := { frames := 3, cells := 0, slots := 0, locals := 83 }
def f_L_score_B81 (σ : Sg) (kb81 : Int32 → Int32 → Dt → Option (Int32 × Dt)) (k81 : Int32 → Dt → Option (Int32 × Dt)) (x1 : Nat) (x4 : Nat) (x5 : Nat) (x6 : Nat) (x7 : Int32) (x8 : Nat) (x9 : Nat) (x11 : Int32) (x12 : Int32) (x10 : Int32) (x13 : Int32) (d : Dt) : Option (Int32 × Dt) :=
  (f_L_many σ x8 x12 d).bind (fun z_9 => if z_9.1 ≤ x13 then k81 x10 z_9.2 else aw_chk (aw_I σ 20 x1 (((8 : Int32)) + x12)) ((f_L_sign σ x8 x12 x13 z_9.2).bind (fun z_12 => aw_chk (aw_I σ 20 x4 z_12.1) ((f_L_length σ (z_12.2.1 x4 z_12.1.toNatClampNeg) z_12.2).bind (fun z_15 => kb81 (x10 + ((z_9.2.1 x1 (((8 : Int32)) + x12).toNatClampNeg) * z_15.1)) (x13 + 1) z_15.2)))))
def f_L_score_L81 (σ : Sg) (n : Nat) (k81 : Int32 → Dt → Option (Int32 × Dt)) (x1 : Nat) (x4 : Nat) (x5 : Nat) (x6 : Nat) (x7 : Int32) (x8 : Nat) (x9 : Nat) (x11 : Int32) (x12 : Int32) : Int32 → Int32 → Dt → Option (Int32 × Dt) := match n with
  | 0 => fun _ _ _ => none
  | n + 1 => fun x10 x13 d => f_L_score_B81 σ (f_L_score_L81 σ n k81 x1 x4 x5 x6 x7 x8 x9 x11 x12) k81 x1 x4 x5 x6 x7 x8 x9 x11 x12 x10 x13 d
def f_L_score_B57 (σ : Sg) (kb57 : Int32 → Int32 → Int32 → Dt → Option (Int32 × Dt)) (k57 : Int32 → Int32 → Dt → Option (Int32 × Dt)) (x1 : Nat) (x4 : Nat) (x5 : Nat) (x6 : Nat) (x7 : Int32) (x8 : Nat) (x9 : Nat) (x10 : Int32) (x11 : Int32) (x12 : Int32) (d : Dt) : Option (Int32 × Dt) :=
  aw_chk (aw_I σ 20 x6 ((0 : Int32))) (if (d.1 x6 ((0 : Int32)).toNatClampNeg) ≤ x12 then k57 x10 x11 d else aw_chk (aw_I σ 20 x1 (((8 : Int32)) + x12)) (f_L_score_L81 σ aw_FU (fun x10_17 d_18 => kb57 x10_17 (x11 + (d.1 x1 (((8 : Int32)) + x12).toNatClampNeg)) (x12 + 1) d_18) x1 x4 x5 x6 x7 x8 x9 (x11 + (d.1 x1 (((8 : Int32)) + x12).toNatClampNeg)) x12 x10 ((0 : Int32)) d))
def f_L_score_L57 (σ : Sg) (n : Nat) (k57 : Int32 → Int32 → Dt → Option (Int32 × Dt)) (x1 : Nat) (x4 : Nat) (x5 : Nat) (x6 : Nat) (x7 : Int32) (x8 : Nat) (x9 : Nat) : Int32 → Int32 → Int32 → Dt → Option (Int32 × Dt) := match n with
  | 0 => fun _ _ _ _ => none
  | n + 1 => fun x10 x11 x12 d => f_L_score_B57 σ (f_L_score_L57 σ n k57 x1 x4 x5 x6 x7 x8 x9) k57 x1 x4 x5 x6 x7 x8 x9 x10 x11 x12 d
def f_L_score_J23 (σ : Sg) (t5 : Int32) (t4 : Nat) (t3 : Nat) (t2 : Nat) (t1 : Nat) (t0 : Nat) (x0 : Nat) (x1 : Nat) (x2 : Nat) (x3 : Nat) (x4 : Nat) (x5 : Nat) (x6 : Nat) (x7 : Int32) (x8 : Nat) (x9 : Nat) (d : Dt) : Option (Int32 × Dt) :=
  (f_L_spellsAll σ t0 t1 t2 t3 t4 t5 x8 d).bind (fun z_2 => aw_chk (aw_I σ 20 x5 ((((3 : Int32)) * x7) + ((2 : Int32)))) ((f_L_spellsAll σ x0 x1 x2 x3 x6 (z_2.2.1 x5 ((((3 : Int32)) * x7) + ((2 : Int32))).toNatClampNeg) x9 z_2.2).bind (fun z_5 => f_L_score_L57 σ aw_FU (fun x10_19 x11_20 d_21 => aw_chk (aw_I σ 20 x5 ((((3 : Int32)) * x7) + ((1 : Int32)))) ((f_L_load σ x8 x1 x6 d_21).bind (fun z_23 => (f_L_fit σ x8 x9 x1 x6 z_23.2).bind (fun z_25 => some (((z_23.1 * ((d_21.1 x5 ((((3 : Int32)) * x7) + ((1 : Int32))).toNatClampNeg) / (100 : Int32))) + ((x10_19 / (100 : Int32)) * (((d_21.1 x5 ((((3 : Int32)) * x7) + ((1 : Int32))).toNatClampNeg) - (d_21.1 x5 ((((3 : Int32)) * x7) + ((1 : Int32))).toNatClampNeg) / (100 : Int32) * (100 : Int32)) / (10 : Int32)))) + ((x11_20 - z_25.1) * ((d_21.1 x5 ((((3 : Int32)) * x7) + ((1 : Int32))).toNatClampNeg) - (d_21.1 x5 ((((3 : Int32)) * x7) + ((1 : Int32))).toNatClampNeg) / (10 : Int32) * (10 : Int32))), z_25.2))))) x1 x4 x5 x6 x7 x8 x9 ((0 : Int32)) ((0 : Int32)) ((0 : Int32)) z_5.2)))
def f_L_score (σ : Sg) (x0 : Nat) (x1 : Nat) (x2 : Nat) (x3 : Nat) (x4 : Nat) (x5 : Nat) (x6 : Nat) (x7 : Int32) (x8 : Nat) (x9 : Nat) (d : Dt) : Option (Int32 × Dt) :=
  aw_chk (aw_I σ 20 x3 ((48 : Int32))) (if (d.1 x3 ((48 : Int32)).toNatClampNeg) = 0 then f_L_score_J23 σ ((3 : Int32)) x6 x3 x2 x1 x0 x0 x1 x2 x3 x4 x5 x6 x7 x8 x9 d else f_L_score_J23 σ ((d.1 x3 ((48 : Int32)).toNatClampNeg) - ((1 : Int32))) x6 x3 x2 x1 x0 x0 x1 x2 x3 x4 x5 x6 x7 x8 x9 d)
section W_L_score
variable {p : Program} {l : Launch} {e : Env} {s : State} {m : MethodId} {args : Array Value} {below : List Frame} {meth : Method} {c : Code}
variable {D : va_G} {cA : Nat → ClassId} {base : Nat} {ad : Nat → Nat} {σ : Sg}
set_option maxHeartbeats 4000000 in
set_option maxRecDepth 100000 in
theorem w_L_score_B81 {z : Int32 × Dt} (X : aw_X p c cL_score 14 s RL m meth (some .int)) {kb81 : Int32 → Int32 → Dt → Option (Int32 × Dt)} {k81 : Int32 → Dt → Option (Int32 × Dt)} {x1 : Nat} {x4 : Nat} {x5 : Nat} {x6 : Nat} {x7 : Int32} {x8 : Nat} {x9 : Nat} {x11 : Int32} {x12 : Int32} {x10 : Int32} {x13 : Int32} {d : Dt} (hf : f_L_score_B81 σ kb81 k81 x1 x4 x5 x6 x7 x8 x9 x11 x12 x10 x13 d = some z) (hkb81 : ∀ (y10 : Int32) (y13 : Int32) (d : Dt), kb81 y10 y13 d = some z → ∀ (H : Heap) (locs : List Loc) (ls : Array Slot), lv_has ls 14 [(1, .ref (ad x1)), (4, .ref (ad x4)), (5, .ref (ad x5)), (6, .ref (ad x6)), (7, .int x7), (8, .ref (ad x8)), (9, .ref (ad x9)), (10, .int y10), (11, .int x11), (12, .int x12), (13, .int y13)] → aw_G D cA base ad σ d s H locs → W p l e rm_L_score s m args below meth c H locs 0 0 (aw_Ei D cA base ad σ below args s z) (F0 m 81 ls [])) (hk81 : ∀ (y10 : Int32) (d : Dt), k81 y10 d = some z → ∀ (H : Heap) (locs : List Loc) (ls : Array Slot), lv_has ls 14 [(1, .ref (ad x1)), (4, .ref (ad x4)), (5, .ref (ad x5)), (6, .ref (ad x6)), (7, .int x7), (8, .ref (ad x8)), (9, .ref (ad x9)), (10, .int y10), (11, .int x11), (12, .int x12)] → aw_G D cA base ad σ d s H locs → W p l e rm_L_score s m args below meth c H locs 0 0 (aw_Ei D cA base ad σ below args s z) (F0 m 127 ls [])) {H : Heap} {locs : List Loc} {ls : Array Slot} (hl : lv_has ls 14 [(1, .ref (ad x1)), (4, .ref (ad x4)), (5, .ref (ad x5)), (6, .ref (ad x6)), (7, .int x7), (8, .ref (ad x8)), (9, .ref (ad x9)), (10, .int x10), (11, .int x11), (12, .int x12), (13, .int x13)]) (G : aw_G D cA base ad σ d s H locs) : W p l e rm_L_score s m args below meth c H locs 0 0 (aw_Ei D cA base ad σ below args s z) (F0 m 81 ls []) := by
  have hx := X.1; have hb := X.2.1; have hml := X.2.2.1; have hown := X.2.2.2.1
  unfold f_L_score_B81 at hf
  refine lv_iload hx hb dL_score_81 (lv_at hl 10 rfl) ?_
  refine lv_aload hx hb dL_score_83 (lv_at hl 5 rfl) ?_
  refine lv_iload hx hb dL_score_85 (lv_at hl 9 rfl) ?_
  obtain ⟨z_9, hz_10, hf⟩ := aw_bind_some hf
  refine aw_SI (As := [.ref (ad x8), .int x12]) (rest := [.int x13]) X G hl.1 cr_L_93 (c_L_many l hz_10) ⟨rfl, rfl⟩ rfl rfl rfl ⟨Nat.le_of_ble_eq_true rfl, Nat.le_of_ble_eq_true rfl⟩ (Nat.le_of_ble_eq_true rfl) dL_score_87 ⟨Nat.zero_le _, Nat.zero_le _⟩ (fun H locs G => ?_)
  refine lv_icmp_ge (tgt := 127) hx hb dL_score_90 (by decide) (fun hc => ?_) (fun hc => ?_)
  · have hf := aw_ite_t hc hf
    exact hk81 _ _ hf _ _ _ (lv_sub hl [0, 1, 2, 3, 4, 5, 6, 7, 8, 9] rfl) G
  · have hf := aw_ite_f hc hf
    refine lv_iload hx hb dL_score_93 (lv_at hl 7 rfl) ?_
    refine lv_aload_n hx hb dL_score_95 rfl (lv_at hl 0 rfl) ?_
    refine lv_bipush (v := (8 : Int32)) hx hb dL_score_96 (by decide) ?_
    refine lv_iload hx hb dL_score_98 (lv_at hl 9 rfl) ?_
    refine lv_iadd hx hb dL_score_100 ?_
    obtain ⟨hc_11, hf⟩ := aw_chk_some hf
    refine aw_ial hx hb G hc_11 dL_score_101 ?_
    refine lv_aload hx hb dL_score_102 (lv_at hl 1 rfl) ?_
    refine lv_aload hx hb dL_score_104 (lv_at hl 5 rfl) ?_
    refine lv_iload hx hb dL_score_106 (lv_at hl 9 rfl) ?_
    refine lv_iload hx hb dL_score_108 (lv_at hl 10 rfl) ?_
    obtain ⟨z_12, hz_13, hf⟩ := aw_bind_some hf
    refine aw_SI (As := [.ref (ad x8), .int x12, .int x13]) (rest := [.ref (ad x4), .int (z_9.2.1 x1 (((8 : Int32)) + x12).toNatClampNeg), .int x10]) X G hl.1 cr_L_85 (c_L_sign l hz_13) ⟨rfl, rfl⟩ rfl rfl rfl ⟨Nat.le_of_ble_eq_true rfl, Nat.le_of_ble_eq_true rfl⟩ (Nat.le_of_ble_eq_true rfl) dL_score_110 ⟨Nat.zero_le _, Nat.zero_le _⟩ (fun H locs G => ?_)
    obtain ⟨hc_14, hf⟩ := aw_chk_some hf
    refine aw_ial hx hb G hc_14 dL_score_113 ?_
    obtain ⟨z_15, hz_16, hf⟩ := aw_bind_some hf
    refine aw_SI (As := [.int (z_12.2.1 x4 z_12.1.toNatClampNeg)]) (rest := [.int (z_9.2.1 x1 (((8 : Int32)) + x12).toNatClampNeg), .int x10]) X G hl.1 cr_L_101 (c_L_length l hz_16) ⟨rfl, rfl⟩ rfl rfl rfl ⟨Nat.le_of_ble_eq_true rfl, Nat.le_of_ble_eq_true rfl⟩ (Nat.le_of_ble_eq_true rfl) dL_score_114 ⟨Nat.zero_le _, Nat.zero_le _⟩ (fun H locs G => ?_)
    refine lv_imul hx hb dL_score_117 ?_
    refine lv_iadd hx hb dL_score_118 ?_
    refine lv_istore (lv' := [(10, .int (x10 + ((z_9.2.1 x1 (((8 : Int32)) + x12).toNatClampNeg) * z_15.1))), (1, .ref (ad x1)), (4, .ref (ad x4)), (5, .ref (ad x5)), (6, .ref (ad x6)), (7, .int x7), (8, .ref (ad x8)), (9, .ref (ad x9)), (11, .int x11), (12, .int x12), (13, .int x13)]) hx hb dL_score_119 hl (by decide) rfl (fun ls hl => ?_)
    refine lv_iinc (v := x13 + 1) (lv' := [(13, .int (x13 + 1)), (10, .int (x10 + ((z_9.2.1 x1 (((8 : Int32)) + x12).toNatClampNeg) * z_15.1))), (1, .ref (ad x1)), (4, .ref (ad x4)), (5, .ref (ad x5)), (6, .ref (ad x6)), (7, .int x7), (8, .ref (ad x8)), (9, .ref (ad x9)), (11, .int x11), (12, .int x12)]) hx hb dL_score_121 hl (k := 10) rfl rfl (by decide) rfl (fun ls hl => ?_)
    refine lv_goto (tgt := 81) hx hb dL_score_124 (by decide) ?_
    exact hkb81 _ _ _ hf _ _ _ (lv_sub hl [2, 3, 4, 5, 6, 7, 8, 1, 9, 10, 0] rfl) G
theorem w_L_score_L81 {z : Int32 × Dt} (X : aw_X p c cL_score 14 s RL m meth (some .int)) {k81 : Int32 → Dt → Option (Int32 × Dt)} {x1 : Nat} {x4 : Nat} {x5 : Nat} {x6 : Nat} {x7 : Int32} {x8 : Nat} {x9 : Nat} {x11 : Int32} {x12 : Int32} (n : Nat) {x10 : Int32} {x13 : Int32} {d : Dt} (hf : f_L_score_L81 σ n k81 x1 x4 x5 x6 x7 x8 x9 x11 x12 x10 x13 d = some z) (hk81 : ∀ (y10 : Int32) (d : Dt), k81 y10 d = some z → ∀ (H : Heap) (locs : List Loc) (ls : Array Slot), lv_has ls 14 [(1, .ref (ad x1)), (4, .ref (ad x4)), (5, .ref (ad x5)), (6, .ref (ad x6)), (7, .int x7), (8, .ref (ad x8)), (9, .ref (ad x9)), (10, .int y10), (11, .int x11), (12, .int x12)] → aw_G D cA base ad σ d s H locs → W p l e rm_L_score s m args below meth c H locs 0 0 (aw_Ei D cA base ad σ below args s z) (F0 m 127 ls [])) {H : Heap} {locs : List Loc} {ls : Array Slot} (hl : lv_has ls 14 [(1, .ref (ad x1)), (4, .ref (ad x4)), (5, .ref (ad x5)), (6, .ref (ad x6)), (7, .int x7), (8, .ref (ad x8)), (9, .ref (ad x9)), (10, .int x10), (11, .int x11), (12, .int x12), (13, .int x13)]) (G : aw_G D cA base ad σ d s H locs) : W p l e rm_L_score s m args below meth c H locs 0 0 (aw_Ei D cA base ad σ below args s z) (F0 m 81 ls []) := by
  induction n generalizing x10 x13 d H locs ls with
  | zero => exact absurd (show (none : Option (Int32 × Dt)) = some z from hf) (by simp)
  | succ n ih => exact w_L_score_B81 X (kb81 := f_L_score_L81 σ n k81 x1 x4 x5 x6 x7 x8 x9 x11 x12) hf  (fun x10 x13 d hf H locs ls hl G => ih hf hl G) hk81 hl G
set_option maxHeartbeats 4000000 in
set_option maxRecDepth 100000 in
theorem w_L_score_B57 {z : Int32 × Dt} (X : aw_X p c cL_score 14 s RL m meth (some .int)) {kb57 : Int32 → Int32 → Int32 → Dt → Option (Int32 × Dt)} {k57 : Int32 → Int32 → Dt → Option (Int32 × Dt)} {x1 : Nat} {x4 : Nat} {x5 : Nat} {x6 : Nat} {x7 : Int32} {x8 : Nat} {x9 : Nat} {x10 : Int32} {x11 : Int32} {x12 : Int32} {d : Dt} (hf : f_L_score_B57 σ kb57 k57 x1 x4 x5 x6 x7 x8 x9 x10 x11 x12 d = some z) (hkb57 : ∀ (y10 : Int32) (y11 : Int32) (y12 : Int32) (d : Dt), kb57 y10 y11 y12 d = some z → ∀ (H : Heap) (locs : List Loc) (ls : Array Slot), lv_has ls 14 [(1, .ref (ad x1)), (4, .ref (ad x4)), (5, .ref (ad x5)), (6, .ref (ad x6)), (7, .int x7), (8, .ref (ad x8)), (9, .ref (ad x9)), (10, .int y10), (11, .int y11), (12, .int y12)] → aw_G D cA base ad σ d s H locs → W p l e rm_L_score s m args below meth c H locs 0 0 (aw_Ei D cA base ad σ below args s z) (F0 m 57 ls [])) (hk57 : ∀ (y10 : Int32) (y11 : Int32) (d : Dt), k57 y10 y11 d = some z → ∀ (H : Heap) (locs : List Loc) (ls : Array Slot), lv_has ls 14 [(1, .ref (ad x1)), (5, .ref (ad x5)), (6, .ref (ad x6)), (7, .int x7), (8, .ref (ad x8)), (9, .ref (ad x9)), (10, .int y10), (11, .int y11)] → aw_G D cA base ad σ d s H locs → W p l e rm_L_score s m args below meth c H locs 0 0 (aw_Ei D cA base ad σ below args s z) (F0 m 133 ls [])) {H : Heap} {locs : List Loc} {ls : Array Slot} (hl : lv_has ls 14 [(1, .ref (ad x1)), (4, .ref (ad x4)), (5, .ref (ad x5)), (6, .ref (ad x6)), (7, .int x7), (8, .ref (ad x8)), (9, .ref (ad x9)), (10, .int x10), (11, .int x11), (12, .int x12)]) (G : aw_G D cA base ad σ d s H locs) : W p l e rm_L_score s m args below meth c H locs 0 0 (aw_Ei D cA base ad σ below args s z) (F0 m 57 ls []) := by
  have hx := X.1; have hb := X.2.1; have hml := X.2.2.1; have hown := X.2.2.2.1
  unfold f_L_score_B57 at hf
  refine lv_iload hx hb dL_score_57 (lv_at hl 9 rfl) ?_
  refine lv_aload hx hb dL_score_59 (lv_at hl 3 rfl) ?_
  refine lv_iconst (v := (0 : Int32)) hx hb dL_score_61 (by decide) ?_
  obtain ⟨hc_7, hf⟩ := aw_chk_some hf
  refine aw_ial hx hb G hc_7 dL_score_62 ?_
  refine lv_icmp_ge (tgt := 133) hx hb dL_score_63 (by decide) (fun hc => ?_) (fun hc => ?_)
  · have hf := aw_ite_t hc hf
    exact hk57 _ _ _ hf _ _ _ (lv_sub hl [0, 2, 3, 4, 5, 6, 7, 8] rfl) G
  · have hf := aw_ite_f hc hf
    refine lv_iload hx hb dL_score_66 (lv_at hl 8 rfl) ?_
    refine lv_aload_n hx hb dL_score_68 rfl (lv_at hl 0 rfl) ?_
    refine lv_bipush (v := (8 : Int32)) hx hb dL_score_69 (by decide) ?_
    refine lv_iload hx hb dL_score_71 (lv_at hl 9 rfl) ?_
    refine lv_iadd hx hb dL_score_73 ?_
    obtain ⟨hc_8, hf⟩ := aw_chk_some hf
    refine aw_ial hx hb G hc_8 dL_score_74 ?_
    refine lv_iadd hx hb dL_score_75 ?_
    refine lv_istore (lv' := [(11, .int (x11 + (d.1 x1 (((8 : Int32)) + x12).toNatClampNeg))), (1, .ref (ad x1)), (4, .ref (ad x4)), (5, .ref (ad x5)), (6, .ref (ad x6)), (7, .int x7), (8, .ref (ad x8)), (9, .ref (ad x9)), (10, .int x10), (12, .int x12)]) hx hb dL_score_76 hl (by decide) rfl (fun ls hl => ?_)
    refine lv_iconst (v := (0 : Int32)) hx hb dL_score_78 (by decide) ?_
    refine lv_istore (lv' := [(13, .int ((0 : Int32))), (11, .int (x11 + (d.1 x1 (((8 : Int32)) + x12).toNatClampNeg))), (1, .ref (ad x1)), (4, .ref (ad x4)), (5, .ref (ad x5)), (6, .ref (ad x6)), (7, .int x7), (8, .ref (ad x8)), (9, .ref (ad x9)), (10, .int x10), (12, .int x12)]) hx hb dL_score_79 hl (by decide) rfl (fun ls hl => ?_)
    refine w_L_score_L81 X aw_FU hf  (fun x10_17 d_18 hf H locs ls hl G => ?_) (lv_sub hl [2, 3, 4, 5, 6, 7, 8, 9, 1, 10, 0] rfl) G
    refine lv_iinc (v := x12 + 1) (lv' := [(12, .int (x12 + 1)), (1, .ref (ad x1)), (4, .ref (ad x4)), (5, .ref (ad x5)), (6, .ref (ad x6)), (7, .int x7), (8, .ref (ad x8)), (9, .ref (ad x9)), (10, .int x10_17), (11, .int (x11 + (d.1 x1 (((8 : Int32)) + x12).toNatClampNeg)))]) hx hb dL_score_127 hl (k := 9) rfl rfl (by decide) rfl (fun ls hl => ?_)
    refine lv_goto (tgt := 57) hx hb dL_score_130 (by decide) ?_
    exact hkb57 _ _ _ _ hf _ _ _ (lv_sub hl [1, 2, 3, 4, 5, 6, 7, 8, 9, 0] rfl) G
theorem w_L_score_L57 {z : Int32 × Dt} (X : aw_X p c cL_score 14 s RL m meth (some .int)) {k57 : Int32 → Int32 → Dt → Option (Int32 × Dt)} {x1 : Nat} {x4 : Nat} {x5 : Nat} {x6 : Nat} {x7 : Int32} {x8 : Nat} {x9 : Nat} (n : Nat) {x10 : Int32} {x11 : Int32} {x12 : Int32} {d : Dt} (hf : f_L_score_L57 σ n k57 x1 x4 x5 x6 x7 x8 x9 x10 x11 x12 d = some z) (hk57 : ∀ (y10 : Int32) (y11 : Int32) (d : Dt), k57 y10 y11 d = some z → ∀ (H : Heap) (locs : List Loc) (ls : Array Slot), lv_has ls 14 [(1, .ref (ad x1)), (5, .ref (ad x5)), (6, .ref (ad x6)), (7, .int x7), (8, .ref (ad x8)), (9, .ref (ad x9)), (10, .int y10), (11, .int y11)] → aw_G D cA base ad σ d s H locs → W p l e rm_L_score s m args below meth c H locs 0 0 (aw_Ei D cA base ad σ below args s z) (F0 m 133 ls [])) {H : Heap} {locs : List Loc} {ls : Array Slot} (hl : lv_has ls 14 [(1, .ref (ad x1)), (4, .ref (ad x4)), (5, .ref (ad x5)), (6, .ref (ad x6)), (7, .int x7), (8, .ref (ad x8)), (9, .ref (ad x9)), (10, .int x10), (11, .int x11), (12, .int x12)]) (G : aw_G D cA base ad σ d s H locs) : W p l e rm_L_score s m args below meth c H locs 0 0 (aw_Ei D cA base ad σ below args s z) (F0 m 57 ls []) := by
  induction n generalizing x10 x11 x12 d H locs ls with
  | zero => exact absurd (show (none : Option (Int32 × Dt)) = some z from hf) (by simp)
  | succ n ih => exact w_L_score_B57 X (kb57 := f_L_score_L57 σ n k57 x1 x4 x5 x6 x7 x8 x9) hf  (fun x10 x11 x12 d hf H locs ls hl G => ih hf hl G) hk57 hl G
set_option maxHeartbeats 4000000 in
set_option maxRecDepth 100000 in
theorem w_L_score_J23 {z : Int32 × Dt} (X : aw_X p c cL_score 14 s RL m meth (some .int)) {t5 : Int32} {t4 : Nat} {t3 : Nat} {t2 : Nat} {t1 : Nat} {t0 : Nat} {x0 : Nat} {x1 : Nat} {x2 : Nat} {x3 : Nat} {x4 : Nat} {x5 : Nat} {x6 : Nat} {x7 : Int32} {x8 : Nat} {x9 : Nat} {d : Dt} (hf : f_L_score_J23 σ t5 t4 t3 t2 t1 t0 x0 x1 x2 x3 x4 x5 x6 x7 x8 x9 d = some z)  {H : Heap} {locs : List Loc} {ls : Array Slot} (hl : lv_has ls 14 [(0, .ref (ad x0)), (1, .ref (ad x1)), (2, .ref (ad x2)), (3, .ref (ad x3)), (4, .ref (ad x4)), (5, .ref (ad x5)), (6, .ref (ad x6)), (7, .int x7), (8, .ref (ad x8)), (9, .ref (ad x9))]) (G : aw_G D cA base ad σ d s H locs) : W p l e rm_L_score s m args below meth c H locs 0 0 (aw_Ei D cA base ad σ below args s z) (F0 m 23 ls [.int t5, .ref (ad t4), .ref (ad t3), .ref (ad t2), .ref (ad t1), .ref (ad t0)]) := by
  have hx := X.1; have hb := X.2.1; have hml := X.2.2.1; have hown := X.2.2.2.1
  unfold f_L_score_J23 at hf
  refine lv_aload hx hb dL_score_23 (lv_at hl 8 rfl) ?_
  obtain ⟨z_2, hz_3, hf⟩ := aw_bind_some hf
  refine aw_SV (As := [.ref (ad t0), .ref (ad t1), .ref (ad t2), .ref (ad t3), .ref (ad t4), .int t5, .ref (ad x8)]) (rest := []) X G hl.1 cr_L_130 (c_L_spellsAll l hz_3) ⟨rfl, rfl⟩ rfl rfl rfl ⟨Nat.le_of_ble_eq_true rfl, Nat.le_of_ble_eq_true rfl⟩ (Nat.le_of_ble_eq_true rfl) dL_score_25 ⟨Nat.zero_le _, Nat.zero_le _⟩ (fun H locs G => ?_)
  refine lv_aload_n hx hb dL_score_28 rfl (lv_at hl 0 rfl) ?_
  refine lv_aload_n hx hb dL_score_29 rfl (lv_at hl 1 rfl) ?_
  refine lv_aload_n hx hb dL_score_30 rfl (lv_at hl 2 rfl) ?_
  refine lv_aload_n hx hb dL_score_31 rfl (lv_at hl 3 rfl) ?_
  refine lv_aload hx hb dL_score_32 (lv_at hl 6 rfl) ?_
  refine lv_aload hx hb dL_score_34 (lv_at hl 5 rfl) ?_
  refine lv_iconst (v := (3 : Int32)) hx hb dL_score_36 (by decide) ?_
  refine lv_iload hx hb dL_score_37 (lv_at hl 7 rfl) ?_
  refine lv_imul hx hb dL_score_39 ?_
  refine lv_iconst (v := (2 : Int32)) hx hb dL_score_40 (by decide) ?_
  refine lv_iadd hx hb dL_score_41 ?_
  obtain ⟨hc_4, hf⟩ := aw_chk_some hf
  refine aw_ial hx hb G hc_4 dL_score_42 ?_
  refine lv_aload hx hb dL_score_43 (lv_at hl 9 rfl) ?_
  obtain ⟨z_5, hz_6, hf⟩ := aw_bind_some hf
  refine aw_SV (As := [.ref (ad x0), .ref (ad x1), .ref (ad x2), .ref (ad x3), .ref (ad x6), .int (z_2.2.1 x5 ((((3 : Int32)) * x7) + ((2 : Int32))).toNatClampNeg), .ref (ad x9)]) (rest := []) X G hl.1 cr_L_130 (c_L_spellsAll l hz_6) ⟨rfl, rfl⟩ rfl rfl rfl ⟨Nat.le_of_ble_eq_true rfl, Nat.le_of_ble_eq_true rfl⟩ (Nat.le_of_ble_eq_true rfl) dL_score_45 ⟨Nat.zero_le _, Nat.zero_le _⟩ (fun H locs G => ?_)
  refine lv_iconst (v := (0 : Int32)) hx hb dL_score_48 (by decide) ?_
  refine lv_istore (lv' := [(10, .int ((0 : Int32))), (0, .ref (ad x0)), (1, .ref (ad x1)), (2, .ref (ad x2)), (3, .ref (ad x3)), (4, .ref (ad x4)), (5, .ref (ad x5)), (6, .ref (ad x6)), (7, .int x7), (8, .ref (ad x8)), (9, .ref (ad x9))]) hx hb dL_score_49 hl (by decide) rfl (fun ls hl => ?_)
  refine lv_iconst (v := (0 : Int32)) hx hb dL_score_51 (by decide) ?_
  refine lv_istore (lv' := [(11, .int ((0 : Int32))), (10, .int ((0 : Int32))), (0, .ref (ad x0)), (1, .ref (ad x1)), (2, .ref (ad x2)), (3, .ref (ad x3)), (4, .ref (ad x4)), (5, .ref (ad x5)), (6, .ref (ad x6)), (7, .int x7), (8, .ref (ad x8)), (9, .ref (ad x9))]) hx hb dL_score_52 hl (by decide) rfl (fun ls hl => ?_)
  refine lv_iconst (v := (0 : Int32)) hx hb dL_score_54 (by decide) ?_
  refine lv_istore (lv' := [(12, .int ((0 : Int32))), (11, .int ((0 : Int32))), (10, .int ((0 : Int32))), (0, .ref (ad x0)), (1, .ref (ad x1)), (2, .ref (ad x2)), (3, .ref (ad x3)), (4, .ref (ad x4)), (5, .ref (ad x5)), (6, .ref (ad x6)), (7, .int x7), (8, .ref (ad x8)), (9, .ref (ad x9))]) hx hb dL_score_55 hl (by decide) rfl (fun ls hl => ?_)
  refine w_L_score_L57 X aw_FU hf  (fun x10_19 x11_20 d_21 hf H locs ls hl G => ?_) (lv_sub hl [4, 7, 8, 9, 10, 11, 12, 2, 1, 0] rfl) G
  refine lv_aload hx hb dL_score_133 (lv_at hl 1 rfl) ?_
  refine lv_iconst (v := (3 : Int32)) hx hb dL_score_135 (by decide) ?_
  refine lv_iload hx hb dL_score_136 (lv_at hl 3 rfl) ?_
  refine lv_imul hx hb dL_score_138 ?_
  refine lv_iconst (v := (1 : Int32)) hx hb dL_score_139 (by decide) ?_
  refine lv_iadd hx hb dL_score_140 ?_
  obtain ⟨hc_22, hf⟩ := aw_chk_some hf
  refine aw_ial hx hb G hc_22 dL_score_141 ?_
  refine lv_istore (lv' := [(12, .int (d_21.1 x5 ((((3 : Int32)) * x7) + ((1 : Int32))).toNatClampNeg)), (1, .ref (ad x1)), (5, .ref (ad x5)), (6, .ref (ad x6)), (7, .int x7), (8, .ref (ad x8)), (9, .ref (ad x9)), (10, .int x10_19), (11, .int x11_20)]) hx hb dL_score_142 hl (by decide) rfl (fun ls hl => ?_)
  refine lv_aload hx hb dL_score_144 (lv_at hl 5 rfl) ?_
  refine lv_aload_n hx hb dL_score_146 rfl (lv_at hl 1 rfl) ?_
  refine lv_aload hx hb dL_score_147 (lv_at hl 3 rfl) ?_
  obtain ⟨z_23, hz_24, hf⟩ := aw_bind_some hf
  refine aw_SI (As := [.ref (ad x8), .ref (ad x1), .ref (ad x6)]) (rest := []) X G hl.1 cr_L_134 (c_L_load l hz_24) ⟨rfl, rfl⟩ rfl rfl rfl ⟨Nat.le_of_ble_eq_true rfl, Nat.le_of_ble_eq_true rfl⟩ (Nat.le_of_ble_eq_true rfl) dL_score_149 ⟨Nat.zero_le _, Nat.zero_le _⟩ (fun H locs G => ?_)
  refine lv_iload hx hb dL_score_152 (lv_at hl 0 rfl) ?_
  refine lv_bipush (v := (100 : Int32)) hx hb dL_score_154 (by decide) ?_
  refine lv_idiv hx hb dL_score_156 (by decide) ?_
  refine lv_imul hx hb dL_score_157 ?_
  refine lv_iload hx hb dL_score_158 (lv_at hl 7 rfl) ?_
  refine lv_bipush (v := (100 : Int32)) hx hb dL_score_160 (by decide) ?_
  refine lv_idiv hx hb dL_score_162 (by decide) ?_
  refine lv_iload hx hb dL_score_163 (lv_at hl 0 rfl) ?_
  refine lv_bipush (v := (100 : Int32)) hx hb dL_score_165 (by decide) ?_
  refine lv_irem hx hb dL_score_167 (by decide) ?_
  refine lv_bipush (v := (10 : Int32)) hx hb dL_score_168 (by decide) ?_
  refine lv_idiv hx hb dL_score_170 (by decide) ?_
  refine lv_imul hx hb dL_score_171 ?_
  refine lv_iadd hx hb dL_score_172 ?_
  refine lv_iload hx hb dL_score_173 (lv_at hl 8 rfl) ?_
  refine lv_aload hx hb dL_score_175 (lv_at hl 5 rfl) ?_
  refine lv_aload hx hb dL_score_177 (lv_at hl 6 rfl) ?_
  refine lv_aload_n hx hb dL_score_179 rfl (lv_at hl 1 rfl) ?_
  refine lv_aload hx hb dL_score_180 (lv_at hl 3 rfl) ?_
  obtain ⟨z_25, hz_26, hf⟩ := aw_bind_some hf
  refine aw_SI (As := [.ref (ad x8), .ref (ad x9), .ref (ad x1), .ref (ad x6)]) (rest := [.int x11_20, .int ((z_23.1 * ((d_21.1 x5 ((((3 : Int32)) * x7) + ((1 : Int32))).toNatClampNeg) / (100 : Int32))) + ((x10_19 / (100 : Int32)) * (((d_21.1 x5 ((((3 : Int32)) * x7) + ((1 : Int32))).toNatClampNeg) - (d_21.1 x5 ((((3 : Int32)) * x7) + ((1 : Int32))).toNatClampNeg) / (100 : Int32) * (100 : Int32)) / (10 : Int32))))]) X G hl.1 cr_L_138 (c_L_fit l hz_26) ⟨rfl, rfl⟩ rfl rfl rfl ⟨Nat.le_of_ble_eq_true rfl, Nat.le_of_ble_eq_true rfl⟩ (Nat.le_of_ble_eq_true rfl) dL_score_182 ⟨Nat.zero_le _, Nat.zero_le _⟩ (fun H locs G => ?_)
  refine lv_isub hx hb dL_score_185 ?_
  refine lv_iload hx hb dL_score_186 (lv_at hl 0 rfl) ?_
  refine lv_bipush (v := (10 : Int32)) hx hb dL_score_188 (by decide) ?_
  refine lv_irem hx hb dL_score_190 (by decide) ?_
  refine lv_imul hx hb dL_score_191 ?_
  refine lv_iadd hx hb dL_score_192 ?_
  exact aw_reti X G hf dL_score_193
end W_L_score
set_option maxHeartbeats 4000000 in
set_option maxRecDepth 100000 in
theorem c_L_score (l : Launch) {σ : Sg} {x0 : Nat} {x1 : Nat} {x2 : Nat} {x3 : Nat} {x4 : Nat} {x5 : Nat} {x6 : Nat} {x7 : Int32} {x8 : Nat} {x9 : Nat} {d : Dt} {z : Int32 × Dt} (hf : f_L_score σ x0 x1 x2 x3 x4 x5 x6 x7 x8 x9 d = some z) : aw_Mi l yL_score (Cond.code yL_score cL_score 14 (some .int)) rm_L_score (fun ad => [.ref (ad x0), .ref (ad x1), .ref (ad x2), .ref (ad x3), .ref (ad x4), .ref (ad x5), .ref (ad x6), .int x7, .ref (ad x8), .ref (ad x9)]) σ d z := by
  intro D cA base ad
  refine aw_ofW (own := RL) (cc := cL_score) (nL := 14) (ret := some .int) (by decide) rfl rfl ?_
  intro p e s m below meth c X hnm G
  have hx := X.1; have hb := X.2.1; have hml := X.2.2.1; have hown := X.2.2.2.1
  refine aw_ls (lv := [(0, .ref (ad x0)), (1, .ref (ad x1)), (2, .ref (ad x2)), (3, .ref (ad x3)), (4, .ref (ad x4)), (5, .ref (ad x5)), (6, .ref (ad x6)), (7, .int x7), (8, .ref (ad x8)), (9, .ref (ad x9))]) (Nat.le_of_ble_eq_true rfl) rfl (fun ls hl => ?_)
  unfold f_L_score at hf
  refine lv_aload_n hx hb dL_score_0 rfl (lv_at hl 0 rfl) ?_
  refine lv_aload_n hx hb dL_score_1 rfl (lv_at hl 1 rfl) ?_
  refine lv_aload_n hx hb dL_score_2 rfl (lv_at hl 2 rfl) ?_
  refine lv_aload_n hx hb dL_score_3 rfl (lv_at hl 3 rfl) ?_
  refine lv_aload hx hb dL_score_4 (lv_at hl 6 rfl) ?_
  refine lv_aload_n hx hb dL_score_6 rfl (lv_at hl 3 rfl) ?_
  refine lv_bipush (v := (48 : Int32)) hx hb dL_score_7 (by decide) ?_
  obtain ⟨hc_1, hf⟩ := aw_chk_some hf
  refine aw_ial hx hb G hc_1 dL_score_9 ?_
  refine lv_if_ne (tgt := 17) hx hb dL_score_10 (by decide) (fun hc => ?_) (fun hc => ?_)
  · have hf := aw_ite_f hc hf
    refine lv_aload_n hx hb dL_score_17 rfl (lv_at hl 3 rfl) ?_
    refine lv_bipush (v := (48 : Int32)) hx hb dL_score_18 (by decide) ?_
    refine aw_ial hx hb G hc_1 dL_score_20 ?_
    refine lv_iconst (v := (1 : Int32)) hx hb dL_score_21 (by decide) ?_
    refine lv_isub hx hb dL_score_22 ?_
    exact w_L_score_J23 X hf  (lv_sub hl [0, 1, 2, 3, 4, 5, 6, 7, 8, 9] rfl) G
  · have hf := aw_ite_t hc hf
    refine lv_iconst (v := (3 : Int32)) hx hb dL_score_13 (by decide) ?_
    refine lv_goto (tgt := 23) hx hb dL_score_14 (by decide) ?_
    exact w_L_score_J23 X hf  (lv_sub hl [0, 1, 2, 3, 4, 5, 6, 7, 8, 9] rfl) G
