def rm_L_of : Room := { frames := 0, cells := 0, slots := 0, locals := 0 }
def f_L_of_J43 (σ : Sg) (t0 : Int32) (d : Dt) : Option (Int32 × Dt) :=
  some (t0, d)
def f_L_of (σ : Sg) (x0 : Int32) (x1 : Int32) (d : Dt) : Option (Int32 × Dt) :=
  if x1 = 0 then f_L_of_J43 σ (x0 / (108 : Int32)) d else if x1 = ((1 : Int32)) then f_L_of_J43 σ ((x0 - x0 / (108 : Int32) * (108 : Int32)) / (27 : Int32)) d else if x1 = ((2 : Int32)) then f_L_of_J43 σ ((x0 - x0 / (27 : Int32) * (27 : Int32)) / (3 : Int32)) d else f_L_of_J43 σ (x0 - x0 / (3 : Int32) * (3 : Int32)) d
section W_L_of
variable {p : Program} {l : Launch} {e : Env} {s : State} {m : MethodId} {args : Array Value} {below : List Frame} {meth : Method} {c : Code}
variable {D : va_G} {cA : Nat → ClassId} {base : Nat} {ad : Nat → Nat} {σ : Sg}
set_option maxHeartbeats 4000000 in
set_option maxRecDepth 100000 in
theorem w_L_of_J43 {z : Int32 × Dt} (X : aw_X p c cL_of 2 s RL m meth (some .int)) {t0 : Int32} {d : Dt} (hf : f_L_of_J43 σ t0 d = some z)  {H : Heap} {locs : List Loc} {ls : Array Slot} (hl : lv_has ls 2 []) (G : aw_G D cA base ad σ d s H locs) : W p l e rm_L_of s m args below meth c H locs 0 0 (aw_Ei D cA base ad σ below args s z) (F0 m 43 ls [.int t0]) := by
  have hx := X.1; have hb := X.2.1; have hml := X.2.2.1; have hown := X.2.2.2.1
  unfold f_L_of_J43 at hf
  exact aw_reti X G hf dL_of_43
end W_L_of
set_option maxHeartbeats 4000000 in
set_option maxRecDepth 100000 in
theorem c_L_of (l : Launch) {σ : Sg} {x0 : Int32} {x1 : Int32} {d : Dt} {z : Int32 × Dt} (hf : f_L_of σ x0 x1 d = some z) : aw_Mi l yL_of (Cond.code yL_of cL_of 2 (some .int)) rm_L_of (fun ad => [.int x0, .int x1]) σ d z := by
  intro D cA base ad
  refine aw_ofW (own := RL) (cc := cL_of) (nL := 2) (ret := some .int) (by decide) rfl rfl ?_
  intro p e s m below meth c X hnm G
  have hx := X.1; have hb := X.2.1; have hml := X.2.2.1; have hown := X.2.2.2.1
  refine aw_ls (lv := [(0, .int x0), (1, .int x1)]) (Nat.le_of_ble_eq_true rfl) rfl (fun ls hl => ?_)
  unfold f_L_of at hf
  refine lv_iload_n hx hb dL_of_0 rfl (lv_at hl 1 rfl) ?_
  refine lv_if_ne (tgt := 11) hx hb dL_of_1 (by decide) (fun hc => ?_) (fun hc => ?_)
  · have hf := aw_ite_f hc hf
    refine lv_iload_n hx hb dL_of_11 rfl (lv_at hl 1 rfl) ?_
    refine lv_iconst (v := (1 : Int32)) hx hb dL_of_12 (by decide) ?_
    refine lv_icmp_ne (tgt := 26) hx hb dL_of_13 (by decide) (fun hc => ?_) (fun hc => ?_)
    · have hf := aw_ite_f hc hf
      refine lv_iload_n hx hb dL_of_26 rfl (lv_at hl 1 rfl) ?_
      refine lv_iconst (v := (2 : Int32)) hx hb dL_of_27 (by decide) ?_
      refine lv_icmp_ne (tgt := 40) hx hb dL_of_28 (by decide) (fun hc => ?_) (fun hc => ?_)
      · have hf := aw_ite_f hc hf
        refine lv_iload_n hx hb dL_of_40 rfl (lv_at hl 0 rfl) ?_
        refine lv_iconst (v := (3 : Int32)) hx hb dL_of_41 (by decide) ?_
        refine lv_irem hx hb dL_of_42 (by decide) ?_
        exact w_L_of_J43 X hf  (lv_sub hl [] rfl) G
      · have hf := aw_ite_t hc hf
        refine lv_iload_n hx hb dL_of_31 rfl (lv_at hl 0 rfl) ?_
        refine lv_bipush (v := (27 : Int32)) hx hb dL_of_32 (by decide) ?_
        refine lv_irem hx hb dL_of_34 (by decide) ?_
        refine lv_iconst (v := (3 : Int32)) hx hb dL_of_35 (by decide) ?_
        refine lv_idiv hx hb dL_of_36 (by decide) ?_
        refine lv_goto (tgt := 43) hx hb dL_of_37 (by decide) ?_
        exact w_L_of_J43 X hf  (lv_sub hl [] rfl) G
    · have hf := aw_ite_t hc hf
      refine lv_iload_n hx hb dL_of_16 rfl (lv_at hl 0 rfl) ?_
      refine lv_bipush (v := (108 : Int32)) hx hb dL_of_17 (by decide) ?_
      refine lv_irem hx hb dL_of_19 (by decide) ?_
      refine lv_bipush (v := (27 : Int32)) hx hb dL_of_20 (by decide) ?_
      refine lv_idiv hx hb dL_of_22 (by decide) ?_
      refine lv_goto (tgt := 43) hx hb dL_of_23 (by decide) ?_
      exact w_L_of_J43 X hf  (lv_sub hl [] rfl) G
  · have hf := aw_ite_t hc hf
    refine lv_iload_n hx hb dL_of_4 rfl (lv_at hl 0 rfl) ?_
    refine lv_bipush (v := (108 : Int32)) hx hb dL_of_5 (by decide) ?_
    refine lv_idiv hx hb dL_of_7 (by decide) ?_
    refine lv_goto (tgt := 43) hx hb dL_of_8 (by decide) ?_
    exact w_L_of_J43 X hf  (lv_sub hl [] rfl) G
def rm_L_speaks : Room := { frames := 1, cells := 0, slots := 0, locals := 21 }
def f_L_speaks_J158 (σ : Sg) (kb14 : Int32 → Int32 → Dt → Option (Int32 × Dt)) (t1 : Int32) (t0 : Int32) (x1 : Nat) (x2 : Nat) (x3 : Int32) (x4 : Int32) (x5 : Int32) (x7 : Int32) (d : Dt) : Option (Int32 × Dt) :=
  kb14 (t0 + t1) (x7 + 1) d
def f_L_speaks_J157 (σ : Sg) (kb14 : Int32 → Int32 → Dt → Option (Int32 × Dt)) (t0 : Int32) (x1 : Nat) (x2 : Nat) (x3 : Int32) (x4 : Int32) (x5 : Int32) (x7 : Int32) (d : Dt) : Option (Int32 × Dt) :=
  f_L_speaks_J158 σ kb14 ((0 : Int32)) t0 x1 x2 x3 x4 x5 x7 d
def f_L_speaks_J109 (σ : Sg) (kb14 : Int32 → Int32 → Dt → Option (Int32 × Dt)) (t0 : Int32) (x1 : Nat) (x2 : Nat) (x3 : Int32) (x4 : Int32) (x5 : Int32) (x6 : Int32) (x7 : Int32) (x8 : Int32) (x9 : Int32) (x10 : Int32) (d : Dt) : Option (Int32 × Dt) :=
  if t0 = 0 then f_L_speaks_J157 σ kb14 x6 x1 x2 x3 x4 x5 x7 d else (f_L_of σ x6 x9 d).bind (fun z_4 => if z_4.1 = ((x8 / (4 : Int32)) - (x8 / (4 : Int32)) / (16 : Int32) * (16 : Int32)) then f_L_speaks_J158 σ kb14 ((((x8 / (64 : Int32)) - (x8 / (64 : Int32)) / (16 : Int32) * (16 : Int32)) - ((x8 / (4 : Int32)) - (x8 / (4 : Int32)) / (16 : Int32) * (16 : Int32))) * x10) x6 x1 x2 x3 x4 x5 x7 z_4.2 else f_L_speaks_J157 σ kb14 x6 x1 x2 x3 x4 x5 x7 z_4.2)
def f_L_speaks_J104 (σ : Sg) (kb14 : Int32 → Int32 → Dt → Option (Int32 × Dt)) (x1 : Nat) (x2 : Nat) (x3 : Int32) (x4 : Int32) (x5 : Int32) (x6 : Int32) (x7 : Int32) (x8 : Int32) (x9 : Int32) (x10 : Int32) (d : Dt) : Option (Int32 × Dt) :=
  f_L_speaks_J109 σ kb14 ((1 : Int32)) x1 x2 x3 x4 x5 x6 x7 x8 x9 x10 d
def f_L_speaks_J83 (σ : Sg) (kb14 : Int32 → Int32 → Dt → Option (Int32 × Dt)) (t0 : Int32) (x1 : Nat) (x2 : Nat) (x3 : Int32) (x4 : Int32) (x5 : Int32) (x6 : Int32) (x7 : Int32) (x8 : Int32) (x9 : Int32) (d : Dt) : Option (Int32 × Dt) :=
  if x8 < ((1024 : Int32)) then f_L_speaks_J104 σ kb14 x1 x2 x3 x4 x5 x6 x7 x8 x9 t0 d else aw_chk (aw_I σ 20 x1 x4) (if x5 = ((d.1 x1 x4.toNatClampNeg) - ((1 : Int32))) then f_L_speaks_J104 σ kb14 x1 x2 x3 x4 x5 x6 x7 x8 x9 t0 d else f_L_speaks_J109 σ kb14 ((0 : Int32)) x1 x2 x3 x4 x5 x6 x7 x8 x9 t0 d)
def f_L_speaks_J31 (σ : Sg) (k14 : Int32 → Dt → Option (Int32 × Dt)) (kb14 : Int32 → Int32 → Dt → Option (Int32 × Dt)) (t1 : Int32) (t0 : Int32) (x1 : Nat) (x2 : Nat) (x3 : Int32) (x4 : Int32) (x5 : Int32) (x6 : Int32) (x7 : Int32) (d : Dt) : Option (Int32 × Dt) :=
  if t1 ≤ t0 then k14 x6 d else aw_chk (aw_I σ 20 x2 ((((6 : Int32)) * x3) + x7)) (if ((d.1 x2 ((((6 : Int32)) * x3) + x7).toNatClampNeg) - (d.1 x2 ((((6 : Int32)) * x3) + x7).toNatClampNeg) / (4 : Int32) * (4 : Int32)) = 0 then f_L_speaks_J83 σ kb14 ((108 : Int32)) x1 x2 x3 x4 x5 x6 x7 (d.1 x2 ((((6 : Int32)) * x3) + x7).toNatClampNeg) ((d.1 x2 ((((6 : Int32)) * x3) + x7).toNatClampNeg) - (d.1 x2 ((((6 : Int32)) * x3) + x7).toNatClampNeg) / (4 : Int32) * (4 : Int32)) d else if ((d.1 x2 ((((6 : Int32)) * x3) + x7).toNatClampNeg) - (d.1 x2 ((((6 : Int32)) * x3) + x7).toNatClampNeg) / (4 : Int32) * (4 : Int32)) = ((1 : Int32)) then f_L_speaks_J83 σ kb14 ((27 : Int32)) x1 x2 x3 x4 x5 x6 x7 (d.1 x2 ((((6 : Int32)) * x3) + x7).toNatClampNeg) ((d.1 x2 ((((6 : Int32)) * x3) + x7).toNatClampNeg) - (d.1 x2 ((((6 : Int32)) * x3) + x7).toNatClampNeg) / (4 : Int32) * (4 : Int32)) d else if ((d.1 x2 ((((6 : Int32)) * x3) + x7).toNatClampNeg) - (d.1 x2 ((((6 : Int32)) * x3) + x7).toNatClampNeg) / (4 : Int32) * (4 : Int32)) = ((2 : Int32)) then f_L_speaks_J83 σ kb14 ((3 : Int32)) x1 x2 x3 x4 x5 x6 x7 (d.1 x2 ((((6 : Int32)) * x3) + x7).toNatClampNeg) ((d.1 x2 ((((6 : Int32)) * x3) + x7).toNatClampNeg) - (d.1 x2 ((((6 : Int32)) * x3) + x7).toNatClampNeg) / (4 : Int32) * (4 : Int32)) d else f_L_speaks_J83 σ kb14 ((1 : Int32)) x1 x2 x3 x4 x5 x6 x7 (d.1 x2 ((((6 : Int32)) * x3) + x7).toNatClampNeg) ((d.1 x2 ((((6 : Int32)) * x3) + x7).toNatClampNeg) - (d.1 x2 ((((6 : Int32)) * x3) + x7).toNatClampNeg) / (4 : Int32) * (4 : Int32)) d)
def f_L_speaks_B14 (σ : Sg) (kb14 : Int32 → Int32 → Dt → Option (Int32 × Dt)) (k14 : Int32 → Dt → Option (Int32 × Dt)) (x1 : Nat) (x2 : Nat) (x3 : Int32) (x4 : Int32) (x5 : Int32) (x6 : Int32) (x7 : Int32) (d : Dt) : Option (Int32 × Dt) :=
  if x3 = ((3 : Int32)) then f_L_speaks_J31 σ k14 kb14 ((0 : Int32)) x7 x1 x2 x3 x4 x5 x6 x7 d else aw_chk (aw_I σ 20 x2 (((18 : Int32)) + x3)) (f_L_speaks_J31 σ k14 kb14 (d.1 x2 (((18 : Int32)) + x3).toNatClampNeg) x7 x1 x2 x3 x4 x5 x6 x7 d)
def f_L_speaks_L14 (σ : Sg) (n : Nat) (k14 : Int32 → Dt → Option (Int32 × Dt)) (x1 : Nat) (x2 : Nat) (x3 : Int32) (x4 : Int32) (x5 : Int32) : Int32 → Int32 → Dt → Option (Int32 × Dt) := match n with
  | 0 => fun _ _ _ => none
  | n + 1 => fun x6 x7 d => f_L_speaks_B14 σ (f_L_speaks_L14 σ n k14 x1 x2 x3 x4 x5) k14 x1 x2 x3 x4 x5 x6 x7 d
def f_L_speaks (σ : Sg) (x0 : Nat) (x1 : Nat) (x2 : Nat) (x3 : Int32) (x4 : Int32) (x5 : Int32) (d : Dt) : Option (Int32 × Dt) :=
  aw_chk (aw_I σ 20 x0 ((((4 : Int32)) * x4) + x5)) (f_L_speaks_L14 σ aw_FU (fun x6_7 d_8 => some (x6_7, d_8)) x1 x2 x3 x4 x5 (d.1 x0 ((((4 : Int32)) * x4) + x5).toNatClampNeg) ((0 : Int32)) d)
section W_L_speaks
variable {p : Program} {l : Launch} {e : Env} {s : State} {m : MethodId} {args : Array Value} {below : List Frame} {meth : Method} {c : Code}
variable {D : va_G} {cA : Nat → ClassId} {base : Nat} {ad : Nat → Nat} {σ : Sg}
set_option maxHeartbeats 4000000 in
set_option maxRecDepth 100000 in
theorem w_L_speaks_J158 {z : Int32 × Dt} (X : aw_X p c cL_speaks 12 s RL m meth (some .int)) {kb14 : Int32 → Int32 → Dt → Option (Int32 × Dt)} {t1 : Int32} {t0 : Int32} {x1 : Nat} {x2 : Nat} {x3 : Int32} {x4 : Int32} {x5 : Int32} {x7 : Int32} {d : Dt} (hf : f_L_speaks_J158 σ kb14 t1 t0 x1 x2 x3 x4 x5 x7 d = some z) (hkb14 : ∀ (y6 : Int32) (y7 : Int32) (d : Dt), kb14 y6 y7 d = some z → ∀ (H : Heap) (locs : List Loc) (ls : Array Slot), lv_has ls 12 [(1, .ref (ad x1)), (2, .ref (ad x2)), (3, .int x3), (4, .int x4), (5, .int x5), (6, .int y6), (7, .int y7)] → aw_G D cA base ad σ d s H locs → W p l e rm_L_speaks s m args below meth c H locs 0 0 (aw_Ei D cA base ad σ below args s z) (F0 m 14 ls [])) {H : Heap} {locs : List Loc} {ls : Array Slot} (hl : lv_has ls 12 [(1, .ref (ad x1)), (2, .ref (ad x2)), (3, .int x3), (4, .int x4), (5, .int x5), (7, .int x7)]) (G : aw_G D cA base ad σ d s H locs) : W p l e rm_L_speaks s m args below meth c H locs 0 0 (aw_Ei D cA base ad σ below args s z) (F0 m 158 ls [.int t1, .int t0]) := by
  have hx := X.1; have hb := X.2.1; have hml := X.2.2.1; have hown := X.2.2.2.1
  unfold f_L_speaks_J158 at hf
  refine lv_iadd hx hb dL_speaks_158 ?_
  refine lv_istore (lv' := [(6, .int (t0 + t1)), (1, .ref (ad x1)), (2, .ref (ad x2)), (3, .int x3), (4, .int x4), (5, .int x5), (7, .int x7)]) hx hb dL_speaks_159 hl (by decide) rfl (fun ls hl => ?_)
  refine lv_iinc (v := x7 + 1) (lv' := [(7, .int (x7 + 1)), (6, .int (t0 + t1)), (1, .ref (ad x1)), (2, .ref (ad x2)), (3, .int x3), (4, .int x4), (5, .int x5)]) hx hb dL_speaks_161 hl (k := 6) rfl rfl (by decide) rfl (fun ls hl => ?_)
  refine lv_goto (tgt := 14) hx hb dL_speaks_164 (by decide) ?_
  exact hkb14 _ _ _ hf _ _ _ (lv_sub hl [2, 3, 4, 5, 6, 1, 0] rfl) G
set_option maxHeartbeats 4000000 in
set_option maxRecDepth 100000 in
theorem w_L_speaks_J157 {z : Int32 × Dt} (X : aw_X p c cL_speaks 12 s RL m meth (some .int)) {kb14 : Int32 → Int32 → Dt → Option (Int32 × Dt)} {t0 : Int32} {x1 : Nat} {x2 : Nat} {x3 : Int32} {x4 : Int32} {x5 : Int32} {x7 : Int32} {d : Dt} (hf : f_L_speaks_J157 σ kb14 t0 x1 x2 x3 x4 x5 x7 d = some z) (hkb14 : ∀ (y6 : Int32) (y7 : Int32) (d : Dt), kb14 y6 y7 d = some z → ∀ (H : Heap) (locs : List Loc) (ls : Array Slot), lv_has ls 12 [(1, .ref (ad x1)), (2, .ref (ad x2)), (3, .int x3), (4, .int x4), (5, .int x5), (6, .int y6), (7, .int y7)] → aw_G D cA base ad σ d s H locs → W p l e rm_L_speaks s m args below meth c H locs 0 0 (aw_Ei D cA base ad σ below args s z) (F0 m 14 ls [])) {H : Heap} {locs : List Loc} {ls : Array Slot} (hl : lv_has ls 12 [(1, .ref (ad x1)), (2, .ref (ad x2)), (3, .int x3), (4, .int x4), (5, .int x5), (7, .int x7)]) (G : aw_G D cA base ad σ d s H locs) : W p l e rm_L_speaks s m args below meth c H locs 0 0 (aw_Ei D cA base ad σ below args s z) (F0 m 157 ls [.int t0]) := by
  have hx := X.1; have hb := X.2.1; have hml := X.2.2.1; have hown := X.2.2.2.1
  unfold f_L_speaks_J157 at hf
  refine lv_iconst (v := (0 : Int32)) hx hb dL_speaks_157 (by decide) ?_
  exact w_L_speaks_J158 X hf hkb14 (lv_sub hl [0, 1, 2, 3, 4, 5] rfl) G
set_option maxHeartbeats 4000000 in
set_option maxRecDepth 100000 in
theorem w_L_speaks_J109 {z : Int32 × Dt} (X : aw_X p c cL_speaks 12 s RL m meth (some .int)) {kb14 : Int32 → Int32 → Dt → Option (Int32 × Dt)} {t0 : Int32} {x1 : Nat} {x2 : Nat} {x3 : Int32} {x4 : Int32} {x5 : Int32} {x6 : Int32} {x7 : Int32} {x8 : Int32} {x9 : Int32} {x10 : Int32} {d : Dt} (hf : f_L_speaks_J109 σ kb14 t0 x1 x2 x3 x4 x5 x6 x7 x8 x9 x10 d = some z) (hkb14 : ∀ (y6 : Int32) (y7 : Int32) (d : Dt), kb14 y6 y7 d = some z → ∀ (H : Heap) (locs : List Loc) (ls : Array Slot), lv_has ls 12 [(1, .ref (ad x1)), (2, .ref (ad x2)), (3, .int x3), (4, .int x4), (5, .int x5), (6, .int y6), (7, .int y7)] → aw_G D cA base ad σ d s H locs → W p l e rm_L_speaks s m args below meth c H locs 0 0 (aw_Ei D cA base ad σ below args s z) (F0 m 14 ls [])) {H : Heap} {locs : List Loc} {ls : Array Slot} (hl : lv_has ls 12 [(1, .ref (ad x1)), (2, .ref (ad x2)), (3, .int x3), (4, .int x4), (5, .int x5), (6, .int x6), (7, .int x7), (8, .int x8), (9, .int x9), (10, .int x10)]) (G : aw_G D cA base ad σ d s H locs) : W p l e rm_L_speaks s m args below meth c H locs 0 0 (aw_Ei D cA base ad σ below args s z) (F0 m 109 ls [.int t0]) := by
  have hx := X.1; have hb := X.2.1; have hml := X.2.2.1; have hown := X.2.2.2.1
  unfold f_L_speaks_J109 at hf
  refine lv_istore (lv' := [(11, .int t0), (1, .ref (ad x1)), (2, .ref (ad x2)), (3, .int x3), (4, .int x4), (5, .int x5), (6, .int x6), (7, .int x7), (8, .int x8), (9, .int x9), (10, .int x10)]) hx hb dL_speaks_109 hl (by decide) rfl (fun ls hl => ?_)
  refine lv_iload hx hb dL_speaks_111 (lv_at hl 6 rfl) ?_
  refine lv_iload hx hb dL_speaks_113 (lv_at hl 0 rfl) ?_
  refine lv_if_eq (tgt := 157) hx hb dL_speaks_115 (by decide) (fun hc => ?_) (fun hc => ?_)
  · have hf := aw_ite_t hc hf
    exact w_L_speaks_J157 X hf hkb14 (lv_sub hl [1, 2, 3, 4, 5, 7] rfl) G
  · have hf := aw_ite_f hc hf
    refine lv_iload hx hb dL_speaks_118 (lv_at hl 6 rfl) ?_
    refine lv_iload hx hb dL_speaks_120 (lv_at hl 9 rfl) ?_
    obtain ⟨z_4, hz_5, hf⟩ := aw_bind_some hf
    refine aw_SI (As := [.int x6, .int x9]) (rest := [.int x6]) X G hl.1 cr_L_68 (c_L_of l hz_5) ⟨rfl, rfl⟩ rfl rfl rfl ⟨Nat.le_of_ble_eq_true rfl, Nat.le_of_ble_eq_true rfl⟩ (Nat.le_of_ble_eq_true rfl) dL_speaks_122 ⟨Nat.zero_le _, Nat.zero_le _⟩ (fun H locs G => ?_)
    refine lv_iload hx hb dL_speaks_125 (lv_at hl 8 rfl) ?_
    refine lv_iconst (v := (4 : Int32)) hx hb dL_speaks_127 (by decide) ?_
    refine lv_idiv hx hb dL_speaks_128 (by decide) ?_
    refine lv_bipush (v := (16 : Int32)) hx hb dL_speaks_129 (by decide) ?_
    refine lv_irem hx hb dL_speaks_131 (by decide) ?_
    refine lv_icmp_ne (tgt := 157) hx hb dL_speaks_132 (by decide) (fun hc => ?_) (fun hc => ?_)
    · have hf := aw_ite_f hc hf
      exact w_L_speaks_J157 X hf hkb14 (lv_sub hl [1, 2, 3, 4, 5, 7] rfl) G
    · have hf := aw_ite_t hc hf
      refine lv_iload hx hb dL_speaks_135 (lv_at hl 8 rfl) ?_
      refine lv_bipush (v := (64 : Int32)) hx hb dL_speaks_137 (by decide) ?_
      refine lv_idiv hx hb dL_speaks_139 (by decide) ?_
      refine lv_bipush (v := (16 : Int32)) hx hb dL_speaks_140 (by decide) ?_
      refine lv_irem hx hb dL_speaks_142 (by decide) ?_
      refine lv_iload hx hb dL_speaks_143 (lv_at hl 8 rfl) ?_
      refine lv_iconst (v := (4 : Int32)) hx hb dL_speaks_145 (by decide) ?_
      refine lv_idiv hx hb dL_speaks_146 (by decide) ?_
      refine lv_bipush (v := (16 : Int32)) hx hb dL_speaks_147 (by decide) ?_
      refine lv_irem hx hb dL_speaks_149 (by decide) ?_
      refine lv_isub hx hb dL_speaks_150 ?_
      refine lv_iload hx hb dL_speaks_151 (lv_at hl 10 rfl) ?_
      refine lv_imul hx hb dL_speaks_153 ?_
      refine lv_goto (tgt := 158) hx hb dL_speaks_154 (by decide) ?_
      exact w_L_speaks_J158 X hf hkb14 (lv_sub hl [1, 2, 3, 4, 5, 7] rfl) G
set_option maxHeartbeats 4000000 in
set_option maxRecDepth 100000 in
theorem w_L_speaks_J104 {z : Int32 × Dt} (X : aw_X p c cL_speaks 12 s RL m meth (some .int)) {kb14 : Int32 → Int32 → Dt → Option (Int32 × Dt)} {x1 : Nat} {x2 : Nat} {x3 : Int32} {x4 : Int32} {x5 : Int32} {x6 : Int32} {x7 : Int32} {x8 : Int32} {x9 : Int32} {x10 : Int32} {d : Dt} (hf : f_L_speaks_J104 σ kb14 x1 x2 x3 x4 x5 x6 x7 x8 x9 x10 d = some z) (hkb14 : ∀ (y6 : Int32) (y7 : Int32) (d : Dt), kb14 y6 y7 d = some z → ∀ (H : Heap) (locs : List Loc) (ls : Array Slot), lv_has ls 12 [(1, .ref (ad x1)), (2, .ref (ad x2)), (3, .int x3), (4, .int x4), (5, .int x5), (6, .int y6), (7, .int y7)] → aw_G D cA base ad σ d s H locs → W p l e rm_L_speaks s m args below meth c H locs 0 0 (aw_Ei D cA base ad σ below args s z) (F0 m 14 ls [])) {H : Heap} {locs : List Loc} {ls : Array Slot} (hl : lv_has ls 12 [(1, .ref (ad x1)), (2, .ref (ad x2)), (3, .int x3), (4, .int x4), (5, .int x5), (6, .int x6), (7, .int x7), (8, .int x8), (9, .int x9), (10, .int x10)]) (G : aw_G D cA base ad σ d s H locs) : W p l e rm_L_speaks s m args below meth c H locs 0 0 (aw_Ei D cA base ad σ below args s z) (F0 m 104 ls []) := by
  have hx := X.1; have hb := X.2.1; have hml := X.2.2.1; have hown := X.2.2.2.1
  unfold f_L_speaks_J104 at hf
  refine lv_iconst (v := (1 : Int32)) hx hb dL_speaks_104 (by decide) ?_
  refine lv_goto (tgt := 109) hx hb dL_speaks_105 (by decide) ?_
  exact w_L_speaks_J109 X hf hkb14 (lv_sub hl [0, 1, 2, 3, 4, 5, 6, 7, 8, 9] rfl) G
set_option maxHeartbeats 4000000 in
set_option maxRecDepth 100000 in
theorem w_L_speaks_J83 {z : Int32 × Dt} (X : aw_X p c cL_speaks 12 s RL m meth (some .int)) {kb14 : Int32 → Int32 → Dt → Option (Int32 × Dt)} {t0 : Int32} {x1 : Nat} {x2 : Nat} {x3 : Int32} {x4 : Int32} {x5 : Int32} {x6 : Int32} {x7 : Int32} {x8 : Int32} {x9 : Int32} {d : Dt} (hf : f_L_speaks_J83 σ kb14 t0 x1 x2 x3 x4 x5 x6 x7 x8 x9 d = some z) (hkb14 : ∀ (y6 : Int32) (y7 : Int32) (d : Dt), kb14 y6 y7 d = some z → ∀ (H : Heap) (locs : List Loc) (ls : Array Slot), lv_has ls 12 [(1, .ref (ad x1)), (2, .ref (ad x2)), (3, .int x3), (4, .int x4), (5, .int x5), (6, .int y6), (7, .int y7)] → aw_G D cA base ad σ d s H locs → W p l e rm_L_speaks s m args below meth c H locs 0 0 (aw_Ei D cA base ad σ below args s z) (F0 m 14 ls [])) {H : Heap} {locs : List Loc} {ls : Array Slot} (hl : lv_has ls 12 [(1, .ref (ad x1)), (2, .ref (ad x2)), (3, .int x3), (4, .int x4), (5, .int x5), (6, .int x6), (7, .int x7), (8, .int x8), (9, .int x9)]) (G : aw_G D cA base ad σ d s H locs) : W p l e rm_L_speaks s m args below meth c H locs 0 0 (aw_Ei D cA base ad σ below args s z) (F0 m 83 ls [.int t0]) := by
  have hx := X.1; have hb := X.2.1; have hml := X.2.2.1; have hown := X.2.2.2.1
  unfold f_L_speaks_J83 at hf
  refine lv_istore (lv' := [(10, .int t0), (1, .ref (ad x1)), (2, .ref (ad x2)), (3, .int x3), (4, .int x4), (5, .int x5), (6, .int x6), (7, .int x7), (8, .int x8), (9, .int x9)]) hx hb dL_speaks_83 hl (by decide) rfl (fun ls hl => ?_)
  refine lv_iload hx hb dL_speaks_85 (lv_at hl 8 rfl) ?_
  refine lv_sipush (v := (1024 : Int32)) hx hb dL_speaks_87 (by decide) ?_
  refine lv_icmp_lt (tgt := 104) hx hb dL_speaks_90 (by decide) (fun hc => ?_) (fun hc => ?_)
  · have hf := aw_ite_t hc hf
    exact w_L_speaks_J104 X hf hkb14 (lv_sub hl [1, 2, 3, 4, 5, 6, 7, 8, 9, 0] rfl) G
  · have hf := aw_ite_f hc hf
    refine lv_iload hx hb dL_speaks_93 (lv_at hl 5 rfl) ?_
    refine lv_aload_n hx hb dL_speaks_95 rfl (lv_at hl 1 rfl) ?_
    refine lv_iload hx hb dL_speaks_96 (lv_at hl 4 rfl) ?_
    obtain ⟨hc_6, hf⟩ := aw_chk_some hf
    refine aw_ial hx hb G hc_6 dL_speaks_98 ?_
    refine lv_iconst (v := (1 : Int32)) hx hb dL_speaks_99 (by decide) ?_
    refine lv_isub hx hb dL_speaks_100 ?_
    refine lv_icmp_ne (tgt := 108) hx hb dL_speaks_101 (by decide) (fun hc => ?_) (fun hc => ?_)
    · have hf := aw_ite_f hc hf
      refine lv_iconst (v := (0 : Int32)) hx hb dL_speaks_108 (by decide) ?_
      exact w_L_speaks_J109 X hf hkb14 (lv_sub hl [1, 2, 3, 4, 5, 6, 7, 8, 9, 0] rfl) G
    · have hf := aw_ite_t hc hf
      exact w_L_speaks_J104 X hf hkb14 (lv_sub hl [1, 2, 3, 4, 5, 6, 7, 8, 9, 0] rfl) G
set_option maxHeartbeats 4000000 in
set_option maxRecDepth 100000 in
theorem w_L_speaks_J31 {z : Int32 × Dt} (X : aw_X p c cL_speaks 12 s RL m meth (some .int)) {k14 : Int32 → Dt → Option (Int32 × Dt)} {kb14 : Int32 → Int32 → Dt → Option (Int32 × Dt)} {t1 : Int32} {t0 : Int32} {x1 : Nat} {x2 : Nat} {x3 : Int32} {x4 : Int32} {x5 : Int32} {x6 : Int32} {x7 : Int32} {d : Dt} (hf : f_L_speaks_J31 σ k14 kb14 t1 t0 x1 x2 x3 x4 x5 x6 x7 d = some z) (hk14 : ∀ (y6 : Int32) (d : Dt), k14 y6 d = some z → ∀ (H : Heap) (locs : List Loc) (ls : Array Slot), lv_has ls 12 [(6, .int y6)] → aw_G D cA base ad σ d s H locs → W p l e rm_L_speaks s m args below meth c H locs 0 0 (aw_Ei D cA base ad σ below args s z) (F0 m 167 ls [])) (hkb14 : ∀ (y6 : Int32) (y7 : Int32) (d : Dt), kb14 y6 y7 d = some z → ∀ (H : Heap) (locs : List Loc) (ls : Array Slot), lv_has ls 12 [(1, .ref (ad x1)), (2, .ref (ad x2)), (3, .int x3), (4, .int x4), (5, .int x5), (6, .int y6), (7, .int y7)] → aw_G D cA base ad σ d s H locs → W p l e rm_L_speaks s m args below meth c H locs 0 0 (aw_Ei D cA base ad σ below args s z) (F0 m 14 ls [])) {H : Heap} {locs : List Loc} {ls : Array Slot} (hl : lv_has ls 12 [(1, .ref (ad x1)), (2, .ref (ad x2)), (3, .int x3), (4, .int x4), (5, .int x5), (6, .int x6), (7, .int x7)]) (G : aw_G D cA base ad σ d s H locs) : W p l e rm_L_speaks s m args below meth c H locs 0 0 (aw_Ei D cA base ad σ below args s z) (F0 m 31 ls [.int t1, .int t0]) := by
  have hx := X.1; have hb := X.2.1; have hml := X.2.2.1; have hown := X.2.2.2.1
  unfold f_L_speaks_J31 at hf
  refine lv_icmp_ge (tgt := 167) hx hb dL_speaks_31 (by decide) (fun hc => ?_) (fun hc => ?_)
  · have hf := aw_ite_t hc hf
    exact hk14 _ _ hf _ _ _ (lv_sub hl [5] rfl) G
  · have hf := aw_ite_f hc hf
    refine lv_aload_n hx hb dL_speaks_34 rfl (lv_at hl 1 rfl) ?_
    refine lv_bipush (v := (6 : Int32)) hx hb dL_speaks_35 (by decide) ?_
    refine lv_iload_n hx hb dL_speaks_37 rfl (lv_at hl 2 rfl) ?_
    refine lv_imul hx hb dL_speaks_38 ?_
    refine lv_iload hx hb dL_speaks_39 (lv_at hl 6 rfl) ?_
    refine lv_iadd hx hb dL_speaks_41 ?_
    obtain ⟨hc_3, hf⟩ := aw_chk_some hf
    refine aw_ial hx hb G hc_3 dL_speaks_42 ?_
    refine lv_istore (lv' := [(8, .int (d.1 x2 ((((6 : Int32)) * x3) + x7).toNatClampNeg)), (1, .ref (ad x1)), (2, .ref (ad x2)), (3, .int x3), (4, .int x4), (5, .int x5), (6, .int x6), (7, .int x7)]) hx hb dL_speaks_43 hl (by decide) rfl (fun ls hl => ?_)
    refine lv_iload hx hb dL_speaks_45 (lv_at hl 0 rfl) ?_
    refine lv_iconst (v := (4 : Int32)) hx hb dL_speaks_47 (by decide) ?_
    refine lv_irem hx hb dL_speaks_48 (by decide) ?_
    refine lv_istore (lv' := [(9, .int ((d.1 x2 ((((6 : Int32)) * x3) + x7).toNatClampNeg) - (d.1 x2 ((((6 : Int32)) * x3) + x7).toNatClampNeg) / (4 : Int32) * (4 : Int32))), (8, .int (d.1 x2 ((((6 : Int32)) * x3) + x7).toNatClampNeg)), (1, .ref (ad x1)), (2, .ref (ad x2)), (3, .int x3), (4, .int x4), (5, .int x5), (6, .int x6), (7, .int x7)]) hx hb dL_speaks_49 hl (by decide) rfl (fun ls hl => ?_)
    refine lv_iload hx hb dL_speaks_51 (lv_at hl 0 rfl) ?_
    refine lv_if_ne (tgt := 61) hx hb dL_speaks_53 (by decide) (fun hc => ?_) (fun hc => ?_)
    · have hf := aw_ite_f hc hf
      refine lv_iload hx hb dL_speaks_61 (lv_at hl 0 rfl) ?_
      refine lv_iconst (v := (1 : Int32)) hx hb dL_speaks_63 (by decide) ?_
      refine lv_icmp_ne (tgt := 72) hx hb dL_speaks_64 (by decide) (fun hc => ?_) (fun hc => ?_)
      · have hf := aw_ite_f hc hf
        refine lv_iload hx hb dL_speaks_72 (lv_at hl 0 rfl) ?_
        refine lv_iconst (v := (2 : Int32)) hx hb dL_speaks_74 (by decide) ?_
        refine lv_icmp_ne (tgt := 82) hx hb dL_speaks_75 (by decide) (fun hc => ?_) (fun hc => ?_)
        · have hf := aw_ite_f hc hf
          refine lv_iconst (v := (1 : Int32)) hx hb dL_speaks_82 (by decide) ?_
          exact w_L_speaks_J83 X hf hkb14 (lv_sub hl [2, 3, 4, 5, 6, 7, 8, 1, 0] rfl) G
        · have hf := aw_ite_t hc hf
          refine lv_iconst (v := (3 : Int32)) hx hb dL_speaks_78 (by decide) ?_
          refine lv_goto (tgt := 83) hx hb dL_speaks_79 (by decide) ?_
          exact w_L_speaks_J83 X hf hkb14 (lv_sub hl [2, 3, 4, 5, 6, 7, 8, 1, 0] rfl) G
      · have hf := aw_ite_t hc hf
        refine lv_bipush (v := (27 : Int32)) hx hb dL_speaks_67 (by decide) ?_
        refine lv_goto (tgt := 83) hx hb dL_speaks_69 (by decide) ?_
        exact w_L_speaks_J83 X hf hkb14 (lv_sub hl [2, 3, 4, 5, 6, 7, 8, 1, 0] rfl) G
    · have hf := aw_ite_t hc hf
      refine lv_bipush (v := (108 : Int32)) hx hb dL_speaks_56 (by decide) ?_
      refine lv_goto (tgt := 83) hx hb dL_speaks_58 (by decide) ?_
      exact w_L_speaks_J83 X hf hkb14 (lv_sub hl [2, 3, 4, 5, 6, 7, 8, 1, 0] rfl) G
set_option maxHeartbeats 4000000 in
set_option maxRecDepth 100000 in
theorem w_L_speaks_B14 {z : Int32 × Dt} (X : aw_X p c cL_speaks 12 s RL m meth (some .int)) {kb14 : Int32 → Int32 → Dt → Option (Int32 × Dt)} {k14 : Int32 → Dt → Option (Int32 × Dt)} {x1 : Nat} {x2 : Nat} {x3 : Int32} {x4 : Int32} {x5 : Int32} {x6 : Int32} {x7 : Int32} {d : Dt} (hf : f_L_speaks_B14 σ kb14 k14 x1 x2 x3 x4 x5 x6 x7 d = some z) (hkb14 : ∀ (y6 : Int32) (y7 : Int32) (d : Dt), kb14 y6 y7 d = some z → ∀ (H : Heap) (locs : List Loc) (ls : Array Slot), lv_has ls 12 [(1, .ref (ad x1)), (2, .ref (ad x2)), (3, .int x3), (4, .int x4), (5, .int x5), (6, .int y6), (7, .int y7)] → aw_G D cA base ad σ d s H locs → W p l e rm_L_speaks s m args below meth c H locs 0 0 (aw_Ei D cA base ad σ below args s z) (F0 m 14 ls [])) (hk14 : ∀ (y6 : Int32) (d : Dt), k14 y6 d = some z → ∀ (H : Heap) (locs : List Loc) (ls : Array Slot), lv_has ls 12 [(6, .int y6)] → aw_G D cA base ad σ d s H locs → W p l e rm_L_speaks s m args below meth c H locs 0 0 (aw_Ei D cA base ad σ below args s z) (F0 m 167 ls [])) {H : Heap} {locs : List Loc} {ls : Array Slot} (hl : lv_has ls 12 [(1, .ref (ad x1)), (2, .ref (ad x2)), (3, .int x3), (4, .int x4), (5, .int x5), (6, .int x6), (7, .int x7)]) (G : aw_G D cA base ad σ d s H locs) : W p l e rm_L_speaks s m args below meth c H locs 0 0 (aw_Ei D cA base ad σ below args s z) (F0 m 14 ls []) := by
  have hx := X.1; have hb := X.2.1; have hml := X.2.2.1; have hown := X.2.2.2.1
  unfold f_L_speaks_B14 at hf
  refine lv_iload hx hb dL_speaks_14 (lv_at hl 6 rfl) ?_
  refine lv_iload_n hx hb dL_speaks_16 rfl (lv_at hl 2 rfl) ?_
  refine lv_iconst (v := (3 : Int32)) hx hb dL_speaks_17 (by decide) ?_
  refine lv_icmp_ne (tgt := 25) hx hb dL_speaks_18 (by decide) (fun hc => ?_) (fun hc => ?_)
  · have hf := aw_ite_f hc hf
    refine lv_aload_n hx hb dL_speaks_25 rfl (lv_at hl 1 rfl) ?_
    refine lv_bipush (v := (18 : Int32)) hx hb dL_speaks_26 (by decide) ?_
    refine lv_iload_n hx hb dL_speaks_28 rfl (lv_at hl 2 rfl) ?_
    refine lv_iadd hx hb dL_speaks_29 ?_
    obtain ⟨hc_2, hf⟩ := aw_chk_some hf
    refine aw_ial hx hb G hc_2 dL_speaks_30 ?_
    exact w_L_speaks_J31 X hf hk14 hkb14 (lv_sub hl [0, 1, 2, 3, 4, 5, 6] rfl) G
  · have hf := aw_ite_t hc hf
    refine lv_iconst (v := (0 : Int32)) hx hb dL_speaks_21 (by decide) ?_
    refine lv_goto (tgt := 31) hx hb dL_speaks_22 (by decide) ?_
    exact w_L_speaks_J31 X hf hk14 hkb14 (lv_sub hl [0, 1, 2, 3, 4, 5, 6] rfl) G
theorem w_L_speaks_L14 {z : Int32 × Dt} (X : aw_X p c cL_speaks 12 s RL m meth (some .int)) {k14 : Int32 → Dt → Option (Int32 × Dt)} {x1 : Nat} {x2 : Nat} {x3 : Int32} {x4 : Int32} {x5 : Int32} (n : Nat) {x6 : Int32} {x7 : Int32} {d : Dt} (hf : f_L_speaks_L14 σ n k14 x1 x2 x3 x4 x5 x6 x7 d = some z) (hk14 : ∀ (y6 : Int32) (d : Dt), k14 y6 d = some z → ∀ (H : Heap) (locs : List Loc) (ls : Array Slot), lv_has ls 12 [(6, .int y6)] → aw_G D cA base ad σ d s H locs → W p l e rm_L_speaks s m args below meth c H locs 0 0 (aw_Ei D cA base ad σ below args s z) (F0 m 167 ls [])) {H : Heap} {locs : List Loc} {ls : Array Slot} (hl : lv_has ls 12 [(1, .ref (ad x1)), (2, .ref (ad x2)), (3, .int x3), (4, .int x4), (5, .int x5), (6, .int x6), (7, .int x7)]) (G : aw_G D cA base ad σ d s H locs) : W p l e rm_L_speaks s m args below meth c H locs 0 0 (aw_Ei D cA base ad σ below args s z) (F0 m 14 ls []) := by
  induction n generalizing x6 x7 d H locs ls with
  | zero => exact absurd (show (none : Option (Int32 × Dt)) = some z from hf) (by simp)
  | succ n ih => exact w_L_speaks_B14 X (kb14 := f_L_speaks_L14 σ n k14 x1 x2 x3 x4 x5) hf  (fun x6 x7 d hf H locs ls hl G => ih hf hl G) hk14 hl G
end W_L_speaks
set_option maxHeartbeats 4000000 in
set_option maxRecDepth 100000 in
theorem c_L_speaks (l : Launch) {σ : Sg} {x0 : Nat} {x1 : Nat} {x2 : Nat} {x3 : Int32} {x4 : Int32} {x5 : Int32} {d : Dt} {z : Int32 × Dt} (hf : f_L_speaks σ x0 x1 x2 x3 x4 x5 d = some z) : aw_Mi l yL_speaks (Cond.code yL_speaks cL_speaks 12 (some .int)) rm_L_speaks (fun ad => [.ref (ad x0), .ref (ad x1), .ref (ad x2), .int x3, .int x4, .int x5]) σ d z := by
  intro D cA base ad
  refine aw_ofW (own := RL) (cc := cL_speaks) (nL := 12) (ret := some .int) (by decide) rfl rfl ?_
  intro p e s m below meth c X hnm G
  have hx := X.1; have hb := X.2.1; have hml := X.2.2.1; have hown := X.2.2.2.1
  refine aw_ls (lv := [(0, .ref (ad x0)), (1, .ref (ad x1)), (2, .ref (ad x2)), (3, .int x3), (4, .int x4), (5, .int x5)]) (Nat.le_of_ble_eq_true rfl) rfl (fun ls hl => ?_)
  unfold f_L_speaks at hf
  refine lv_aload_n hx hb dL_speaks_0 rfl (lv_at hl 0 rfl) ?_
  refine lv_iconst (v := (4 : Int32)) hx hb dL_speaks_1 (by decide) ?_
  refine lv_iload hx hb dL_speaks_2 (lv_at hl 4 rfl) ?_
  refine lv_imul hx hb dL_speaks_4 ?_
  refine lv_iload hx hb dL_speaks_5 (lv_at hl 5 rfl) ?_
  refine lv_iadd hx hb dL_speaks_7 ?_
  obtain ⟨hc_1, hf⟩ := aw_chk_some hf
  refine aw_ial hx hb G hc_1 dL_speaks_8 ?_
  refine lv_istore (lv' := [(6, .int (d.1 x0 ((((4 : Int32)) * x4) + x5).toNatClampNeg)), (0, .ref (ad x0)), (1, .ref (ad x1)), (2, .ref (ad x2)), (3, .int x3), (4, .int x4), (5, .int x5)]) hx hb dL_speaks_9 hl (by decide) rfl (fun ls hl => ?_)
  refine lv_iconst (v := (0 : Int32)) hx hb dL_speaks_11 (by decide) ?_
  refine lv_istore (lv' := [(7, .int ((0 : Int32))), (6, .int (d.1 x0 ((((4 : Int32)) * x4) + x5).toNatClampNeg)), (0, .ref (ad x0)), (1, .ref (ad x1)), (2, .ref (ad x2)), (3, .int x3), (4, .int x4), (5, .int x5)]) hx hb dL_speaks_12 hl (by decide) rfl (fun ls hl => ?_)
  refine w_L_speaks_L14 X aw_FU hf  (fun x6_7 d_8 hf H locs ls hl G => ?_) (lv_sub hl [3, 4, 5, 6, 7, 1, 0] rfl) G
  refine lv_iload hx hb dL_speaks_167 (lv_at hl 0 rfl) ?_
  exact aw_reti X G hf dL_speaks_169
def rm_L_spells : Room := { frames := 1, cells := 0, slots := 0, locals := 21 }
def f_L_spells_J163 (σ : Sg) (t0 : Int64) (d : Dt) : Option (Int64 × Dt) :=
  some (t0, d)
def f_L_spells_J161 (σ : Sg) (x6 : Int64) (d : Dt) : Option (Int64 × Dt) :=
  f_L_spells_J163 σ x6 d
def f_L_spells_J127 (σ : Sg) (t2 : Int32) (t1 : Nat) (t0 : Int64) (x0 : Nat) (x2 : Int32) (x5 : Int32) (d : Dt) : Option (Int64 × Dt) :=
  aw_chk (aw_I σ 20 t1 t2) (if x5 = 0 then f_L_spells_J161 σ ((t0 + ((d.1 t1 t2.toNatClampNeg).toInt64)) + ((1 : Int64))) d else if ((8 : Int32)) ≤ x2 then f_L_spells_J161 σ ((t0 + ((d.1 t1 t2.toNatClampNeg).toInt64)) + ((1 : Int64))) d else aw_chk (aw_I σ 20 x0 x2) (f_L_spells_J163 σ (((((t0 + ((d.1 t1 t2.toNatClampNeg).toInt64)) + ((1 : Int64))) * ((64 : Int64))) + ((d.1 x0 x2.toNatClampNeg).toInt64)) + ((1 : Int64))) d))
def f_L_spells_J103 (σ : Sg) (x0 : Nat) (x2 : Int32) (x3 : Int32) (x5 : Int32) (x6 : Int64) (d : Dt) : Option (Int64 × Dt) :=
  if x5 = 0 then f_L_spells_J127 σ ((((4 : Int32)) * x2) + x3) x0 (x6 * ((64 : Int64))) x0 x2 x5 d else f_L_spells_J127 σ (((8 : Int32)) + x3) x0 (x6 * ((64 : Int64))) x0 x2 x5 d
def f_L_spells_J65 (σ : Sg) (x0 : Nat) (x1 : Int32) (x2 : Int32) (x3 : Int32) (x5 : Int32) (x6 : Int64) (d : Dt) : Option (Int64 × Dt) :=
  aw_chk (aw_I σ 20 x0 ((49 : Int32))) ((f_L_of σ x1 ((3 : Int32)) d).bind (fun z_9 => if (((d.1 x0 ((49 : Int32)).toNatClampNeg) >>> (z_9.1 &&& 31)) &&& ((1 : Int32))) = ((1 : Int32)) then (f_L_of σ x1 ((3 : Int32)) z_9.2).bind (fun z_13 => aw_chk (aw_I σ 20 x0 (((44 : Int32)) + z_13.1)) (f_L_spells_J103 σ x0 x2 x3 x5 (((x6 * ((64 : Int64))) + ((z_13.2.1 x0 (((44 : Int32)) + z_13.1).toNatClampNeg).toInt64)) + ((1 : Int64))) z_13.2)) else f_L_spells_J103 σ x0 x2 x3 x5 x6 z_9.2))
def f_L_spells_J59 (σ : Sg) (t1 : Int32) (t0 : Nat) (x0 : Nat) (x1 : Int32) (x2 : Int32) (x3 : Int32) (x5 : Int32) (d : Dt) : Option (Int64 × Dt) :=
  aw_chk (aw_I σ 20 t0 t1) (f_L_spells_J65 σ x0 x1 x2 x3 x5 (((d.1 t0 t1.toNatClampNeg) + ((1 : Int32))).toInt64) d)
def f_L_spells_J31 (σ : Sg) (t0 : Int32) (x0 : Nat) (x1 : Int32) (x2 : Int32) (x3 : Int32) (x4 : Int32) (d : Dt) : Option (Int64 × Dt) :=
  if ((8 : Int32)) ≤ x4 then f_L_spells_J65 σ x0 x1 x2 x3 t0 ((0 : Int64)) d else if t0 = 0 then f_L_spells_J59 σ (((36 : Int32)) + x4) x0 x0 x1 x2 x3 t0 d else f_L_spells_J59 σ x4 x0 x0 x1 x2 x3 t0 d
def f_L_spells (σ : Sg) (x0 : Nat) (x1 : Int32) (d : Dt) : Option (Int64 × Dt) :=
  (f_L_of σ x1 ((0 : Int32)) d).bind (fun z_1 => (f_L_of σ x1 ((1 : Int32)) z_1.2).bind (fun z_3 => (f_L_of σ x1 ((2 : Int32)) z_3.2).bind (fun z_5 => aw_chk (aw_I σ 20 x0 ((47 : Int32))) (if (z_5.2.1 x0 ((47 : Int32)).toNatClampNeg) = 0 then f_L_spells_J31 σ ((1 : Int32)) x0 x1 z_1.1 z_3.1 z_5.1 z_5.2 else f_L_spells_J31 σ ((0 : Int32)) x0 x1 z_1.1 z_3.1 z_5.1 z_5.2))))
section W_L_spells
variable {p : Program} {l : Launch} {e : Env} {s : State} {m : MethodId} {args : Array Value} {below : List Frame} {meth : Method} {c : Code}
variable {D : va_G} {cA : Nat → ClassId} {base : Nat} {ad : Nat → Nat} {σ : Sg}
set_option maxHeartbeats 4000000 in
set_option maxRecDepth 100000 in
theorem w_L_spells_J163 {z : Int64 × Dt} (X : aw_X p c cL_spells 8 s RL m meth (some .long)) {t0 : Int64} {d : Dt} (hf : f_L_spells_J163 σ t0 d = some z)  {H : Heap} {locs : List Loc} {ls : Array Slot} (hl : lv_has ls 8 []) (G : aw_G D cA base ad σ d s H locs) : W p l e rm_L_spells s m args below meth c H locs 0 0 (aw_El D cA base ad σ below args s z) (F0 m 163 ls [.long t0]) := by
  have hx := X.1; have hb := X.2.1; have hml := X.2.2.1; have hown := X.2.2.2.1
  unfold f_L_spells_J163 at hf
  exact aw_retl X G hf dL_spells_163
set_option maxHeartbeats 4000000 in
set_option maxRecDepth 100000 in
theorem w_L_spells_J161 {z : Int64 × Dt} (X : aw_X p c cL_spells 8 s RL m meth (some .long)) {x6 : Int64} {d : Dt} (hf : f_L_spells_J161 σ x6 d = some z)  {H : Heap} {locs : List Loc} {ls : Array Slot} (hl : lv_has ls 8 [(6, .long x6)]) (G : aw_G D cA base ad σ d s H locs) : W p l e rm_L_spells s m args below meth c H locs 0 0 (aw_El D cA base ad σ below args s z) (F0 m 161 ls []) := by
  have hx := X.1; have hb := X.2.1; have hml := X.2.2.1; have hown := X.2.2.2.1
  unfold f_L_spells_J161 at hf
  refine lv_lload hx hb dL_spells_161 (lv_at hl 0 rfl) ?_
  exact w_L_spells_J163 X hf  (lv_sub hl [] rfl) G
set_option maxHeartbeats 4000000 in
set_option maxRecDepth 100000 in
theorem w_L_spells_J127 {z : Int64 × Dt} (X : aw_X p c cL_spells 8 s RL m meth (some .long)) {t2 : Int32} {t1 : Nat} {t0 : Int64} {x0 : Nat} {x2 : Int32} {x5 : Int32} {d : Dt} (hf : f_L_spells_J127 σ t2 t1 t0 x0 x2 x5 d = some z)  {H : Heap} {locs : List Loc} {ls : Array Slot} (hl : lv_has ls 8 [(0, .ref (ad x0)), (2, .int x2), (5, .int x5)]) (G : aw_G D cA base ad σ d s H locs) : W p l e rm_L_spells s m args below meth c H locs 0 0 (aw_El D cA base ad σ below args s z) (F0 m 127 ls [.int t2, .ref (ad t1), .long t0]) := by
  have hx := X.1; have hb := X.2.1; have hml := X.2.2.1; have hown := X.2.2.2.1
  unfold f_L_spells_J127 at hf
  obtain ⟨hc_11, hf⟩ := aw_chk_some hf
  refine aw_ial hx hb G hc_11 dL_spells_127 ?_
  refine lv_i2l hx hb dL_spells_128 rfl ?_
  refine lv_ladd hx hb dL_spells_129 ?_
  refine lv_lconst (v := (1 : Int64)) hx hb dL_spells_130 (by decide) ?_
  refine lv_ladd hx hb dL_spells_131 ?_
  refine lv_lstore (lv' := [(6, .long ((t0 + ((d.1 t1 t2.toNatClampNeg).toInt64)) + ((1 : Int64)))), (0, .ref (ad x0)), (2, .int x2), (5, .int x5)]) hx hb dL_spells_132 hl (by decide) rfl (fun ls hl => ?_)
  refine lv_iload hx hb dL_spells_134 (lv_at hl 3 rfl) ?_
  refine lv_if_eq (tgt := 161) hx hb dL_spells_136 (by decide) (fun hc => ?_) (fun hc => ?_)
  · have hf := aw_ite_t hc hf
    exact w_L_spells_J161 X hf  (lv_sub hl [0] rfl) G
  · have hf := aw_ite_f hc hf
    refine lv_iload_n hx hb dL_spells_139 rfl (lv_at hl 2 rfl) ?_
    refine lv_bipush (v := (8 : Int32)) hx hb dL_spells_140 (by decide) ?_
    refine lv_icmp_ge (tgt := 161) hx hb dL_spells_142 (by decide) (fun hc => ?_) (fun hc => ?_)
    · have hf := aw_ite_t hc hf
      exact w_L_spells_J161 X hf  (lv_sub hl [0] rfl) G
    · have hf := aw_ite_f hc hf
      refine lv_lload hx hb dL_spells_145 (lv_at hl 0 rfl) ?_
      refine lv_ldc2 (v := (64 : Int64)) hx hb hown (G.1.hts _ m_777) dL_spells_147 ?_
      refine lv_lmul hx hb dL_spells_150 ?_
      refine lv_aload_n hx hb dL_spells_151 rfl (lv_at hl 1 rfl) ?_
      refine lv_iload_n hx hb dL_spells_152 rfl (lv_at hl 2 rfl) ?_
      obtain ⟨hc_12, hf⟩ := aw_chk_some hf
      refine aw_ial hx hb G hc_12 dL_spells_153 ?_
      refine lv_i2l hx hb dL_spells_154 rfl ?_
      refine lv_ladd hx hb dL_spells_155 ?_
      refine lv_lconst (v := (1 : Int64)) hx hb dL_spells_156 (by decide) ?_
      refine lv_ladd hx hb dL_spells_157 ?_
      refine lv_goto (tgt := 163) hx hb dL_spells_158 (by decide) ?_
      exact w_L_spells_J163 X hf  (lv_sub hl [] rfl) G
set_option maxHeartbeats 4000000 in
set_option maxRecDepth 100000 in
theorem w_L_spells_J103 {z : Int64 × Dt} (X : aw_X p c cL_spells 8 s RL m meth (some .long)) {x0 : Nat} {x2 : Int32} {x3 : Int32} {x5 : Int32} {x6 : Int64} {d : Dt} (hf : f_L_spells_J103 σ x0 x2 x3 x5 x6 d = some z)  {H : Heap} {locs : List Loc} {ls : Array Slot} (hl : lv_has ls 8 [(0, .ref (ad x0)), (2, .int x2), (3, .int x3), (5, .int x5), (6, .long x6)]) (G : aw_G D cA base ad σ d s H locs) : W p l e rm_L_spells s m args below meth c H locs 0 0 (aw_El D cA base ad σ below args s z) (F0 m 103 ls []) := by
  have hx := X.1; have hb := X.2.1; have hml := X.2.2.1; have hown := X.2.2.2.1
  unfold f_L_spells_J103 at hf
  refine lv_lload hx hb dL_spells_103 (lv_at hl 4 rfl) ?_
  refine lv_ldc2 (v := (64 : Int64)) hx hb hown (G.1.hts _ m_777) dL_spells_105 ?_
  refine lv_lmul hx hb dL_spells_108 ?_
  refine lv_aload_n hx hb dL_spells_109 rfl (lv_at hl 0 rfl) ?_
  refine lv_iload hx hb dL_spells_110 (lv_at hl 3 rfl) ?_
  refine lv_if_eq (tgt := 122) hx hb dL_spells_112 (by decide) (fun hc => ?_) (fun hc => ?_)
  · have hf := aw_ite_t hc hf
    refine lv_iconst (v := (4 : Int32)) hx hb dL_spells_122 (by decide) ?_
    refine lv_iload_n hx hb dL_spells_123 rfl (lv_at hl 1 rfl) ?_
    refine lv_imul hx hb dL_spells_124 ?_
    refine lv_iload_n hx hb dL_spells_125 rfl (lv_at hl 2 rfl) ?_
    refine lv_iadd hx hb dL_spells_126 ?_
    exact w_L_spells_J127 X hf  (lv_sub hl [0, 1, 3] rfl) G
  · have hf := aw_ite_f hc hf
    refine lv_bipush (v := (8 : Int32)) hx hb dL_spells_115 (by decide) ?_
    refine lv_iload_n hx hb dL_spells_117 rfl (lv_at hl 2 rfl) ?_
    refine lv_iadd hx hb dL_spells_118 ?_
    refine lv_goto (tgt := 127) hx hb dL_spells_119 (by decide) ?_
    exact w_L_spells_J127 X hf  (lv_sub hl [0, 1, 3] rfl) G
set_option maxHeartbeats 4000000 in
set_option maxRecDepth 100000 in
theorem w_L_spells_J65 {z : Int64 × Dt} (X : aw_X p c cL_spells 8 s RL m meth (some .long)) {x0 : Nat} {x1 : Int32} {x2 : Int32} {x3 : Int32} {x5 : Int32} {x6 : Int64} {d : Dt} (hf : f_L_spells_J65 σ x0 x1 x2 x3 x5 x6 d = some z)  {H : Heap} {locs : List Loc} {ls : Array Slot} (hl : lv_has ls 8 [(0, .ref (ad x0)), (1, .int x1), (2, .int x2), (3, .int x3), (5, .int x5), (6, .long x6)]) (G : aw_G D cA base ad σ d s H locs) : W p l e rm_L_spells s m args below meth c H locs 0 0 (aw_El D cA base ad σ below args s z) (F0 m 65 ls []) := by
  have hx := X.1; have hb := X.2.1; have hml := X.2.2.1; have hown := X.2.2.2.1
  unfold f_L_spells_J65 at hf
  refine lv_aload_n hx hb dL_spells_65 rfl (lv_at hl 0 rfl) ?_
  refine lv_bipush (v := (49 : Int32)) hx hb dL_spells_66 (by decide) ?_
  obtain ⟨hc_8, hf⟩ := aw_chk_some hf
  refine aw_ial hx hb G hc_8 dL_spells_68 ?_
  refine lv_iload_n hx hb dL_spells_69 rfl (lv_at hl 1 rfl) ?_
  refine lv_iconst (v := (3 : Int32)) hx hb dL_spells_70 (by decide) ?_
  obtain ⟨z_9, hz_10, hf⟩ := aw_bind_some hf
  refine aw_SI (As := [.int x1, .int ((3 : Int32))]) (rest := [.int (d.1 x0 ((49 : Int32)).toNatClampNeg)]) X G hl.1 cr_L_68 (c_L_of l hz_10) ⟨rfl, rfl⟩ rfl rfl rfl ⟨Nat.le_of_ble_eq_true rfl, Nat.le_of_ble_eq_true rfl⟩ (Nat.le_of_ble_eq_true rfl) dL_spells_71 ⟨Nat.zero_le _, Nat.zero_le _⟩ (fun H locs G => ?_)
  refine lv_ishr hx hb dL_spells_74 ?_
  refine lv_iconst (v := (1 : Int32)) hx hb dL_spells_75 (by decide) ?_
  refine lv_iand hx hb dL_spells_76 ?_
  refine lv_iconst (v := (1 : Int32)) hx hb dL_spells_77 (by decide) ?_
  refine lv_icmp_ne (tgt := 103) hx hb dL_spells_78 (by decide) (fun hc => ?_) (fun hc => ?_)
  · have hf := aw_ite_f hc hf
    exact w_L_spells_J103 X hf  (lv_sub hl [0, 2, 3, 4, 5] rfl) G
  · have hf := aw_ite_t hc hf
    refine lv_lload hx hb dL_spells_81 (lv_at hl 5 rfl) ?_
    refine lv_ldc2 (v := (64 : Int64)) hx hb hown (G.1.hts _ m_777) dL_spells_83 ?_
    refine lv_lmul hx hb dL_spells_86 ?_
    refine lv_aload_n hx hb dL_spells_87 rfl (lv_at hl 0 rfl) ?_
    refine lv_bipush (v := (44 : Int32)) hx hb dL_spells_88 (by decide) ?_
    refine lv_iload_n hx hb dL_spells_90 rfl (lv_at hl 1 rfl) ?_
    refine lv_iconst (v := (3 : Int32)) hx hb dL_spells_91 (by decide) ?_
    obtain ⟨z_13, hz_14, hf⟩ := aw_bind_some hf
    refine aw_SI (As := [.int x1, .int ((3 : Int32))]) (rest := [.int ((44 : Int32)), .ref (ad x0), .long (x6 * ((64 : Int64)))]) X G hl.1 cr_L_68 (c_L_of l hz_14) ⟨rfl, rfl⟩ rfl rfl rfl ⟨Nat.le_of_ble_eq_true rfl, Nat.le_of_ble_eq_true rfl⟩ (Nat.le_of_ble_eq_true rfl) dL_spells_92 ⟨Nat.zero_le _, Nat.zero_le _⟩ (fun H locs G => ?_)
    refine lv_iadd hx hb dL_spells_95 ?_
    obtain ⟨hc_15, hf⟩ := aw_chk_some hf
    refine aw_ial hx hb G hc_15 dL_spells_96 ?_
    refine lv_i2l hx hb dL_spells_97 rfl ?_
    refine lv_ladd hx hb dL_spells_98 ?_
    refine lv_lconst (v := (1 : Int64)) hx hb dL_spells_99 (by decide) ?_
    refine lv_ladd hx hb dL_spells_100 ?_
    refine lv_lstore (lv' := [(6, .long (((x6 * ((64 : Int64))) + ((z_13.2.1 x0 (((44 : Int32)) + z_13.1).toNatClampNeg).toInt64)) + ((1 : Int64)))), (0, .ref (ad x0)), (1, .int x1), (2, .int x2), (3, .int x3), (5, .int x5)]) hx hb dL_spells_101 hl (by decide) rfl (fun ls hl => ?_)
    exact w_L_spells_J103 X hf  (lv_sub hl [1, 3, 4, 5, 0] rfl) G
set_option maxHeartbeats 4000000 in
set_option maxRecDepth 100000 in
theorem w_L_spells_J59 {z : Int64 × Dt} (X : aw_X p c cL_spells 8 s RL m meth (some .long)) {t1 : Int32} {t0 : Nat} {x0 : Nat} {x1 : Int32} {x2 : Int32} {x3 : Int32} {x5 : Int32} {d : Dt} (hf : f_L_spells_J59 σ t1 t0 x0 x1 x2 x3 x5 d = some z)  {H : Heap} {locs : List Loc} {ls : Array Slot} (hl : lv_has ls 8 [(0, .ref (ad x0)), (1, .int x1), (2, .int x2), (3, .int x3), (5, .int x5)]) (G : aw_G D cA base ad σ d s H locs) : W p l e rm_L_spells s m args below meth c H locs 0 0 (aw_El D cA base ad σ below args s z) (F0 m 59 ls [.int t1, .ref (ad t0)]) := by
  have hx := X.1; have hb := X.2.1; have hml := X.2.2.1; have hown := X.2.2.2.1
  unfold f_L_spells_J59 at hf
  obtain ⟨hc_16, hf⟩ := aw_chk_some hf
  refine aw_ial hx hb G hc_16 dL_spells_59 ?_
  refine lv_iconst (v := (1 : Int32)) hx hb dL_spells_60 (by decide) ?_
  refine lv_iadd hx hb dL_spells_61 ?_
  refine lv_i2l hx hb dL_spells_62 rfl ?_
  refine lv_lstore (lv' := [(6, .long (((d.1 t0 t1.toNatClampNeg) + ((1 : Int32))).toInt64)), (0, .ref (ad x0)), (1, .int x1), (2, .int x2), (3, .int x3), (5, .int x5)]) hx hb dL_spells_63 hl (by decide) rfl (fun ls hl => ?_)
  exact w_L_spells_J65 X hf  (lv_sub hl [1, 2, 3, 4, 5, 0] rfl) G
set_option maxHeartbeats 4000000 in
set_option maxRecDepth 100000 in
theorem w_L_spells_J31 {z : Int64 × Dt} (X : aw_X p c cL_spells 8 s RL m meth (some .long)) {t0 : Int32} {x0 : Nat} {x1 : Int32} {x2 : Int32} {x3 : Int32} {x4 : Int32} {d : Dt} (hf : f_L_spells_J31 σ t0 x0 x1 x2 x3 x4 d = some z)  {H : Heap} {locs : List Loc} {ls : Array Slot} (hl : lv_has ls 8 [(0, .ref (ad x0)), (1, .int x1), (2, .int x2), (3, .int x3), (4, .int x4)]) (G : aw_G D cA base ad σ d s H locs) : W p l e rm_L_spells s m args below meth c H locs 0 0 (aw_El D cA base ad σ below args s z) (F0 m 31 ls [.int t0]) := by
  have hx := X.1; have hb := X.2.1; have hml := X.2.2.1; have hown := X.2.2.2.1
  unfold f_L_spells_J31 at hf
  refine lv_istore (lv' := [(5, .int t0), (0, .ref (ad x0)), (1, .int x1), (2, .int x2), (3, .int x3), (4, .int x4)]) hx hb dL_spells_31 hl (by decide) rfl (fun ls hl => ?_)
  refine lv_lconst (v := (0 : Int64)) hx hb dL_spells_33 (by decide) ?_
  refine lv_lstore (lv' := [(6, .long ((0 : Int64))), (5, .int t0), (0, .ref (ad x0)), (1, .int x1), (2, .int x2), (3, .int x3), (4, .int x4)]) hx hb dL_spells_34 hl (by decide) rfl (fun ls hl => ?_)
  refine lv_iload hx hb dL_spells_36 (lv_at hl 6 rfl) ?_
  refine lv_bipush (v := (8 : Int32)) hx hb dL_spells_38 (by decide) ?_
  refine lv_icmp_ge (tgt := 65) hx hb dL_spells_40 (by decide) (fun hc => ?_) (fun hc => ?_)
  · have hf := aw_ite_t hc hf
    exact w_L_spells_J65 X hf  (lv_sub hl [2, 3, 4, 5, 1, 0] rfl) G
  · have hf := aw_ite_f hc hf
    refine lv_aload_n hx hb dL_spells_43 rfl (lv_at hl 2 rfl) ?_
    refine lv_iload hx hb dL_spells_44 (lv_at hl 1 rfl) ?_
    refine lv_if_eq (tgt := 54) hx hb dL_spells_46 (by decide) (fun hc => ?_) (fun hc => ?_)
    · have hf := aw_ite_t hc hf
      refine lv_bipush (v := (36 : Int32)) hx hb dL_spells_54 (by decide) ?_
      refine lv_iload hx hb dL_spells_56 (lv_at hl 6 rfl) ?_
      refine lv_iadd hx hb dL_spells_58 ?_
      exact w_L_spells_J59 X hf  (lv_sub hl [2, 3, 4, 5, 1] rfl) G
    · have hf := aw_ite_f hc hf
      refine lv_iload hx hb dL_spells_49 (lv_at hl 6 rfl) ?_
      refine lv_goto (tgt := 59) hx hb dL_spells_51 (by decide) ?_
      exact w_L_spells_J59 X hf  (lv_sub hl [2, 3, 4, 5, 1] rfl) G
end W_L_spells
set_option maxHeartbeats 4000000 in
set_option maxRecDepth 100000 in
theorem c_L_spells (l : Launch) {σ : Sg} {x0 : Nat} {x1 : Int32} {d : Dt} {z : Int64 × Dt} (hf : f_L_spells σ x0 x1 d = some z) : aw_Ml l yL_spells (Cond.code yL_spells cL_spells 8 (some .long)) rm_L_spells (fun ad => [.ref (ad x0), .int x1]) σ d z := by
  intro D cA base ad
  refine aw_ofW (own := RL) (cc := cL_spells) (nL := 8) (ret := some .long) (by decide) rfl rfl ?_
  intro p e s m below meth c X hnm G
  have hx := X.1; have hb := X.2.1; have hml := X.2.2.1; have hown := X.2.2.2.1
  refine aw_ls (lv := [(0, .ref (ad x0)), (1, .int x1)]) (Nat.le_of_ble_eq_true rfl) rfl (fun ls hl => ?_)
  unfold f_L_spells at hf
  refine lv_iload_n hx hb dL_spells_0 rfl (lv_at hl 1 rfl) ?_
  refine lv_iconst (v := (0 : Int32)) hx hb dL_spells_1 (by decide) ?_
  obtain ⟨z_1, hz_2, hf⟩ := aw_bind_some hf
  refine aw_SI (As := [.int x1, .int ((0 : Int32))]) (rest := []) X G hl.1 cr_L_68 (c_L_of l hz_2) ⟨rfl, rfl⟩ rfl rfl rfl ⟨Nat.le_of_ble_eq_true rfl, Nat.le_of_ble_eq_true rfl⟩ (Nat.le_of_ble_eq_true rfl) dL_spells_2 ⟨Nat.zero_le _, Nat.zero_le _⟩ (fun H locs G => ?_)
  refine lv_istore_n (lv' := [(2, .int z_1.1), (0, .ref (ad x0)), (1, .int x1)]) hx hb dL_spells_5 rfl hl (by decide) rfl (fun ls hl => ?_)
  refine lv_iload_n hx hb dL_spells_6 rfl (lv_at hl 2 rfl) ?_
  refine lv_iconst (v := (1 : Int32)) hx hb dL_spells_7 (by decide) ?_
  obtain ⟨z_3, hz_4, hf⟩ := aw_bind_some hf
  refine aw_SI (As := [.int x1, .int ((1 : Int32))]) (rest := []) X G hl.1 cr_L_68 (c_L_of l hz_4) ⟨rfl, rfl⟩ rfl rfl rfl ⟨Nat.le_of_ble_eq_true rfl, Nat.le_of_ble_eq_true rfl⟩ (Nat.le_of_ble_eq_true rfl) dL_spells_8 ⟨Nat.zero_le _, Nat.zero_le _⟩ (fun H locs G => ?_)
  refine lv_istore_n (lv' := [(3, .int z_3.1), (2, .int z_1.1), (0, .ref (ad x0)), (1, .int x1)]) hx hb dL_spells_11 rfl hl (by decide) rfl (fun ls hl => ?_)
  refine lv_iload_n hx hb dL_spells_12 rfl (lv_at hl 3 rfl) ?_
  refine lv_iconst (v := (2 : Int32)) hx hb dL_spells_13 (by decide) ?_
  obtain ⟨z_5, hz_6, hf⟩ := aw_bind_some hf
  refine aw_SI (As := [.int x1, .int ((2 : Int32))]) (rest := []) X G hl.1 cr_L_68 (c_L_of l hz_6) ⟨rfl, rfl⟩ rfl rfl rfl ⟨Nat.le_of_ble_eq_true rfl, Nat.le_of_ble_eq_true rfl⟩ (Nat.le_of_ble_eq_true rfl) dL_spells_14 ⟨Nat.zero_le _, Nat.zero_le _⟩ (fun H locs G => ?_)
  refine lv_istore (lv' := [(4, .int z_5.1), (3, .int z_3.1), (2, .int z_1.1), (0, .ref (ad x0)), (1, .int x1)]) hx hb dL_spells_17 hl (by decide) rfl (fun ls hl => ?_)
  refine lv_aload_n hx hb dL_spells_19 rfl (lv_at hl 3 rfl) ?_
  refine lv_bipush (v := (47 : Int32)) hx hb dL_spells_20 (by decide) ?_
  obtain ⟨hc_7, hf⟩ := aw_chk_some hf
  refine aw_ial hx hb G hc_7 dL_spells_22 ?_
  refine lv_if_ne (tgt := 30) hx hb dL_spells_23 (by decide) (fun hc => ?_) (fun hc => ?_)
  · have hf := aw_ite_f hc hf
    refine lv_iconst (v := (0 : Int32)) hx hb dL_spells_30 (by decide) ?_
    exact w_L_spells_J31 X hf  (lv_sub hl [3, 4, 2, 1, 0] rfl) G
  · have hf := aw_ite_t hc hf
    refine lv_iconst (v := (1 : Int32)) hx hb dL_spells_26 (by decide) ?_
    refine lv_goto (tgt := 31) hx hb dL_spells_27 (by decide) ?_
    exact w_L_spells_J31 X hf  (lv_sub hl [3, 4, 2, 1, 0] rfl) G
def rm_L_signs : Room := { frames := 0, cells := 0, slots := 0, locals := 0 }
def f_L_signs_B2 (σ : Sg) (kb2 : Int32 → Dt → Option (Int32 × Dt)) (k2 : Int32 → Dt → Option (Int32 × Dt)) (x0 : Int64) (x2 : Int32) (d : Dt) : Option (Int32 × Dt) :=
  if ((10 : Int32)) ≤ x2 then k2 x2 d else if (lg_cmp (x0 >>> ((((6 : Int32)) * x2).toInt64 &&& 63)) ((0 : Int64))) ≤ 0 then k2 x2 d else kb2 (x2 + 1) d
def f_L_signs_L2 (σ : Sg) (n : Nat) (k2 : Int32 → Dt → Option (Int32 × Dt)) (x0 : Int64) : Int32 → Dt → Option (Int32 × Dt) := match n with
  | 0 => fun _ _ => none
  | n + 1 => fun x2 d => f_L_signs_B2 σ (f_L_signs_L2 σ n k2 x0) k2 x0 x2 d
def f_L_signs_J25 (σ : Sg) (x2 : Int32) (d : Dt) : Option (Int32 × Dt) :=
  some (x2, d)
def f_L_signs (σ : Sg) (x0 : Int64) (d : Dt) : Option (Int32 × Dt) :=
  f_L_signs_L2 σ aw_FU (fun x2_1 d_2 => f_L_signs_J25 σ x2_1 d_2) x0 ((0 : Int32)) d
section W_L_signs
variable {p : Program} {l : Launch} {e : Env} {s : State} {m : MethodId} {args : Array Value} {below : List Frame} {meth : Method} {c : Code}
variable {D : va_G} {cA : Nat → ClassId} {base : Nat} {ad : Nat → Nat} {σ : Sg}
set_option maxHeartbeats 4000000 in
set_option maxRecDepth 100000 in
theorem w_L_signs_B2 {z : Int32 × Dt} (X : aw_X p c cL_signs 3 s RL m meth (some .int)) {kb2 : Int32 → Dt → Option (Int32 × Dt)} {k2 : Int32 → Dt → Option (Int32 × Dt)} {x0 : Int64} {x2 : Int32} {d : Dt} (hf : f_L_signs_B2 σ kb2 k2 x0 x2 d = some z) (hkb2 : ∀ (y2 : Int32) (d : Dt), kb2 y2 d = some z → ∀ (H : Heap) (locs : List Loc) (ls : Array Slot), lv_has ls 3 [(0, .long x0), (2, .int y2)] → aw_G D cA base ad σ d s H locs → W p l e rm_L_signs s m args below meth c H locs 0 0 (aw_Ei D cA base ad σ below args s z) (F0 m 2 ls [])) (hk2 : ∀ (y2 : Int32) (d : Dt), k2 y2 d = some z → ∀ (H : Heap) (locs : List Loc) (ls : Array Slot), lv_has ls 3 [(2, .int y2)] → aw_G D cA base ad σ d s H locs → W p l e rm_L_signs s m args below meth c H locs 0 0 (aw_Ei D cA base ad σ below args s z) (F0 m 25 ls [])) {H : Heap} {locs : List Loc} {ls : Array Slot} (hl : lv_has ls 3 [(0, .long x0), (2, .int x2)]) (G : aw_G D cA base ad σ d s H locs) : W p l e rm_L_signs s m args below meth c H locs 0 0 (aw_Ei D cA base ad σ below args s z) (F0 m 2 ls []) := by
  have hx := X.1; have hb := X.2.1; have hml := X.2.2.1; have hown := X.2.2.2.1
  unfold f_L_signs_B2 at hf
  refine lv_iload_n hx hb dL_signs_2 rfl (lv_at hl 1 rfl) ?_
  refine lv_bipush (v := (10 : Int32)) hx hb dL_signs_3 (by decide) ?_
  refine lv_icmp_ge (tgt := 25) hx hb dL_signs_5 (by decide) (fun hc => ?_) (fun hc => ?_)
  · have hf := aw_ite_t hc hf
    exact hk2 _ _ hf _ _ _ (lv_sub hl [1] rfl) G
  · have hf := aw_ite_f hc hf
    refine lv_lload_n hx hb dL_signs_8 rfl (lv_at hl 0 rfl) ?_
    refine lv_bipush (v := (6 : Int32)) hx hb dL_signs_9 (by decide) ?_
    refine lv_iload_n hx hb dL_signs_11 rfl (lv_at hl 1 rfl) ?_
    refine lv_imul hx hb dL_signs_12 ?_
    refine lv_lshr hx hb dL_signs_13 rfl ?_
    refine lv_lconst (v := (0 : Int64)) hx hb dL_signs_14 (by decide) ?_
    refine W.lcmp hx hb dL_signs_15 ?_
    refine lv_if_le (tgt := 25) hx hb dL_signs_16 (by decide) (fun hc => ?_) (fun hc => ?_)
    · have hf := aw_ite_t hc hf
      exact hk2 _ _ hf _ _ _ (lv_sub hl [1] rfl) G
    · have hf := aw_ite_f hc hf
      refine lv_iinc (v := x2 + 1) (lv' := [(2, .int (x2 + 1)), (0, .long x0)]) hx hb dL_signs_19 hl (k := 1) rfl rfl (by decide) rfl (fun ls hl => ?_)
      refine lv_goto (tgt := 2) hx hb dL_signs_22 (by decide) ?_
      exact hkb2 _ _ hf _ _ _ (lv_sub hl [1, 0] rfl) G
theorem w_L_signs_L2 {z : Int32 × Dt} (X : aw_X p c cL_signs 3 s RL m meth (some .int)) {k2 : Int32 → Dt → Option (Int32 × Dt)} {x0 : Int64} (n : Nat) {x2 : Int32} {d : Dt} (hf : f_L_signs_L2 σ n k2 x0 x2 d = some z) (hk2 : ∀ (y2 : Int32) (d : Dt), k2 y2 d = some z → ∀ (H : Heap) (locs : List Loc) (ls : Array Slot), lv_has ls 3 [(2, .int y2)] → aw_G D cA base ad σ d s H locs → W p l e rm_L_signs s m args below meth c H locs 0 0 (aw_Ei D cA base ad σ below args s z) (F0 m 25 ls [])) {H : Heap} {locs : List Loc} {ls : Array Slot} (hl : lv_has ls 3 [(0, .long x0), (2, .int x2)]) (G : aw_G D cA base ad σ d s H locs) : W p l e rm_L_signs s m args below meth c H locs 0 0 (aw_Ei D cA base ad σ below args s z) (F0 m 2 ls []) := by
  induction n generalizing x2 d H locs ls with
  | zero => exact absurd (show (none : Option (Int32 × Dt)) = some z from hf) (by simp)
  | succ n ih => exact w_L_signs_B2 X (kb2 := f_L_signs_L2 σ n k2 x0) hf  (fun x2 d hf H locs ls hl G => ih hf hl G) hk2 hl G
set_option maxHeartbeats 4000000 in
set_option maxRecDepth 100000 in
theorem w_L_signs_J25 {z : Int32 × Dt} (X : aw_X p c cL_signs 3 s RL m meth (some .int)) {x2 : Int32} {d : Dt} (hf : f_L_signs_J25 σ x2 d = some z)  {H : Heap} {locs : List Loc} {ls : Array Slot} (hl : lv_has ls 3 [(2, .int x2)]) (G : aw_G D cA base ad σ d s H locs) : W p l e rm_L_signs s m args below meth c H locs 0 0 (aw_Ei D cA base ad σ below args s z) (F0 m 25 ls []) := by
  have hx := X.1; have hb := X.2.1; have hml := X.2.2.1; have hown := X.2.2.2.1
  unfold f_L_signs_J25 at hf
  refine lv_iload_n hx hb dL_signs_25 rfl (lv_at hl 0 rfl) ?_
  exact aw_reti X G hf dL_signs_26
end W_L_signs
set_option maxHeartbeats 4000000 in
set_option maxRecDepth 100000 in
theorem c_L_signs (l : Launch) {σ : Sg} {x0 : Int64} {d : Dt} {z : Int32 × Dt} (hf : f_L_signs σ x0 d = some z) : aw_Mi l yL_signs (Cond.code yL_signs cL_signs 3 (some .int)) rm_L_signs (fun ad => [.long x0]) σ d z := by
  intro D cA base ad
  refine aw_ofW (own := RL) (cc := cL_signs) (nL := 3) (ret := some .int) (by decide) rfl rfl ?_
  intro p e s m below meth c X hnm G
  have hx := X.1; have hb := X.2.1; have hml := X.2.2.1; have hown := X.2.2.2.1
  refine aw_ls (lv := [(0, .long x0)]) (Nat.le_of_ble_eq_true rfl) rfl (fun ls hl => ?_)
  unfold f_L_signs at hf
  refine lv_iconst (v := (0 : Int32)) hx hb dL_signs_0 (by decide) ?_
  refine lv_istore_n (lv' := [(2, .int ((0 : Int32))), (0, .long x0)]) hx hb dL_signs_1 rfl hl (by decide) rfl (fun ls hl => ?_)
  refine w_L_signs_L2 X aw_FU hf  (fun x2_1 d_2 hf H locs ls hl G => ?_) (lv_sub hl [1, 0] rfl) G
  exact w_L_signs_J25 X hf  (lv_sub hl [0] rfl) G
def rm_L_spellsAll : Room := { frames := 2, cells := 0, slots := 0, locals := 52 }
def f_L_spellsAll_B63 (σ : Sg) (kb63 : Int32 → Int64 → Dt → Option (Unit × Dt)) (k63 : Int32 → Dt → Option (Unit × Dt)) (x0 : Nat) (x1 : Nat) (x2 : Nat) (x3 : Nat) (x4 : Nat) (x5 : Int32) (x6 : Nat) (x7 : Int32) (x9 : Int32) (x8 : Int32) (x10 : Int64) (d : Dt) : Option (Unit × Dt) :=
  if (lg_cmp x10 ((0 : Int64))) ≤ 0 then k63 x8 d else aw_chk (aw_I σ 21 x6 ((((2 : Int32)) * x7) + (x8 / (8 : Int32)))) (kb63 (x8 + 1) (x10 / ((64 : Int64))) (aw_sL d x6 ((((2 : Int32)) * x7) + (x8 / (8 : Int32))).toNatClampNeg ((d.2 x6 ((((2 : Int32)) * x7) + (x8 / (8 : Int32))).toNatClampNeg) ||| ((x10 - x10 / ((64 : Int64)) * ((64 : Int64))) <<< ((((6 : Int32)) * (x8 - x8 / (8 : Int32) * (8 : Int32))).toInt64 &&& 63)))))
def f_L_spellsAll_L63 (σ : Sg) (n : Nat) (k63 : Int32 → Dt → Option (Unit × Dt)) (x0 : Nat) (x1 : Nat) (x2 : Nat) (x3 : Nat) (x4 : Nat) (x5 : Int32) (x6 : Nat) (x7 : Int32) (x9 : Int32) : Int32 → Int64 → Dt → Option (Unit × Dt) := match n with
  | 0 => fun _ _ _ => none
  | n + 1 => fun x8 x10 d => f_L_spellsAll_B63 σ (f_L_spellsAll_L63 σ n k63 x0 x1 x2 x3 x4 x5 x6 x7 x9) k63 x0 x1 x2 x3 x4 x5 x6 x7 x9 x8 x10 d
def f_L_spellsAll_B36 (σ : Sg) (kb36 : Int32 → Int32 → Dt → Option (Unit × Dt)) (k36 : Dt → Option (Unit × Dt)) (x0 : Nat) (x1 : Nat) (x2 : Nat) (x3 : Nat) (x4 : Nat) (x5 : Int32) (x6 : Nat) (x7 : Int32) (x8 : Int32) (x9 : Int32) (d : Dt) : Option (Unit × Dt) :=
  aw_chk (aw_I σ 20 x1 x7) (if (d.1 x1 x7.toNatClampNeg) ≤ x9 then k36 d else (f_L_speaks σ x0 x1 x2 x5 x7 x9 d).bind (fun z_5 => (f_L_spells σ x3 z_5.1 z_5.2).bind (fun z_7 => f_L_spellsAll_L63 σ aw_FU (fun x8_10 d_11 => kb36 x8_10 (x9 + 1) d_11) x0 x1 x2 x3 x4 x5 x6 x7 x9 x8 z_7.1 z_7.2)))
def f_L_spellsAll_L36 (σ : Sg) (n : Nat) (k36 : Dt → Option (Unit × Dt)) (x0 : Nat) (x1 : Nat) (x2 : Nat) (x3 : Nat) (x4 : Nat) (x5 : Int32) (x6 : Nat) (x7 : Int32) : Int32 → Int32 → Dt → Option (Unit × Dt) := match n with
  | 0 => fun _ _ _ => none
  | n + 1 => fun x8 x9 d => f_L_spellsAll_B36 σ (f_L_spellsAll_L36 σ n k36 x0 x1 x2 x3 x4 x5 x6 x7) k36 x0 x1 x2 x3 x4 x5 x6 x7 x8 x9 d
def f_L_spellsAll_B3 (σ : Sg) (kb3 : Int32 → Dt → Option (Unit × Dt)) (k3 : Dt → Option (Unit × Dt)) (x0 : Nat) (x1 : Nat) (x2 : Nat) (x3 : Nat) (x4 : Nat) (x5 : Int32) (x6 : Nat) (x7 : Int32) (d : Dt) : Option (Unit × Dt) :=
  aw_chk (aw_I σ 20 x4 ((0 : Int32))) (if (d.1 x4 ((0 : Int32)).toNatClampNeg) ≤ x7 then k3 d else aw_chk (aw_I σ 21 x6 (((2 : Int32)) * x7)) (aw_chk (aw_I σ 21 x6 ((((2 : Int32)) * x7) + ((1 : Int32)))) (f_L_spellsAll_L36 σ aw_FU (fun d_12 => kb3 (x7 + 1) d_12) x0 x1 x2 x3 x4 x5 x6 x7 ((0 : Int32)) ((0 : Int32)) (aw_sL (aw_sL d x6 (((2 : Int32)) * x7).toNatClampNeg ((0 : Int64))) x6 ((((2 : Int32)) * x7) + ((1 : Int32))).toNatClampNeg ((0 : Int64))))))
def f_L_spellsAll_L3 (σ : Sg) (n : Nat) (k3 : Dt → Option (Unit × Dt)) (x0 : Nat) (x1 : Nat) (x2 : Nat) (x3 : Nat) (x4 : Nat) (x5 : Int32) (x6 : Nat) : Int32 → Dt → Option (Unit × Dt) := match n with
  | 0 => fun _ _ => none
  | n + 1 => fun x7 d => f_L_spellsAll_B3 σ (f_L_spellsAll_L3 σ n k3 x0 x1 x2 x3 x4 x5 x6) k3 x0 x1 x2 x3 x4 x5 x6 x7 d
def f_L_spellsAll (σ : Sg) (x0 : Nat) (x1 : Nat) (x2 : Nat) (x3 : Nat) (x4 : Nat) (x5 : Int32) (x6 : Nat) (d : Dt) : Option (Unit × Dt) :=
  f_L_spellsAll_L3 σ aw_FU (fun d_13 => some ((), d_13)) x0 x1 x2 x3 x4 x5 x6 ((0 : Int32)) d
section W_L_spellsAll
variable {p : Program} {l : Launch} {e : Env} {s : State} {m : MethodId} {args : Array Value} {below : List Frame} {meth : Method} {c : Code}
variable {D : va_G} {cA : Nat → ClassId} {base : Nat} {ad : Nat → Nat} {σ : Sg}
set_option maxHeartbeats 4000000 in
set_option maxRecDepth 100000 in
theorem w_L_spellsAll_B63 {z : Unit × Dt} (X : aw_X p c cL_spellsAll 12 s RL m meth (none)) {kb63 : Int32 → Int64 → Dt → Option (Unit × Dt)} {k63 : Int32 → Dt → Option (Unit × Dt)} {x0 : Nat} {x1 : Nat} {x2 : Nat} {x3 : Nat} {x4 : Nat} {x5 : Int32} {x6 : Nat} {x7 : Int32} {x9 : Int32} {x8 : Int32} {x10 : Int64} {d : Dt} (hf : f_L_spellsAll_B63 σ kb63 k63 x0 x1 x2 x3 x4 x5 x6 x7 x9 x8 x10 d = some z) (hkb63 : ∀ (y8 : Int32) (y10 : Int64) (d : Dt), kb63 y8 y10 d = some z → ∀ (H : Heap) (locs : List Loc) (ls : Array Slot), lv_has ls 12 [(0, .ref (ad x0)), (1, .ref (ad x1)), (2, .ref (ad x2)), (3, .ref (ad x3)), (4, .ref (ad x4)), (5, .int x5), (6, .ref (ad x6)), (7, .int x7), (8, .int y8), (9, .int x9), (10, .long y10)] → aw_G D cA base ad σ d s H locs → W p l e rm_L_spellsAll s m args below meth c H locs 0 0 (aw_Ev D cA base ad σ below args s z) (F0 m 63 ls [])) (hk63 : ∀ (y8 : Int32) (d : Dt), k63 y8 d = some z → ∀ (H : Heap) (locs : List Loc) (ls : Array Slot), lv_has ls 12 [(0, .ref (ad x0)), (1, .ref (ad x1)), (2, .ref (ad x2)), (3, .ref (ad x3)), (4, .ref (ad x4)), (5, .int x5), (6, .ref (ad x6)), (7, .int x7), (8, .int y8), (9, .int x9)] → aw_G D cA base ad σ d s H locs → W p l e rm_L_spellsAll s m args below meth c H locs 0 0 (aw_Ev D cA base ad σ below args s z) (F0 m 115 ls [])) {H : Heap} {locs : List Loc} {ls : Array Slot} (hl : lv_has ls 12 [(0, .ref (ad x0)), (1, .ref (ad x1)), (2, .ref (ad x2)), (3, .ref (ad x3)), (4, .ref (ad x4)), (5, .int x5), (6, .ref (ad x6)), (7, .int x7), (8, .int x8), (9, .int x9), (10, .long x10)]) (G : aw_G D cA base ad σ d s H locs) : W p l e rm_L_spellsAll s m args below meth c H locs 0 0 (aw_Ev D cA base ad σ below args s z) (F0 m 63 ls []) := by
  have hx := X.1; have hb := X.2.1; have hml := X.2.2.1; have hown := X.2.2.2.1
  unfold f_L_spellsAll_B63 at hf
  refine lv_lload hx hb dL_spellsAll_63 (lv_at hl 10 rfl) ?_
  refine lv_lconst (v := (0 : Int64)) hx hb dL_spellsAll_65 (by decide) ?_
  refine W.lcmp hx hb dL_spellsAll_66 ?_
  refine lv_if_le (tgt := 115) hx hb dL_spellsAll_67 (by decide) (fun hc => ?_) (fun hc => ?_)
  · have hf := aw_ite_t hc hf
    exact hk63 _ _ hf _ _ _ (lv_sub hl [0, 1, 2, 3, 4, 5, 6, 7, 8, 9] rfl) G
  · have hf := aw_ite_f hc hf
    refine lv_aload hx hb dL_spellsAll_70 (lv_at hl 6 rfl) ?_
    refine lv_iconst (v := (2 : Int32)) hx hb dL_spellsAll_72 (by decide) ?_
    refine lv_iload hx hb dL_spellsAll_73 (lv_at hl 7 rfl) ?_
    refine lv_imul hx hb dL_spellsAll_75 ?_
    refine lv_iload hx hb dL_spellsAll_76 (lv_at hl 8 rfl) ?_
    refine lv_bipush (v := (8 : Int32)) hx hb dL_spellsAll_78 (by decide) ?_
    refine lv_idiv hx hb dL_spellsAll_80 (by decide) ?_
    refine lv_iadd hx hb dL_spellsAll_81 ?_
    refine lv_dup2_11 hx hb dL_spellsAll_82 rfl rfl ?_
    obtain ⟨hc_9, hf⟩ := aw_chk_some hf
    refine aw_lal hx hb G hc_9 dL_spellsAll_83 ?_
    refine lv_lload hx hb dL_spellsAll_84 (lv_at hl 10 rfl) ?_
    refine lv_ldc2 (v := (64 : Int64)) hx hb hown (G.1.hts _ m_777) dL_spellsAll_86 ?_
    refine lv_lrem hx hb dL_spellsAll_89 (by decide) ?_
    refine lv_bipush (v := (6 : Int32)) hx hb dL_spellsAll_90 (by decide) ?_
    refine lv_iload hx hb dL_spellsAll_92 (lv_at hl 8 rfl) ?_
    refine lv_bipush (v := (8 : Int32)) hx hb dL_spellsAll_94 (by decide) ?_
    refine lv_irem hx hb dL_spellsAll_96 (by decide) ?_
    refine lv_imul hx hb dL_spellsAll_97 ?_
    refine lv_lshl hx hb dL_spellsAll_98 rfl ?_
    refine lv_lor hx hb dL_spellsAll_99 ?_
    refine aw_las hx hb G hc_9 dL_spellsAll_100 (fun H locs G => ?_)
    refine lv_lload hx hb dL_spellsAll_101 (lv_at hl 10 rfl) ?_
    refine lv_ldc2 (v := (64 : Int64)) hx hb hown (G.1.hts _ m_777) dL_spellsAll_103 ?_
    refine lv_ldiv hx hb dL_spellsAll_106 (by decide) ?_
    refine lv_lstore (lv' := [(10, .long (x10 / ((64 : Int64)))), (0, .ref (ad x0)), (1, .ref (ad x1)), (2, .ref (ad x2)), (3, .ref (ad x3)), (4, .ref (ad x4)), (5, .int x5), (6, .ref (ad x6)), (7, .int x7), (8, .int x8), (9, .int x9)]) hx hb dL_spellsAll_107 hl (by decide) rfl (fun ls hl => ?_)
    refine lv_iinc (v := x8 + 1) (lv' := [(8, .int (x8 + 1)), (10, .long (x10 / ((64 : Int64)))), (0, .ref (ad x0)), (1, .ref (ad x1)), (2, .ref (ad x2)), (3, .ref (ad x3)), (4, .ref (ad x4)), (5, .int x5), (6, .ref (ad x6)), (7, .int x7), (9, .int x9)]) hx hb dL_spellsAll_109 hl (k := 9) rfl rfl (by decide) rfl (fun ls hl => ?_)
    refine lv_goto (tgt := 63) hx hb dL_spellsAll_112 (by decide) ?_
    exact hkb63 _ _ _ hf _ _ _ (lv_sub hl [2, 3, 4, 5, 6, 7, 8, 9, 0, 10, 1] rfl) G
theorem w_L_spellsAll_L63 {z : Unit × Dt} (X : aw_X p c cL_spellsAll 12 s RL m meth (none)) {k63 : Int32 → Dt → Option (Unit × Dt)} {x0 : Nat} {x1 : Nat} {x2 : Nat} {x3 : Nat} {x4 : Nat} {x5 : Int32} {x6 : Nat} {x7 : Int32} {x9 : Int32} (n : Nat) {x8 : Int32} {x10 : Int64} {d : Dt} (hf : f_L_spellsAll_L63 σ n k63 x0 x1 x2 x3 x4 x5 x6 x7 x9 x8 x10 d = some z) (hk63 : ∀ (y8 : Int32) (d : Dt), k63 y8 d = some z → ∀ (H : Heap) (locs : List Loc) (ls : Array Slot), lv_has ls 12 [(0, .ref (ad x0)), (1, .ref (ad x1)), (2, .ref (ad x2)), (3, .ref (ad x3)), (4, .ref (ad x4)), (5, .int x5), (6, .ref (ad x6)), (7, .int x7), (8, .int y8), (9, .int x9)] → aw_G D cA base ad σ d s H locs → W p l e rm_L_spellsAll s m args below meth c H locs 0 0 (aw_Ev D cA base ad σ below args s z) (F0 m 115 ls [])) {H : Heap} {locs : List Loc} {ls : Array Slot} (hl : lv_has ls 12 [(0, .ref (ad x0)), (1, .ref (ad x1)), (2, .ref (ad x2)), (3, .ref (ad x3)), (4, .ref (ad x4)), (5, .int x5), (6, .ref (ad x6)), (7, .int x7), (8, .int x8), (9, .int x9), (10, .long x10)]) (G : aw_G D cA base ad σ d s H locs) : W p l e rm_L_spellsAll s m args below meth c H locs 0 0 (aw_Ev D cA base ad σ below args s z) (F0 m 63 ls []) := by
  induction n generalizing x8 x10 d H locs ls with
  | zero => exact absurd (show (none : Option (Unit × Dt)) = some z from hf) (by simp)
  | succ n ih => exact w_L_spellsAll_B63 X (kb63 := f_L_spellsAll_L63 σ n k63 x0 x1 x2 x3 x4 x5 x6 x7 x9) hf  (fun x8 x10 d hf H locs ls hl G => ih hf hl G) hk63 hl G
set_option maxHeartbeats 4000000 in
set_option maxRecDepth 100000 in
theorem w_L_spellsAll_B36 {z : Unit × Dt} (X : aw_X p c cL_spellsAll 12 s RL m meth (none)) {kb36 : Int32 → Int32 → Dt → Option (Unit × Dt)} {k36 : Dt → Option (Unit × Dt)} {x0 : Nat} {x1 : Nat} {x2 : Nat} {x3 : Nat} {x4 : Nat} {x5 : Int32} {x6 : Nat} {x7 : Int32} {x8 : Int32} {x9 : Int32} {d : Dt} (hf : f_L_spellsAll_B36 σ kb36 k36 x0 x1 x2 x3 x4 x5 x6 x7 x8 x9 d = some z) (hkb36 : ∀ (y8 : Int32) (y9 : Int32) (d : Dt), kb36 y8 y9 d = some z → ∀ (H : Heap) (locs : List Loc) (ls : Array Slot), lv_has ls 12 [(0, .ref (ad x0)), (1, .ref (ad x1)), (2, .ref (ad x2)), (3, .ref (ad x3)), (4, .ref (ad x4)), (5, .int x5), (6, .ref (ad x6)), (7, .int x7), (8, .int y8), (9, .int y9)] → aw_G D cA base ad σ d s H locs → W p l e rm_L_spellsAll s m args below meth c H locs 0 0 (aw_Ev D cA base ad σ below args s z) (F0 m 36 ls [])) (hk36 : ∀ (d : Dt), k36 d = some z → ∀ (H : Heap) (locs : List Loc) (ls : Array Slot), lv_has ls 12 [(0, .ref (ad x0)), (1, .ref (ad x1)), (2, .ref (ad x2)), (3, .ref (ad x3)), (4, .ref (ad x4)), (5, .int x5), (6, .ref (ad x6)), (7, .int x7)] → aw_G D cA base ad σ d s H locs → W p l e rm_L_spellsAll s m args below meth c H locs 0 0 (aw_Ev D cA base ad σ below args s z) (F0 m 121 ls [])) {H : Heap} {locs : List Loc} {ls : Array Slot} (hl : lv_has ls 12 [(0, .ref (ad x0)), (1, .ref (ad x1)), (2, .ref (ad x2)), (3, .ref (ad x3)), (4, .ref (ad x4)), (5, .int x5), (6, .ref (ad x6)), (7, .int x7), (8, .int x8), (9, .int x9)]) (G : aw_G D cA base ad σ d s H locs) : W p l e rm_L_spellsAll s m args below meth c H locs 0 0 (aw_Ev D cA base ad σ below args s z) (F0 m 36 ls []) := by
  have hx := X.1; have hb := X.2.1; have hml := X.2.2.1; have hown := X.2.2.2.1
  unfold f_L_spellsAll_B36 at hf
  refine lv_iload hx hb dL_spellsAll_36 (lv_at hl 9 rfl) ?_
  refine lv_aload_n hx hb dL_spellsAll_38 rfl (lv_at hl 1 rfl) ?_
  refine lv_iload hx hb dL_spellsAll_39 (lv_at hl 7 rfl) ?_
  obtain ⟨hc_4, hf⟩ := aw_chk_some hf
  refine aw_ial hx hb G hc_4 dL_spellsAll_41 ?_
  refine lv_icmp_ge (tgt := 121) hx hb dL_spellsAll_42 (by decide) (fun hc => ?_) (fun hc => ?_)
  · have hf := aw_ite_t hc hf
    exact hk36 _ hf _ _ _ (lv_sub hl [0, 1, 2, 3, 4, 5, 6, 7] rfl) G
  · have hf := aw_ite_f hc hf
    refine lv_aload_n hx hb dL_spellsAll_45 rfl (lv_at hl 3 rfl) ?_
    refine lv_aload_n hx hb dL_spellsAll_46 rfl (lv_at hl 0 rfl) ?_
    refine lv_aload_n hx hb dL_spellsAll_47 rfl (lv_at hl 1 rfl) ?_
    refine lv_aload_n hx hb dL_spellsAll_48 rfl (lv_at hl 2 rfl) ?_
    refine lv_iload hx hb dL_spellsAll_49 (lv_at hl 5 rfl) ?_
    refine lv_iload hx hb dL_spellsAll_51 (lv_at hl 7 rfl) ?_
    refine lv_iload hx hb dL_spellsAll_53 (lv_at hl 9 rfl) ?_
    obtain ⟨z_5, hz_6, hf⟩ := aw_bind_some hf
    refine aw_SI (As := [.ref (ad x0), .ref (ad x1), .ref (ad x2), .int x5, .int x7, .int x9]) (rest := [.ref (ad x3)]) X G hl.1 cr_L_75 (c_L_speaks l hz_6) ⟨rfl, rfl⟩ rfl rfl rfl ⟨Nat.le_of_ble_eq_true rfl, Nat.le_of_ble_eq_true rfl⟩ (Nat.le_of_ble_eq_true rfl) dL_spellsAll_55 ⟨Nat.zero_le _, Nat.zero_le _⟩ (fun H locs G => ?_)
    obtain ⟨z_7, hz_8, hf⟩ := aw_bind_some hf
    refine aw_SL (As := [.ref (ad x3), .int z_5.1]) (rest := []) X G hl.1 cr_L_79 (c_L_spells l hz_8) ⟨rfl, rfl⟩ rfl rfl rfl ⟨Nat.le_of_ble_eq_true rfl, Nat.le_of_ble_eq_true rfl⟩ (Nat.le_of_ble_eq_true rfl) dL_spellsAll_58 ⟨Nat.zero_le _, Nat.zero_le _⟩ (fun H locs G => ?_)
    refine lv_lstore (lv' := [(10, .long z_7.1), (0, .ref (ad x0)), (1, .ref (ad x1)), (2, .ref (ad x2)), (3, .ref (ad x3)), (4, .ref (ad x4)), (5, .int x5), (6, .ref (ad x6)), (7, .int x7), (8, .int x8), (9, .int x9)]) hx hb dL_spellsAll_61 hl (by decide) rfl (fun ls hl => ?_)
    refine w_L_spellsAll_L63 X aw_FU hf  (fun x8_10 d_11 hf H locs ls hl G => ?_) (lv_sub hl [1, 2, 3, 4, 5, 6, 7, 8, 9, 10, 0] rfl) G
    refine lv_iinc (v := x9 + 1) (lv' := [(9, .int (x9 + 1)), (0, .ref (ad x0)), (1, .ref (ad x1)), (2, .ref (ad x2)), (3, .ref (ad x3)), (4, .ref (ad x4)), (5, .int x5), (6, .ref (ad x6)), (7, .int x7), (8, .int x8_10)]) hx hb dL_spellsAll_115 hl (k := 9) rfl rfl (by decide) rfl (fun ls hl => ?_)
    refine lv_goto (tgt := 36) hx hb dL_spellsAll_118 (by decide) ?_
    exact hkb36 _ _ _ hf _ _ _ (lv_sub hl [1, 2, 3, 4, 5, 6, 7, 8, 9, 0] rfl) G
theorem w_L_spellsAll_L36 {z : Unit × Dt} (X : aw_X p c cL_spellsAll 12 s RL m meth (none)) {k36 : Dt → Option (Unit × Dt)} {x0 : Nat} {x1 : Nat} {x2 : Nat} {x3 : Nat} {x4 : Nat} {x5 : Int32} {x6 : Nat} {x7 : Int32} (n : Nat) {x8 : Int32} {x9 : Int32} {d : Dt} (hf : f_L_spellsAll_L36 σ n k36 x0 x1 x2 x3 x4 x5 x6 x7 x8 x9 d = some z) (hk36 : ∀ (d : Dt), k36 d = some z → ∀ (H : Heap) (locs : List Loc) (ls : Array Slot), lv_has ls 12 [(0, .ref (ad x0)), (1, .ref (ad x1)), (2, .ref (ad x2)), (3, .ref (ad x3)), (4, .ref (ad x4)), (5, .int x5), (6, .ref (ad x6)), (7, .int x7)] → aw_G D cA base ad σ d s H locs → W p l e rm_L_spellsAll s m args below meth c H locs 0 0 (aw_Ev D cA base ad σ below args s z) (F0 m 121 ls [])) {H : Heap} {locs : List Loc} {ls : Array Slot} (hl : lv_has ls 12 [(0, .ref (ad x0)), (1, .ref (ad x1)), (2, .ref (ad x2)), (3, .ref (ad x3)), (4, .ref (ad x4)), (5, .int x5), (6, .ref (ad x6)), (7, .int x7), (8, .int x8), (9, .int x9)]) (G : aw_G D cA base ad σ d s H locs) : W p l e rm_L_spellsAll s m args below meth c H locs 0 0 (aw_Ev D cA base ad σ below args s z) (F0 m 36 ls []) := by
  induction n generalizing x8 x9 d H locs ls with
  | zero => exact absurd (show (none : Option (Unit × Dt)) = some z from hf) (by simp)
  | succ n ih => exact w_L_spellsAll_B36 X (kb36 := f_L_spellsAll_L36 σ n k36 x0 x1 x2 x3 x4 x5 x6 x7) hf  (fun x8 x9 d hf H locs ls hl G => ih hf hl G) hk36 hl G
set_option maxHeartbeats 4000000 in
set_option maxRecDepth 100000 in
theorem w_L_spellsAll_B3 {z : Unit × Dt} (X : aw_X p c cL_spellsAll 12 s RL m meth (none)) {kb3 : Int32 → Dt → Option (Unit × Dt)} {k3 : Dt → Option (Unit × Dt)} {x0 : Nat} {x1 : Nat} {x2 : Nat} {x3 : Nat} {x4 : Nat} {x5 : Int32} {x6 : Nat} {x7 : Int32} {d : Dt} (hf : f_L_spellsAll_B3 σ kb3 k3 x0 x1 x2 x3 x4 x5 x6 x7 d = some z) (hkb3 : ∀ (y7 : Int32) (d : Dt), kb3 y7 d = some z → ∀ (H : Heap) (locs : List Loc) (ls : Array Slot), lv_has ls 12 [(0, .ref (ad x0)), (1, .ref (ad x1)), (2, .ref (ad x2)), (3, .ref (ad x3)), (4, .ref (ad x4)), (5, .int x5), (6, .ref (ad x6)), (7, .int y7)] → aw_G D cA base ad σ d s H locs → W p l e rm_L_spellsAll s m args below meth c H locs 0 0 (aw_Ev D cA base ad σ below args s z) (F0 m 3 ls [])) (hk3 : ∀ (d : Dt), k3 d = some z → ∀ (H : Heap) (locs : List Loc) (ls : Array Slot), lv_has ls 12 [] → aw_G D cA base ad σ d s H locs → W p l e rm_L_spellsAll s m args below meth c H locs 0 0 (aw_Ev D cA base ad σ below args s z) (F0 m 127 ls [])) {H : Heap} {locs : List Loc} {ls : Array Slot} (hl : lv_has ls 12 [(0, .ref (ad x0)), (1, .ref (ad x1)), (2, .ref (ad x2)), (3, .ref (ad x3)), (4, .ref (ad x4)), (5, .int x5), (6, .ref (ad x6)), (7, .int x7)]) (G : aw_G D cA base ad σ d s H locs) : W p l e rm_L_spellsAll s m args below meth c H locs 0 0 (aw_Ev D cA base ad σ below args s z) (F0 m 3 ls []) := by
  have hx := X.1; have hb := X.2.1; have hml := X.2.2.1; have hown := X.2.2.2.1
  unfold f_L_spellsAll_B3 at hf
  refine lv_iload hx hb dL_spellsAll_3 (lv_at hl 7 rfl) ?_
  refine lv_aload hx hb dL_spellsAll_5 (lv_at hl 4 rfl) ?_
  refine lv_iconst (v := (0 : Int32)) hx hb dL_spellsAll_7 (by decide) ?_
  obtain ⟨hc_1, hf⟩ := aw_chk_some hf
  refine aw_ial hx hb G hc_1 dL_spellsAll_8 ?_
  refine lv_icmp_ge (tgt := 127) hx hb dL_spellsAll_9 (by decide) (fun hc => ?_) (fun hc => ?_)
  · have hf := aw_ite_t hc hf
    exact hk3 _ hf _ _ _ (lv_sub hl [] rfl) G
  · have hf := aw_ite_f hc hf
    refine lv_aload hx hb dL_spellsAll_12 (lv_at hl 6 rfl) ?_
    refine lv_iconst (v := (2 : Int32)) hx hb dL_spellsAll_14 (by decide) ?_
    refine lv_iload hx hb dL_spellsAll_15 (lv_at hl 7 rfl) ?_
    refine lv_imul hx hb dL_spellsAll_17 ?_
    refine lv_lconst (v := (0 : Int64)) hx hb dL_spellsAll_18 (by decide) ?_
    obtain ⟨hc_2, hf⟩ := aw_chk_some hf
    refine aw_las hx hb G hc_2 dL_spellsAll_19 (fun H locs G => ?_)
    refine lv_aload hx hb dL_spellsAll_20 (lv_at hl 6 rfl) ?_
    refine lv_iconst (v := (2 : Int32)) hx hb dL_spellsAll_22 (by decide) ?_
    refine lv_iload hx hb dL_spellsAll_23 (lv_at hl 7 rfl) ?_
    refine lv_imul hx hb dL_spellsAll_25 ?_
    refine lv_iconst (v := (1 : Int32)) hx hb dL_spellsAll_26 (by decide) ?_
    refine lv_iadd hx hb dL_spellsAll_27 ?_
    refine lv_lconst (v := (0 : Int64)) hx hb dL_spellsAll_28 (by decide) ?_
    obtain ⟨hc_3, hf⟩ := aw_chk_some hf
    refine aw_las hx hb G hc_3 dL_spellsAll_29 (fun H locs G => ?_)
    refine lv_iconst (v := (0 : Int32)) hx hb dL_spellsAll_30 (by decide) ?_
    refine lv_istore (lv' := [(8, .int ((0 : Int32))), (0, .ref (ad x0)), (1, .ref (ad x1)), (2, .ref (ad x2)), (3, .ref (ad x3)), (4, .ref (ad x4)), (5, .int x5), (6, .ref (ad x6)), (7, .int x7)]) hx hb dL_spellsAll_31 hl (by decide) rfl (fun ls hl => ?_)
    refine lv_iconst (v := (0 : Int32)) hx hb dL_spellsAll_33 (by decide) ?_
    refine lv_istore (lv' := [(9, .int ((0 : Int32))), (8, .int ((0 : Int32))), (0, .ref (ad x0)), (1, .ref (ad x1)), (2, .ref (ad x2)), (3, .ref (ad x3)), (4, .ref (ad x4)), (5, .int x5), (6, .ref (ad x6)), (7, .int x7)]) hx hb dL_spellsAll_34 hl (by decide) rfl (fun ls hl => ?_)
    refine w_L_spellsAll_L36 X aw_FU hf  (fun d_12 hf H locs ls hl G => ?_) (lv_sub hl [2, 3, 4, 5, 6, 7, 8, 9, 1, 0] rfl) G
    refine lv_iinc (v := x7 + 1) (lv' := [(7, .int (x7 + 1)), (0, .ref (ad x0)), (1, .ref (ad x1)), (2, .ref (ad x2)), (3, .ref (ad x3)), (4, .ref (ad x4)), (5, .int x5), (6, .ref (ad x6))]) hx hb dL_spellsAll_121 hl (k := 7) rfl rfl (by decide) rfl (fun ls hl => ?_)
    refine lv_goto (tgt := 3) hx hb dL_spellsAll_124 (by decide) ?_
    exact hkb3 _ _ hf _ _ _ (lv_sub hl [1, 2, 3, 4, 5, 6, 7, 0] rfl) G
theorem w_L_spellsAll_L3 {z : Unit × Dt} (X : aw_X p c cL_spellsAll 12 s RL m meth (none)) {k3 : Dt → Option (Unit × Dt)} {x0 : Nat} {x1 : Nat} {x2 : Nat} {x3 : Nat} {x4 : Nat} {x5 : Int32} {x6 : Nat} (n : Nat) {x7 : Int32} {d : Dt} (hf : f_L_spellsAll_L3 σ n k3 x0 x1 x2 x3 x4 x5 x6 x7 d = some z) (hk3 : ∀ (d : Dt), k3 d = some z → ∀ (H : Heap) (locs : List Loc) (ls : Array Slot), lv_has ls 12 [] → aw_G D cA base ad σ d s H locs → W p l e rm_L_spellsAll s m args below meth c H locs 0 0 (aw_Ev D cA base ad σ below args s z) (F0 m 127 ls [])) {H : Heap} {locs : List Loc} {ls : Array Slot} (hl : lv_has ls 12 [(0, .ref (ad x0)), (1, .ref (ad x1)), (2, .ref (ad x2)), (3, .ref (ad x3)), (4, .ref (ad x4)), (5, .int x5), (6, .ref (ad x6)), (7, .int x7)]) (G : aw_G D cA base ad σ d s H locs) : W p l e rm_L_spellsAll s m args below meth c H locs 0 0 (aw_Ev D cA base ad σ below args s z) (F0 m 3 ls []) := by
  induction n generalizing x7 d H locs ls with
  | zero => exact absurd (show (none : Option (Unit × Dt)) = some z from hf) (by simp)
  | succ n ih => exact w_L_spellsAll_B3 X (kb3 := f_L_spellsAll_L3 σ n k3 x0 x1 x2 x3 x4 x5 x6) hf  (fun x7 d hf H locs ls hl G => ih hf hl G) hk3 hl G
end W_L_spellsAll
set_option maxHeartbeats 4000000 in
set_option maxRecDepth 100000 in
theorem c_L_spellsAll (l : Launch) {σ : Sg} {x0 : Nat} {x1 : Nat} {x2 : Nat} {x3 : Nat} {x4 : Nat} {x5 : Int32} {x6 : Nat} {d : Dt} {z : Unit × Dt} (hf : f_L_spellsAll σ x0 x1 x2 x3 x4 x5 x6 d = some z) : aw_Mv l yL_spellsAll (Cond.code yL_spellsAll cL_spellsAll 12 (none)) rm_L_spellsAll (fun ad => [.ref (ad x0), .ref (ad x1), .ref (ad x2), .ref (ad x3), .ref (ad x4), .int x5, .ref (ad x6)]) σ d z := by
  intro D cA base ad
  refine aw_ofW (own := RL) (cc := cL_spellsAll) (nL := 12) (ret := none) (by decide) rfl rfl ?_
  intro p e s m below meth c X hnm G
  have hx := X.1; have hb := X.2.1; have hml := X.2.2.1; have hown := X.2.2.2.1
  refine aw_ls (lv := [(0, .ref (ad x0)), (1, .ref (ad x1)), (2, .ref (ad x2)), (3, .ref (ad x3)), (4, .ref (ad x4)), (5, .int x5), (6, .ref (ad x6))]) (Nat.le_of_ble_eq_true rfl) rfl (fun ls hl => ?_)
  unfold f_L_spellsAll at hf
  refine lv_iconst (v := (0 : Int32)) hx hb dL_spellsAll_0 (by decide) ?_
  refine lv_istore (lv' := [(7, .int ((0 : Int32))), (0, .ref (ad x0)), (1, .ref (ad x1)), (2, .ref (ad x2)), (3, .ref (ad x3)), (4, .ref (ad x4)), (5, .int x5), (6, .ref (ad x6))]) hx hb dL_spellsAll_1 hl (by decide) rfl (fun ls hl => ?_)
  refine w_L_spellsAll_L3 X aw_FU hf  (fun d_13 hf H locs ls hl G => ?_) (lv_sub hl [1, 2, 3, 4, 5, 6, 7, 0] rfl) G
  exact aw_retv X G hf dL_spellsAll_127
def rm_L_sign : Room := { frames := 0, cells := 0, slots := 0, locals := 0 }
def f_L_sign_J35 (σ : Sg) (t0 : Int32) (d : Dt) : Option (Int32 × Dt) :=
  some (t0, d)
def f_L_sign (σ : Sg) (x0 : Nat) (x1 : Int32) (x2 : Int32) (d : Dt) : Option (Int32 × Dt) :=
  if x2 ≤ ((15 : Int32)) then aw_chk (aw_I σ 21 x0 ((((2 : Int32)) * x1) + (x2 / (8 : Int32)))) (f_L_sign_J35 σ (((((d.2 x0 ((((2 : Int32)) * x1) + (x2 / (8 : Int32))).toNatClampNeg) >>> ((((6 : Int32)) * (x2 - x2 / (8 : Int32) * (8 : Int32))).toInt64 &&& 63)) &&& ((63 : Int64))).toInt32) - ((1 : Int32))) d) else f_L_sign_J35 σ ((-1 : Int32)) d
section W_L_sign
variable {p : Program} {l : Launch} {e : Env} {s : State} {m : MethodId} {args : Array Value} {below : List Frame} {meth : Method} {c : Code}
variable {D : va_G} {cA : Nat → ClassId} {base : Nat} {ad : Nat → Nat} {σ : Sg}
set_option maxHeartbeats 4000000 in
set_option maxRecDepth 100000 in
theorem w_L_sign_J35 {z : Int32 × Dt} (X : aw_X p c cL_sign 3 s RL m meth (some .int)) {t0 : Int32} {d : Dt} (hf : f_L_sign_J35 σ t0 d = some z)  {H : Heap} {locs : List Loc} {ls : Array Slot} (hl : lv_has ls 3 []) (G : aw_G D cA base ad σ d s H locs) : W p l e rm_L_sign s m args below meth c H locs 0 0 (aw_Ei D cA base ad σ below args s z) (F0 m 35 ls [.int t0]) := by
  have hx := X.1; have hb := X.2.1; have hml := X.2.2.1; have hown := X.2.2.2.1
  unfold f_L_sign_J35 at hf
  exact aw_reti X G hf dL_sign_35
end W_L_sign
set_option maxHeartbeats 4000000 in
set_option maxRecDepth 100000 in
theorem c_L_sign (l : Launch) {σ : Sg} {x0 : Nat} {x1 : Int32} {x2 : Int32} {d : Dt} {z : Int32 × Dt} (hf : f_L_sign σ x0 x1 x2 d = some z) : aw_Mi l yL_sign (Cond.code yL_sign cL_sign 3 (some .int)) rm_L_sign (fun ad => [.ref (ad x0), .int x1, .int x2]) σ d z := by
  intro D cA base ad
  refine aw_ofW (own := RL) (cc := cL_sign) (nL := 3) (ret := some .int) (by decide) rfl rfl ?_
  intro p e s m below meth c X hnm G
  have hx := X.1; have hb := X.2.1; have hml := X.2.2.1; have hown := X.2.2.2.1
  refine aw_ls (lv := [(0, .ref (ad x0)), (1, .int x1), (2, .int x2)]) (Nat.le_of_ble_eq_true rfl) rfl (fun ls hl => ?_)
  unfold f_L_sign at hf
  refine lv_iload_n hx hb dL_sign_0 rfl (lv_at hl 2 rfl) ?_
  refine lv_bipush (v := (15 : Int32)) hx hb dL_sign_1 (by decide) ?_
  refine lv_icmp_le (tgt := 10) hx hb dL_sign_3 (by decide) (fun hc => ?_) (fun hc => ?_)
  · have hf := aw_ite_t hc hf
    refine lv_aload_n hx hb dL_sign_10 rfl (lv_at hl 0 rfl) ?_
    refine lv_iconst (v := (2 : Int32)) hx hb dL_sign_11 (by decide) ?_
    refine lv_iload_n hx hb dL_sign_12 rfl (lv_at hl 1 rfl) ?_
    refine lv_imul hx hb dL_sign_13 ?_
    refine lv_iload_n hx hb dL_sign_14 rfl (lv_at hl 2 rfl) ?_
    refine lv_bipush (v := (8 : Int32)) hx hb dL_sign_15 (by decide) ?_
    refine lv_idiv hx hb dL_sign_17 (by decide) ?_
    refine lv_iadd hx hb dL_sign_18 ?_
    obtain ⟨hc_1, hf⟩ := aw_chk_some hf
    refine aw_lal hx hb G hc_1 dL_sign_19 ?_
    refine lv_bipush (v := (6 : Int32)) hx hb dL_sign_20 (by decide) ?_
    refine lv_iload_n hx hb dL_sign_22 rfl (lv_at hl 2 rfl) ?_
    refine lv_bipush (v := (8 : Int32)) hx hb dL_sign_23 (by decide) ?_
    refine lv_irem hx hb dL_sign_25 (by decide) ?_
    refine lv_imul hx hb dL_sign_26 ?_
    refine lv_lshr hx hb dL_sign_27 rfl ?_
    refine lv_ldc2 (v := (63 : Int64)) hx hb hown (G.1.hts _ m_784) dL_sign_28 ?_
    refine lv_land hx hb dL_sign_31 ?_
    refine lv_l2i hx hb dL_sign_32 rfl ?_
    refine lv_iconst (v := (1 : Int32)) hx hb dL_sign_33 (by decide) ?_
    refine lv_isub hx hb dL_sign_34 ?_
    exact w_L_sign_J35 X hf  (lv_sub hl [] rfl) G
  · have hf := aw_ite_f hc hf
    refine lv_iconst (v := (-1 : Int32)) hx hb dL_sign_6 (by decide) ?_
    refine lv_goto (tgt := 35) hx hb dL_sign_7 (by decide) ?_
    exact w_L_sign_J35 X hf  (lv_sub hl [] rfl) G
def rm_L_many : Room := { frames := 1, cells := 0, slots := 0, locals := 22 }
def f_L_many_B2 (σ : Sg) (kb2 : Int32 → Dt → Option (Int32 × Dt)) (k2 : Int32 → Dt → Option (Int32 × Dt)) (x0 : Nat) (x1 : Int32) (x2 : Int32) (d : Dt) : Option (Int32 × Dt) :=
  (f_L_sign σ x0 x1 x2 d).bind (fun z_1 => if z_1.1 < 0 then k2 x2 z_1.2 else kb2 (x2 + 1) z_1.2)
def f_L_many_L2 (σ : Sg) (n : Nat) (k2 : Int32 → Dt → Option (Int32 × Dt)) (x0 : Nat) (x1 : Int32) : Int32 → Dt → Option (Int32 × Dt) := match n with
  | 0 => fun _ _ => none
  | n + 1 => fun x2 d => f_L_many_B2 σ (f_L_many_L2 σ n k2 x0 x1) k2 x0 x1 x2 d
def f_L_many (σ : Sg) (x0 : Nat) (x1 : Int32) (d : Dt) : Option (Int32 × Dt) :=
  f_L_many_L2 σ aw_FU (fun x2_3 d_4 => some (x2_3, d_4)) x0 x1 ((0 : Int32)) d
section W_L_many
variable {p : Program} {l : Launch} {e : Env} {s : State} {m : MethodId} {args : Array Value} {below : List Frame} {meth : Method} {c : Code}
variable {D : va_G} {cA : Nat → ClassId} {base : Nat} {ad : Nat → Nat} {σ : Sg}
set_option maxHeartbeats 4000000 in
set_option maxRecDepth 100000 in
theorem w_L_many_B2 {z : Int32 × Dt} (X : aw_X p c cL_many 3 s RL m meth (some .int)) {kb2 : Int32 → Dt → Option (Int32 × Dt)} {k2 : Int32 → Dt → Option (Int32 × Dt)} {x0 : Nat} {x1 : Int32} {x2 : Int32} {d : Dt} (hf : f_L_many_B2 σ kb2 k2 x0 x1 x2 d = some z) (hkb2 : ∀ (y2 : Int32) (d : Dt), kb2 y2 d = some z → ∀ (H : Heap) (locs : List Loc) (ls : Array Slot), lv_has ls 3 [(0, .ref (ad x0)), (1, .int x1), (2, .int y2)] → aw_G D cA base ad σ d s H locs → W p l e rm_L_many s m args below meth c H locs 0 0 (aw_Ei D cA base ad σ below args s z) (F0 m 2 ls [])) (hk2 : ∀ (y2 : Int32) (d : Dt), k2 y2 d = some z → ∀ (H : Heap) (locs : List Loc) (ls : Array Slot), lv_has ls 3 [(2, .int y2)] → aw_G D cA base ad σ d s H locs → W p l e rm_L_many s m args below meth c H locs 0 0 (aw_Ei D cA base ad σ below args s z) (F0 m 17 ls [])) {H : Heap} {locs : List Loc} {ls : Array Slot} (hl : lv_has ls 3 [(0, .ref (ad x0)), (1, .int x1), (2, .int x2)]) (G : aw_G D cA base ad σ d s H locs) : W p l e rm_L_many s m args below meth c H locs 0 0 (aw_Ei D cA base ad σ below args s z) (F0 m 2 ls []) := by
  have hx := X.1; have hb := X.2.1; have hml := X.2.2.1; have hown := X.2.2.2.1
  unfold f_L_many_B2 at hf
  refine lv_aload_n hx hb dL_many_2 rfl (lv_at hl 0 rfl) ?_
  refine lv_iload_n hx hb dL_many_3 rfl (lv_at hl 1 rfl) ?_
  refine lv_iload_n hx hb dL_many_4 rfl (lv_at hl 2 rfl) ?_
  obtain ⟨z_1, hz_2, hf⟩ := aw_bind_some hf
  refine aw_SI (As := [.ref (ad x0), .int x1, .int x2]) (rest := []) X G hl.1 cr_L_85 (c_L_sign l hz_2) ⟨rfl, rfl⟩ rfl rfl rfl ⟨Nat.le_of_ble_eq_true rfl, Nat.le_of_ble_eq_true rfl⟩ (Nat.le_of_ble_eq_true rfl) dL_many_5 ⟨Nat.zero_le _, Nat.zero_le _⟩ (fun H locs G => ?_)
  refine lv_if_lt (tgt := 17) hx hb dL_many_8 (by decide) (fun hc => ?_) (fun hc => ?_)
  · have hf := aw_ite_t hc hf
    exact hk2 _ _ hf _ _ _ (lv_sub hl [2] rfl) G
  · have hf := aw_ite_f hc hf
    refine lv_iinc (v := x2 + 1) (lv' := [(2, .int (x2 + 1)), (0, .ref (ad x0)), (1, .int x1)]) hx hb dL_many_11 hl (k := 2) rfl rfl (by decide) rfl (fun ls hl => ?_)
    refine lv_goto (tgt := 2) hx hb dL_many_14 (by decide) ?_
    exact hkb2 _ _ hf _ _ _ (lv_sub hl [1, 2, 0] rfl) G
theorem w_L_many_L2 {z : Int32 × Dt} (X : aw_X p c cL_many 3 s RL m meth (some .int)) {k2 : Int32 → Dt → Option (Int32 × Dt)} {x0 : Nat} {x1 : Int32} (n : Nat) {x2 : Int32} {d : Dt} (hf : f_L_many_L2 σ n k2 x0 x1 x2 d = some z) (hk2 : ∀ (y2 : Int32) (d : Dt), k2 y2 d = some z → ∀ (H : Heap) (locs : List Loc) (ls : Array Slot), lv_has ls 3 [(2, .int y2)] → aw_G D cA base ad σ d s H locs → W p l e rm_L_many s m args below meth c H locs 0 0 (aw_Ei D cA base ad σ below args s z) (F0 m 17 ls [])) {H : Heap} {locs : List Loc} {ls : Array Slot} (hl : lv_has ls 3 [(0, .ref (ad x0)), (1, .int x1), (2, .int x2)]) (G : aw_G D cA base ad σ d s H locs) : W p l e rm_L_many s m args below meth c H locs 0 0 (aw_Ei D cA base ad σ below args s z) (F0 m 2 ls []) := by
  induction n generalizing x2 d H locs ls with
  | zero => exact absurd (show (none : Option (Int32 × Dt)) = some z from hf) (by simp)
  | succ n ih => exact w_L_many_B2 X (kb2 := f_L_many_L2 σ n k2 x0 x1) hf  (fun x2 d hf H locs ls hl G => ih hf hl G) hk2 hl G
end W_L_many
set_option maxHeartbeats 4000000 in
set_option maxRecDepth 100000 in
theorem c_L_many (l : Launch) {σ : Sg} {x0 : Nat} {x1 : Int32} {d : Dt} {z : Int32 × Dt} (hf : f_L_many σ x0 x1 d = some z) : aw_Mi l yL_many (Cond.code yL_many cL_many 3 (some .int)) rm_L_many (fun ad => [.ref (ad x0), .int x1]) σ d z := by
  intro D cA base ad
  refine aw_ofW (own := RL) (cc := cL_many) (nL := 3) (ret := some .int) (by decide) rfl rfl ?_
  intro p e s m below meth c X hnm G
  have hx := X.1; have hb := X.2.1; have hml := X.2.2.1; have hown := X.2.2.2.1
  refine aw_ls (lv := [(0, .ref (ad x0)), (1, .int x1)]) (Nat.le_of_ble_eq_true rfl) rfl (fun ls hl => ?_)
  unfold f_L_many at hf
  refine lv_iconst (v := (0 : Int32)) hx hb dL_many_0 (by decide) ?_
  refine lv_istore_n (lv' := [(2, .int ((0 : Int32))), (0, .ref (ad x0)), (1, .int x1)]) hx hb dL_many_1 rfl hl (by decide) rfl (fun ls hl => ?_)
  refine w_L_many_L2 X aw_FU hf  (fun x2_3 d_4 hf H locs ls hl G => ?_) (lv_sub hl [1, 2, 0] rfl) G
  refine lv_iload_n hx hb dL_many_17 rfl (lv_at hl 0 rfl) ?_
  exact aw_reti X G hf dL_many_18
def rm_L_areAlike : Room := { frames := 0, cells := 0, slots := 0, locals := 0 }
def f_L_areAlike_J37 (σ : Sg) (t0 : Int32) (d : Dt) : Option (Int32 × Dt) :=
  aw_chk (t0 &&& 1 = t0) (some (t0, d))
def f_L_areAlike_J36 (σ : Sg)  (d : Dt) : Option (Int32 × Dt) :=
  f_L_areAlike_J37 σ ((0 : Int32)) d
def f_L_areAlike (σ : Sg) (x0 : Nat) (x1 : Int32) (x2 : Nat) (x3 : Int32) (d : Dt) : Option (Int32 × Dt) :=
  aw_chk (aw_I σ 21 x0 (((2 : Int32)) * x1)) (aw_chk (aw_I σ 21 x2 (((2 : Int32)) * x3)) (if (lg_cmp (d.2 x0 (((2 : Int32)) * x1).toNatClampNeg) (d.2 x2 (((2 : Int32)) * x3).toNatClampNeg)) = 0 then aw_chk (aw_I σ 21 x0 ((((2 : Int32)) * x1) + ((1 : Int32)))) (aw_chk (aw_I σ 21 x2 ((((2 : Int32)) * x3) + ((1 : Int32)))) (if (lg_cmp (d.2 x0 ((((2 : Int32)) * x1) + ((1 : Int32))).toNatClampNeg) (d.2 x2 ((((2 : Int32)) * x3) + ((1 : Int32))).toNatClampNeg)) = 0 then f_L_areAlike_J37 σ ((1 : Int32)) d else f_L_areAlike_J36 σ d)) else f_L_areAlike_J36 σ d))
section W_L_areAlike
variable {p : Program} {l : Launch} {e : Env} {s : State} {m : MethodId} {args : Array Value} {below : List Frame} {meth : Method} {c : Code}
variable {D : va_G} {cA : Nat → ClassId} {base : Nat} {ad : Nat → Nat} {σ : Sg}
set_option maxHeartbeats 4000000 in
set_option maxRecDepth 100000 in
theorem w_L_areAlike_J37 {z : Int32 × Dt} (X : aw_X p c cL_areAlike 4 s RL m meth (some .boolean)) {t0 : Int32} {d : Dt} (hf : f_L_areAlike_J37 σ t0 d = some z)  {H : Heap} {locs : List Loc} {ls : Array Slot} (hl : lv_has ls 4 []) (G : aw_G D cA base ad σ d s H locs) : W p l e rm_L_areAlike s m args below meth c H locs 0 0 (aw_Ei D cA base ad σ below args s z) (F0 m 37 ls [.int t0]) := by
  have hx := X.1; have hb := X.2.1; have hml := X.2.2.1; have hown := X.2.2.2.1
  unfold f_L_areAlike_J37 at hf
  obtain ⟨hc_3, hf⟩ := aw_chk_some hf
  exact aw_retz X G hc_3 hf dL_areAlike_37
set_option maxHeartbeats 4000000 in
set_option maxRecDepth 100000 in
theorem w_L_areAlike_J36 {z : Int32 × Dt} (X : aw_X p c cL_areAlike 4 s RL m meth (some .boolean))  {d : Dt} (hf : f_L_areAlike_J36 σ d = some z)  {H : Heap} {locs : List Loc} {ls : Array Slot} (hl : lv_has ls 4 []) (G : aw_G D cA base ad σ d s H locs) : W p l e rm_L_areAlike s m args below meth c H locs 0 0 (aw_Ei D cA base ad σ below args s z) (F0 m 36 ls []) := by
  have hx := X.1; have hb := X.2.1; have hml := X.2.2.1; have hown := X.2.2.2.1
  unfold f_L_areAlike_J36 at hf
  refine lv_iconst (v := (0 : Int32)) hx hb dL_areAlike_36 (by decide) ?_
  exact w_L_areAlike_J37 X hf  (lv_sub hl [] rfl) G
end W_L_areAlike
set_option maxHeartbeats 4000000 in
set_option maxRecDepth 100000 in
theorem c_L_areAlike (l : Launch) {σ : Sg} {x0 : Nat} {x1 : Int32} {x2 : Nat} {x3 : Int32} {d : Dt} {z : Int32 × Dt} (hf : f_L_areAlike σ x0 x1 x2 x3 d = some z) : aw_Mi l yL_areAlike (Cond.code yL_areAlike cL_areAlike 4 (some .boolean)) rm_L_areAlike (fun ad => [.ref (ad x0), .int x1, .ref (ad x2), .int x3]) σ d z := by
  intro D cA base ad
  refine aw_ofW (own := RL) (cc := cL_areAlike) (nL := 4) (ret := some .boolean) (by decide) rfl rfl ?_
  intro p e s m below meth c X hnm G
  have hx := X.1; have hb := X.2.1; have hml := X.2.2.1; have hown := X.2.2.2.1
  refine aw_ls (lv := [(0, .ref (ad x0)), (1, .int x1), (2, .ref (ad x2)), (3, .int x3)]) (Nat.le_of_ble_eq_true rfl) rfl (fun ls hl => ?_)
  unfold f_L_areAlike at hf
  refine lv_aload_n hx hb dL_areAlike_0 rfl (lv_at hl 0 rfl) ?_
  refine lv_iconst (v := (2 : Int32)) hx hb dL_areAlike_1 (by decide) ?_
  refine lv_iload_n hx hb dL_areAlike_2 rfl (lv_at hl 1 rfl) ?_
  refine lv_imul hx hb dL_areAlike_3 ?_
  obtain ⟨hc_1, hf⟩ := aw_chk_some hf
  refine aw_lal hx hb G hc_1 dL_areAlike_4 ?_
  refine lv_aload_n hx hb dL_areAlike_5 rfl (lv_at hl 2 rfl) ?_
  refine lv_iconst (v := (2 : Int32)) hx hb dL_areAlike_6 (by decide) ?_
  refine lv_iload_n hx hb dL_areAlike_7 rfl (lv_at hl 3 rfl) ?_
  refine lv_imul hx hb dL_areAlike_8 ?_
  obtain ⟨hc_2, hf⟩ := aw_chk_some hf
  refine aw_lal hx hb G hc_2 dL_areAlike_9 ?_
  refine W.lcmp hx hb dL_areAlike_10 ?_
  refine lv_if_ne (tgt := 36) hx hb dL_areAlike_11 (by decide) (fun hc => ?_) (fun hc => ?_)
  · have hf := aw_ite_f hc hf
    exact w_L_areAlike_J36 X hf  (lv_sub hl [] rfl) G
  · have hf := aw_ite_t hc hf
    refine lv_aload_n hx hb dL_areAlike_14 rfl (lv_at hl 0 rfl) ?_
    refine lv_iconst (v := (2 : Int32)) hx hb dL_areAlike_15 (by decide) ?_
    refine lv_iload_n hx hb dL_areAlike_16 rfl (lv_at hl 1 rfl) ?_
    refine lv_imul hx hb dL_areAlike_17 ?_
    refine lv_iconst (v := (1 : Int32)) hx hb dL_areAlike_18 (by decide) ?_
    refine lv_iadd hx hb dL_areAlike_19 ?_
    obtain ⟨hc_4, hf⟩ := aw_chk_some hf
    refine aw_lal hx hb G hc_4 dL_areAlike_20 ?_
    refine lv_aload_n hx hb dL_areAlike_21 rfl (lv_at hl 2 rfl) ?_
    refine lv_iconst (v := (2 : Int32)) hx hb dL_areAlike_22 (by decide) ?_
    refine lv_iload_n hx hb dL_areAlike_23 rfl (lv_at hl 3 rfl) ?_
    refine lv_imul hx hb dL_areAlike_24 ?_
    refine lv_iconst (v := (1 : Int32)) hx hb dL_areAlike_25 (by decide) ?_
    refine lv_iadd hx hb dL_areAlike_26 ?_
    obtain ⟨hc_5, hf⟩ := aw_chk_some hf
    refine aw_lal hx hb G hc_5 dL_areAlike_27 ?_
    refine W.lcmp hx hb dL_areAlike_28 ?_
    refine lv_if_ne (tgt := 36) hx hb dL_areAlike_29 (by decide) (fun hc => ?_) (fun hc => ?_)
    · have hf := aw_ite_f hc hf
      exact w_L_areAlike_J36 X hf  (lv_sub hl [] rfl) G
    · have hf := aw_ite_t hc hf
      refine lv_iconst (v := (1 : Int32)) hx hb dL_areAlike_32 (by decide) ?_
      refine lv_goto (tgt := 37) hx hb dL_areAlike_33 (by decide) ?_
      exact w_L_areAlike_J37 X hf  (lv_sub hl [] rfl) G
def rm_L_load : Room := { frames := 1, cells := 0, slots := 0, locals := 23 }
def f_L_load_J118 (σ : Sg) (kb25 : Int32 → Int32 → Int32 → Int32 → Dt → Option (Int32 × Dt)) (t0 : Int32) (x0 : Nat) (x1 : Nat) (x2 : Nat) (x3 : Int32) (x4 : Int32) (x5 : Int32) (x6 : Int32) (x8 : Int32) (d : Dt) : Option (Int32 × Dt) :=
  kb25 x5 x6 t0 (x8 + 1) d
def f_L_load_J117 (σ : Sg) (kb25 : Int32 → Int32 → Int32 → Int32 → Dt → Option (Int32 × Dt)) (x0 : Nat) (x1 : Nat) (x2 : Nat) (x3 : Int32) (x4 : Int32) (x5 : Int32) (x6 : Int32) (x8 : Int32) (d : Dt) : Option (Int32 × Dt) :=
  f_L_load_J118 σ kb25 ((0 : Int32)) x0 x1 x2 x3 x4 x5 x6 x8 d
def f_L_load_J113 (σ : Sg) (kb25 : Int32 → Int32 → Int32 → Int32 → Dt → Option (Int32 × Dt)) (x0 : Nat) (x1 : Nat) (x2 : Nat) (x3 : Int32) (x4 : Int32) (x5 : Int32) (x6 : Int32) (x8 : Int32) (d : Dt) : Option (Int32 × Dt) :=
  f_L_load_J118 σ kb25 ((1 : Int32)) x0 x1 x2 x3 x4 x5 x6 x8 d
def f_L_load_J94 (σ : Sg) (kb25 : Int32 → Int32 → Int32 → Int32 → Dt → Option (Int32 × Dt)) (t0 : Int32) (x0 : Nat) (x1 : Nat) (x2 : Nat) (x3 : Int32) (x4 : Int32) (x5 : Int32) (x7 : Int32) (x8 : Int32) (x9 : Int32) (d : Dt) : Option (Int32 × Dt) :=
  if x7 = 0 then f_L_load_J117 σ kb25 x0 x1 x2 x3 x4 x5 t0 x8 d else if x9 = 0 then f_L_load_J113 σ kb25 x0 x1 x2 x3 x4 x5 t0 x8 d else if x8 < x4 then f_L_load_J117 σ kb25 x0 x1 x2 x3 x4 x5 t0 x8 d else f_L_load_J113 σ kb25 x0 x1 x2 x3 x4 x5 t0 x8 d
def f_L_load_J92 (σ : Sg) (kb25 : Int32 → Int32 → Int32 → Int32 → Dt → Option (Int32 × Dt)) (x0 : Nat) (x1 : Nat) (x2 : Nat) (x3 : Int32) (x4 : Int32) (x5 : Int32) (x6 : Int32) (x7 : Int32) (x8 : Int32) (x9 : Int32) (d : Dt) : Option (Int32 × Dt) :=
  f_L_load_J94 σ kb25 x6 x0 x1 x2 x3 x4 x5 x7 x8 x9 d
def f_L_load_J62 (σ : Sg) (kb25 : Int32 → Int32 → Int32 → Int32 → Dt → Option (Int32 × Dt)) (t1 : Int32) (t0 : Int32) (x0 : Nat) (x1 : Nat) (x2 : Nat) (x3 : Int32) (x4 : Int32) (x6 : Int32) (x7 : Int32) (x8 : Int32) (x9 : Int32) (d : Dt) : Option (Int32 × Dt) :=
  if x9 = 0 then f_L_load_J92 σ kb25 x0 x1 x2 x3 x4 (t0 + t1) x6 x7 x8 x9 d else aw_chk (aw_I σ 20 x1 (((8 : Int32)) + x8)) (if (d.1 x1 (((8 : Int32)) + x8).toNatClampNeg) ≤ x6 then f_L_load_J92 σ kb25 x0 x1 x2 x3 x4 (t0 + t1) x6 x7 x8 x9 d else f_L_load_J94 σ kb25 (d.1 x1 (((8 : Int32)) + x8).toNatClampNeg) x0 x1 x2 x3 x4 (t0 + t1) x7 x8 x9 d)
def f_L_load_B25 (σ : Sg) (kb25 : Int32 → Int32 → Int32 → Int32 → Dt → Option (Int32 × Dt)) (k25 : Int32 → Int32 → Int32 → Dt → Option (Int32 × Dt)) (x0 : Nat) (x1 : Nat) (x2 : Nat) (x3 : Int32) (x4 : Int32) (x5 : Int32) (x6 : Int32) (x7 : Int32) (x8 : Int32) (d : Dt) : Option (Int32 × Dt) :=
  aw_chk (aw_I σ 20 x2 ((0 : Int32))) (if (d.1 x2 ((0 : Int32)).toNatClampNeg) ≤ x8 then k25 x5 x6 x7 d else (f_L_areAlike σ x0 x4 x0 x8 d).bind (fun z_3 => if z_3.1 = 0 then f_L_load_J62 σ kb25 ((0 : Int32)) x5 x0 x1 x2 x3 x4 x6 x7 x8 z_3.1 z_3.2 else aw_chk (aw_I σ 20 x1 (((8 : Int32)) + x8)) (f_L_load_J62 σ kb25 (z_3.2.1 x1 (((8 : Int32)) + x8).toNatClampNeg) x5 x0 x1 x2 x3 x4 x6 x7 x8 z_3.1 z_3.2)))
def f_L_load_L25 (σ : Sg) (n : Nat) (k25 : Int32 → Int32 → Int32 → Dt → Option (Int32 × Dt)) (x0 : Nat) (x1 : Nat) (x2 : Nat) (x3 : Int32) (x4 : Int32) : Int32 → Int32 → Int32 → Int32 → Dt → Option (Int32 × Dt) := match n with
  | 0 => fun _ _ _ _ _ => none
  | n + 1 => fun x5 x6 x7 x8 d => f_L_load_B25 σ (f_L_load_L25 σ n k25 x0 x1 x2 x3 x4) k25 x0 x1 x2 x3 x4 x5 x6 x7 x8 d
def f_L_load_J141 (σ : Sg) (kb5 : Int32 → Int32 → Dt → Option (Int32 × Dt)) (t1 : Int32) (t0 : Int32) (x0 : Nat) (x1 : Nat) (x2 : Nat) (x4 : Int32) (d : Dt) : Option (Int32 × Dt) :=
  kb5 (t0 + t1) (x4 + 1) d
def f_L_load_B5 (σ : Sg) (kb5 : Int32 → Int32 → Dt → Option (Int32 × Dt)) (k5 : Int32 → Dt → Option (Int32 × Dt)) (x0 : Nat) (x1 : Nat) (x2 : Nat) (x3 : Int32) (x4 : Int32) (d : Dt) : Option (Int32 × Dt) :=
  aw_chk (aw_I σ 20 x2 ((0 : Int32))) (if (d.1 x2 ((0 : Int32)).toNatClampNeg) ≤ x4 then k5 x3 d else f_L_load_L25 σ aw_FU (fun x5_7 x6_8 x7_9 d_10 => if x7_9 = 0 then f_L_load_J141 σ kb5 ((0 : Int32)) x3 x0 x1 x2 x4 d_10 else f_L_load_J141 σ kb5 (x5_7 - x6_8) x3 x0 x1 x2 x4 d_10) x0 x1 x2 x3 x4 ((0 : Int32)) ((0 : Int32)) ((1 : Int32)) ((0 : Int32)) d)
def f_L_load_L5 (σ : Sg) (n : Nat) (k5 : Int32 → Dt → Option (Int32 × Dt)) (x0 : Nat) (x1 : Nat) (x2 : Nat) : Int32 → Int32 → Dt → Option (Int32 × Dt) := match n with
  | 0 => fun _ _ _ => none
  | n + 1 => fun x3 x4 d => f_L_load_B5 σ (f_L_load_L5 σ n k5 x0 x1 x2) k5 x0 x1 x2 x3 x4 d
def f_L_load (σ : Sg) (x0 : Nat) (x1 : Nat) (x2 : Nat) (d : Dt) : Option (Int32 × Dt) :=
  f_L_load_L5 σ aw_FU (fun x3_11 d_12 => some (x3_11, d_12)) x0 x1 x2 ((0 : Int32)) ((0 : Int32)) d
section W_L_load
variable {p : Program} {l : Launch} {e : Env} {s : State} {m : MethodId} {args : Array Value} {below : List Frame} {meth : Method} {c : Code}
variable {D : va_G} {cA : Nat → ClassId} {base : Nat} {ad : Nat → Nat} {σ : Sg}
set_option maxHeartbeats 4000000 in
set_option maxRecDepth 100000 in
theorem w_L_load_J118 {z : Int32 × Dt} (X : aw_X p c cL_load 10 s RL m meth (some .int)) {kb25 : Int32 → Int32 → Int32 → Int32 → Dt → Option (Int32 × Dt)} {t0 : Int32} {x0 : Nat} {x1 : Nat} {x2 : Nat} {x3 : Int32} {x4 : Int32} {x5 : Int32} {x6 : Int32} {x8 : Int32} {d : Dt} (hf : f_L_load_J118 σ kb25 t0 x0 x1 x2 x3 x4 x5 x6 x8 d = some z) (hkb25 : ∀ (y5 : Int32) (y6 : Int32) (y7 : Int32) (y8 : Int32) (d : Dt), kb25 y5 y6 y7 y8 d = some z → ∀ (H : Heap) (locs : List Loc) (ls : Array Slot), lv_has ls 10 [(0, .ref (ad x0)), (1, .ref (ad x1)), (2, .ref (ad x2)), (3, .int x3), (4, .int x4), (5, .int y5), (6, .int y6), (7, .int y7), (8, .int y8)] → aw_G D cA base ad σ d s H locs → W p l e rm_L_load s m args below meth c H locs 0 0 (aw_Ei D cA base ad σ below args s z) (F0 m 25 ls [])) {H : Heap} {locs : List Loc} {ls : Array Slot} (hl : lv_has ls 10 [(0, .ref (ad x0)), (1, .ref (ad x1)), (2, .ref (ad x2)), (3, .int x3), (4, .int x4), (5, .int x5), (6, .int x6), (8, .int x8)]) (G : aw_G D cA base ad σ d s H locs) : W p l e rm_L_load s m args below meth c H locs 0 0 (aw_Ei D cA base ad σ below args s z) (F0 m 118 ls [.int t0]) := by
  have hx := X.1; have hb := X.2.1; have hml := X.2.2.1; have hown := X.2.2.2.1
  unfold f_L_load_J118 at hf
  refine lv_istore (lv' := [(7, .int t0), (0, .ref (ad x0)), (1, .ref (ad x1)), (2, .ref (ad x2)), (3, .int x3), (4, .int x4), (5, .int x5), (6, .int x6), (8, .int x8)]) hx hb dL_load_118 hl (by decide) rfl (fun ls hl => ?_)
  refine lv_iinc (v := x8 + 1) (lv' := [(8, .int (x8 + 1)), (7, .int t0), (0, .ref (ad x0)), (1, .ref (ad x1)), (2, .ref (ad x2)), (3, .int x3), (4, .int x4), (5, .int x5), (6, .int x6)]) hx hb dL_load_120 hl (k := 8) rfl rfl (by decide) rfl (fun ls hl => ?_)
  refine lv_goto (tgt := 25) hx hb dL_load_123 (by decide) ?_
  exact hkb25 _ _ _ _ _ hf _ _ _ (lv_sub hl [2, 3, 4, 5, 6, 7, 8, 1, 0] rfl) G
set_option maxHeartbeats 4000000 in
set_option maxRecDepth 100000 in
theorem w_L_load_J117 {z : Int32 × Dt} (X : aw_X p c cL_load 10 s RL m meth (some .int)) {kb25 : Int32 → Int32 → Int32 → Int32 → Dt → Option (Int32 × Dt)} {x0 : Nat} {x1 : Nat} {x2 : Nat} {x3 : Int32} {x4 : Int32} {x5 : Int32} {x6 : Int32} {x8 : Int32} {d : Dt} (hf : f_L_load_J117 σ kb25 x0 x1 x2 x3 x4 x5 x6 x8 d = some z) (hkb25 : ∀ (y5 : Int32) (y6 : Int32) (y7 : Int32) (y8 : Int32) (d : Dt), kb25 y5 y6 y7 y8 d = some z → ∀ (H : Heap) (locs : List Loc) (ls : Array Slot), lv_has ls 10 [(0, .ref (ad x0)), (1, .ref (ad x1)), (2, .ref (ad x2)), (3, .int x3), (4, .int x4), (5, .int y5), (6, .int y6), (7, .int y7), (8, .int y8)] → aw_G D cA base ad σ d s H locs → W p l e rm_L_load s m args below meth c H locs 0 0 (aw_Ei D cA base ad σ below args s z) (F0 m 25 ls [])) {H : Heap} {locs : List Loc} {ls : Array Slot} (hl : lv_has ls 10 [(0, .ref (ad x0)), (1, .ref (ad x1)), (2, .ref (ad x2)), (3, .int x3), (4, .int x4), (5, .int x5), (6, .int x6), (8, .int x8)]) (G : aw_G D cA base ad σ d s H locs) : W p l e rm_L_load s m args below meth c H locs 0 0 (aw_Ei D cA base ad σ below args s z) (F0 m 117 ls []) := by
  have hx := X.1; have hb := X.2.1; have hml := X.2.2.1; have hown := X.2.2.2.1
  unfold f_L_load_J117 at hf
  refine lv_iconst (v := (0 : Int32)) hx hb dL_load_117 (by decide) ?_
  exact w_L_load_J118 X hf hkb25 (lv_sub hl [0, 1, 2, 3, 4, 5, 6, 7] rfl) G
set_option maxHeartbeats 4000000 in
set_option maxRecDepth 100000 in
theorem w_L_load_J113 {z : Int32 × Dt} (X : aw_X p c cL_load 10 s RL m meth (some .int)) {kb25 : Int32 → Int32 → Int32 → Int32 → Dt → Option (Int32 × Dt)} {x0 : Nat} {x1 : Nat} {x2 : Nat} {x3 : Int32} {x4 : Int32} {x5 : Int32} {x6 : Int32} {x8 : Int32} {d : Dt} (hf : f_L_load_J113 σ kb25 x0 x1 x2 x3 x4 x5 x6 x8 d = some z) (hkb25 : ∀ (y5 : Int32) (y6 : Int32) (y7 : Int32) (y8 : Int32) (d : Dt), kb25 y5 y6 y7 y8 d = some z → ∀ (H : Heap) (locs : List Loc) (ls : Array Slot), lv_has ls 10 [(0, .ref (ad x0)), (1, .ref (ad x1)), (2, .ref (ad x2)), (3, .int x3), (4, .int x4), (5, .int y5), (6, .int y6), (7, .int y7), (8, .int y8)] → aw_G D cA base ad σ d s H locs → W p l e rm_L_load s m args below meth c H locs 0 0 (aw_Ei D cA base ad σ below args s z) (F0 m 25 ls [])) {H : Heap} {locs : List Loc} {ls : Array Slot} (hl : lv_has ls 10 [(0, .ref (ad x0)), (1, .ref (ad x1)), (2, .ref (ad x2)), (3, .int x3), (4, .int x4), (5, .int x5), (6, .int x6), (8, .int x8)]) (G : aw_G D cA base ad σ d s H locs) : W p l e rm_L_load s m args below meth c H locs 0 0 (aw_Ei D cA base ad σ below args s z) (F0 m 113 ls []) := by
  have hx := X.1; have hb := X.2.1; have hml := X.2.2.1; have hown := X.2.2.2.1
  unfold f_L_load_J113 at hf
  refine lv_iconst (v := (1 : Int32)) hx hb dL_load_113 (by decide) ?_
  refine lv_goto (tgt := 118) hx hb dL_load_114 (by decide) ?_
  exact w_L_load_J118 X hf hkb25 (lv_sub hl [0, 1, 2, 3, 4, 5, 6, 7] rfl) G
set_option maxHeartbeats 4000000 in
set_option maxRecDepth 100000 in
theorem w_L_load_J94 {z : Int32 × Dt} (X : aw_X p c cL_load 10 s RL m meth (some .int)) {kb25 : Int32 → Int32 → Int32 → Int32 → Dt → Option (Int32 × Dt)} {t0 : Int32} {x0 : Nat} {x1 : Nat} {x2 : Nat} {x3 : Int32} {x4 : Int32} {x5 : Int32} {x7 : Int32} {x8 : Int32} {x9 : Int32} {d : Dt} (hf : f_L_load_J94 σ kb25 t0 x0 x1 x2 x3 x4 x5 x7 x8 x9 d = some z) (hkb25 : ∀ (y5 : Int32) (y6 : Int32) (y7 : Int32) (y8 : Int32) (d : Dt), kb25 y5 y6 y7 y8 d = some z → ∀ (H : Heap) (locs : List Loc) (ls : Array Slot), lv_has ls 10 [(0, .ref (ad x0)), (1, .ref (ad x1)), (2, .ref (ad x2)), (3, .int x3), (4, .int x4), (5, .int y5), (6, .int y6), (7, .int y7), (8, .int y8)] → aw_G D cA base ad σ d s H locs → W p l e rm_L_load s m args below meth c H locs 0 0 (aw_Ei D cA base ad σ below args s z) (F0 m 25 ls [])) {H : Heap} {locs : List Loc} {ls : Array Slot} (hl : lv_has ls 10 [(0, .ref (ad x0)), (1, .ref (ad x1)), (2, .ref (ad x2)), (3, .int x3), (4, .int x4), (5, .int x5), (7, .int x7), (8, .int x8), (9, .int x9)]) (G : aw_G D cA base ad σ d s H locs) : W p l e rm_L_load s m args below meth c H locs 0 0 (aw_Ei D cA base ad σ below args s z) (F0 m 94 ls [.int t0]) := by
  have hx := X.1; have hb := X.2.1; have hml := X.2.2.1; have hown := X.2.2.2.1
  unfold f_L_load_J94 at hf
  refine lv_istore (lv' := [(6, .int t0), (0, .ref (ad x0)), (1, .ref (ad x1)), (2, .ref (ad x2)), (3, .int x3), (4, .int x4), (5, .int x5), (7, .int x7), (8, .int x8), (9, .int x9)]) hx hb dL_load_94 hl (by decide) rfl (fun ls hl => ?_)
  refine lv_iload hx hb dL_load_96 (lv_at hl 7 rfl) ?_
  refine lv_if_eq (tgt := 117) hx hb dL_load_98 (by decide) (fun hc => ?_) (fun hc => ?_)
  · have hf := aw_ite_t hc hf
    exact w_L_load_J117 X hf hkb25 (lv_sub hl [1, 2, 3, 4, 5, 6, 0, 8] rfl) G
  · have hf := aw_ite_f hc hf
    refine lv_iload hx hb dL_load_101 (lv_at hl 9 rfl) ?_
    refine lv_if_eq (tgt := 113) hx hb dL_load_103 (by decide) (fun hc => ?_) (fun hc => ?_)
    · have hf := aw_ite_t hc hf
      exact w_L_load_J113 X hf hkb25 (lv_sub hl [1, 2, 3, 4, 5, 6, 0, 8] rfl) G
    · have hf := aw_ite_f hc hf
      refine lv_iload hx hb dL_load_106 (lv_at hl 8 rfl) ?_
      refine lv_iload hx hb dL_load_108 (lv_at hl 5 rfl) ?_
      refine lv_icmp_lt (tgt := 117) hx hb dL_load_110 (by decide) (fun hc => ?_) (fun hc => ?_)
      · have hf := aw_ite_t hc hf
        exact w_L_load_J117 X hf hkb25 (lv_sub hl [1, 2, 3, 4, 5, 6, 0, 8] rfl) G
      · have hf := aw_ite_f hc hf
        exact w_L_load_J113 X hf hkb25 (lv_sub hl [1, 2, 3, 4, 5, 6, 0, 8] rfl) G
set_option maxHeartbeats 4000000 in
set_option maxRecDepth 100000 in
theorem w_L_load_J92 {z : Int32 × Dt} (X : aw_X p c cL_load 10 s RL m meth (some .int)) {kb25 : Int32 → Int32 → Int32 → Int32 → Dt → Option (Int32 × Dt)} {x0 : Nat} {x1 : Nat} {x2 : Nat} {x3 : Int32} {x4 : Int32} {x5 : Int32} {x6 : Int32} {x7 : Int32} {x8 : Int32} {x9 : Int32} {d : Dt} (hf : f_L_load_J92 σ kb25 x0 x1 x2 x3 x4 x5 x6 x7 x8 x9 d = some z) (hkb25 : ∀ (y5 : Int32) (y6 : Int32) (y7 : Int32) (y8 : Int32) (d : Dt), kb25 y5 y6 y7 y8 d = some z → ∀ (H : Heap) (locs : List Loc) (ls : Array Slot), lv_has ls 10 [(0, .ref (ad x0)), (1, .ref (ad x1)), (2, .ref (ad x2)), (3, .int x3), (4, .int x4), (5, .int y5), (6, .int y6), (7, .int y7), (8, .int y8)] → aw_G D cA base ad σ d s H locs → W p l e rm_L_load s m args below meth c H locs 0 0 (aw_Ei D cA base ad σ below args s z) (F0 m 25 ls [])) {H : Heap} {locs : List Loc} {ls : Array Slot} (hl : lv_has ls 10 [(0, .ref (ad x0)), (1, .ref (ad x1)), (2, .ref (ad x2)), (3, .int x3), (4, .int x4), (5, .int x5), (6, .int x6), (7, .int x7), (8, .int x8), (9, .int x9)]) (G : aw_G D cA base ad σ d s H locs) : W p l e rm_L_load s m args below meth c H locs 0 0 (aw_Ei D cA base ad σ below args s z) (F0 m 92 ls []) := by
  have hx := X.1; have hb := X.2.1; have hml := X.2.2.1; have hown := X.2.2.2.1
  unfold f_L_load_J92 at hf
  refine lv_iload hx hb dL_load_92 (lv_at hl 6 rfl) ?_
  exact w_L_load_J94 X hf hkb25 (lv_sub hl [0, 1, 2, 3, 4, 5, 7, 8, 9] rfl) G
set_option maxHeartbeats 4000000 in
set_option maxRecDepth 100000 in
theorem w_L_load_J62 {z : Int32 × Dt} (X : aw_X p c cL_load 10 s RL m meth (some .int)) {kb25 : Int32 → Int32 → Int32 → Int32 → Dt → Option (Int32 × Dt)} {t1 : Int32} {t0 : Int32} {x0 : Nat} {x1 : Nat} {x2 : Nat} {x3 : Int32} {x4 : Int32} {x6 : Int32} {x7 : Int32} {x8 : Int32} {x9 : Int32} {d : Dt} (hf : f_L_load_J62 σ kb25 t1 t0 x0 x1 x2 x3 x4 x6 x7 x8 x9 d = some z) (hkb25 : ∀ (y5 : Int32) (y6 : Int32) (y7 : Int32) (y8 : Int32) (d : Dt), kb25 y5 y6 y7 y8 d = some z → ∀ (H : Heap) (locs : List Loc) (ls : Array Slot), lv_has ls 10 [(0, .ref (ad x0)), (1, .ref (ad x1)), (2, .ref (ad x2)), (3, .int x3), (4, .int x4), (5, .int y5), (6, .int y6), (7, .int y7), (8, .int y8)] → aw_G D cA base ad σ d s H locs → W p l e rm_L_load s m args below meth c H locs 0 0 (aw_Ei D cA base ad σ below args s z) (F0 m 25 ls [])) {H : Heap} {locs : List Loc} {ls : Array Slot} (hl : lv_has ls 10 [(0, .ref (ad x0)), (1, .ref (ad x1)), (2, .ref (ad x2)), (3, .int x3), (4, .int x4), (6, .int x6), (7, .int x7), (8, .int x8), (9, .int x9)]) (G : aw_G D cA base ad σ d s H locs) : W p l e rm_L_load s m args below meth c H locs 0 0 (aw_Ei D cA base ad σ below args s z) (F0 m 62 ls [.int t1, .int t0]) := by
  have hx := X.1; have hb := X.2.1; have hml := X.2.2.1; have hown := X.2.2.2.1
  unfold f_L_load_J62 at hf
  refine lv_iadd hx hb dL_load_62 ?_
  refine lv_istore (lv' := [(5, .int (t0 + t1)), (0, .ref (ad x0)), (1, .ref (ad x1)), (2, .ref (ad x2)), (3, .int x3), (4, .int x4), (6, .int x6), (7, .int x7), (8, .int x8), (9, .int x9)]) hx hb dL_load_63 hl (by decide) rfl (fun ls hl => ?_)
  refine lv_iload hx hb dL_load_65 (lv_at hl 9 rfl) ?_
  refine lv_if_eq (tgt := 92) hx hb dL_load_67 (by decide) (fun hc => ?_) (fun hc => ?_)
  · have hf := aw_ite_t hc hf
    exact w_L_load_J92 X hf hkb25 (lv_sub hl [1, 2, 3, 4, 5, 0, 6, 7, 8, 9] rfl) G
  · have hf := aw_ite_f hc hf
    refine lv_aload_n hx hb dL_load_70 rfl (lv_at hl 2 rfl) ?_
    refine lv_bipush (v := (8 : Int32)) hx hb dL_load_71 (by decide) ?_
    refine lv_iload hx hb dL_load_73 (lv_at hl 8 rfl) ?_
    refine lv_iadd hx hb dL_load_75 ?_
    obtain ⟨hc_5, hf⟩ := aw_chk_some hf
    refine aw_ial hx hb G hc_5 dL_load_76 ?_
    refine lv_iload hx hb dL_load_77 (lv_at hl 6 rfl) ?_
    refine lv_icmp_le (tgt := 92) hx hb dL_load_79 (by decide) (fun hc => ?_) (fun hc => ?_)
    · have hf := aw_ite_t hc hf
      exact w_L_load_J92 X hf hkb25 (lv_sub hl [1, 2, 3, 4, 5, 0, 6, 7, 8, 9] rfl) G
    · have hf := aw_ite_f hc hf
      refine lv_aload_n hx hb dL_load_82 rfl (lv_at hl 2 rfl) ?_
      refine lv_bipush (v := (8 : Int32)) hx hb dL_load_83 (by decide) ?_
      refine lv_iload hx hb dL_load_85 (lv_at hl 8 rfl) ?_
      refine lv_iadd hx hb dL_load_87 ?_
      refine aw_ial hx hb G hc_5 dL_load_88 ?_
      refine lv_goto (tgt := 94) hx hb dL_load_89 (by decide) ?_
      exact w_L_load_J94 X hf hkb25 (lv_sub hl [1, 2, 3, 4, 5, 0, 7, 8, 9] rfl) G
set_option maxHeartbeats 4000000 in
set_option maxRecDepth 100000 in
theorem w_L_load_B25 {z : Int32 × Dt} (X : aw_X p c cL_load 10 s RL m meth (some .int)) {kb25 : Int32 → Int32 → Int32 → Int32 → Dt → Option (Int32 × Dt)} {k25 : Int32 → Int32 → Int32 → Dt → Option (Int32 × Dt)} {x0 : Nat} {x1 : Nat} {x2 : Nat} {x3 : Int32} {x4 : Int32} {x5 : Int32} {x6 : Int32} {x7 : Int32} {x8 : Int32} {d : Dt} (hf : f_L_load_B25 σ kb25 k25 x0 x1 x2 x3 x4 x5 x6 x7 x8 d = some z) (hkb25 : ∀ (y5 : Int32) (y6 : Int32) (y7 : Int32) (y8 : Int32) (d : Dt), kb25 y5 y6 y7 y8 d = some z → ∀ (H : Heap) (locs : List Loc) (ls : Array Slot), lv_has ls 10 [(0, .ref (ad x0)), (1, .ref (ad x1)), (2, .ref (ad x2)), (3, .int x3), (4, .int x4), (5, .int y5), (6, .int y6), (7, .int y7), (8, .int y8)] → aw_G D cA base ad σ d s H locs → W p l e rm_L_load s m args below meth c H locs 0 0 (aw_Ei D cA base ad σ below args s z) (F0 m 25 ls [])) (hk25 : ∀ (y5 : Int32) (y6 : Int32) (y7 : Int32) (d : Dt), k25 y5 y6 y7 d = some z → ∀ (H : Heap) (locs : List Loc) (ls : Array Slot), lv_has ls 10 [(0, .ref (ad x0)), (1, .ref (ad x1)), (2, .ref (ad x2)), (3, .int x3), (4, .int x4), (5, .int y5), (6, .int y6), (7, .int y7)] → aw_G D cA base ad σ d s H locs → W p l e rm_L_load s m args below meth c H locs 0 0 (aw_Ei D cA base ad σ below args s z) (F0 m 126 ls [])) {H : Heap} {locs : List Loc} {ls : Array Slot} (hl : lv_has ls 10 [(0, .ref (ad x0)), (1, .ref (ad x1)), (2, .ref (ad x2)), (3, .int x3), (4, .int x4), (5, .int x5), (6, .int x6), (7, .int x7), (8, .int x8)]) (G : aw_G D cA base ad σ d s H locs) : W p l e rm_L_load s m args below meth c H locs 0 0 (aw_Ei D cA base ad σ below args s z) (F0 m 25 ls []) := by
  have hx := X.1; have hb := X.2.1; have hml := X.2.2.1; have hown := X.2.2.2.1
  unfold f_L_load_B25 at hf
  refine lv_iload hx hb dL_load_25 (lv_at hl 8 rfl) ?_
  refine lv_aload_n hx hb dL_load_27 rfl (lv_at hl 2 rfl) ?_
  refine lv_iconst (v := (0 : Int32)) hx hb dL_load_28 (by decide) ?_
  obtain ⟨hc_2, hf⟩ := aw_chk_some hf
  refine aw_ial hx hb G hc_2 dL_load_29 ?_
  refine lv_icmp_ge (tgt := 126) hx hb dL_load_30 (by decide) (fun hc => ?_) (fun hc => ?_)
  · have hf := aw_ite_t hc hf
    exact hk25 _ _ _ _ hf _ _ _ (lv_sub hl [0, 1, 2, 3, 4, 5, 6, 7] rfl) G
  · have hf := aw_ite_f hc hf
    refine lv_aload_n hx hb dL_load_33 rfl (lv_at hl 0 rfl) ?_
    refine lv_iload hx hb dL_load_34 (lv_at hl 4 rfl) ?_
    refine lv_aload_n hx hb dL_load_36 rfl (lv_at hl 0 rfl) ?_
    refine lv_iload hx hb dL_load_37 (lv_at hl 8 rfl) ?_
    obtain ⟨z_3, hz_4, hf⟩ := aw_bind_some hf
    refine aw_SI (As := [.ref (ad x0), .int x4, .ref (ad x0), .int x8]) (rest := []) X G hl.1 cr_L_89 (c_L_areAlike l hz_4) ⟨rfl, rfl⟩ rfl rfl rfl ⟨Nat.le_of_ble_eq_true rfl, Nat.le_of_ble_eq_true rfl⟩ (Nat.le_of_ble_eq_true rfl) dL_load_39 ⟨Nat.zero_le _, Nat.zero_le _⟩ (fun H locs G => ?_)
    refine lv_istore (lv' := [(9, .int z_3.1), (0, .ref (ad x0)), (1, .ref (ad x1)), (2, .ref (ad x2)), (3, .int x3), (4, .int x4), (5, .int x5), (6, .int x6), (7, .int x7), (8, .int x8)]) hx hb dL_load_42 hl (by decide) rfl (fun ls hl => ?_)
    refine lv_iload hx hb dL_load_44 (lv_at hl 6 rfl) ?_
    refine lv_iload hx hb dL_load_46 (lv_at hl 0 rfl) ?_
    refine lv_if_eq (tgt := 61) hx hb dL_load_48 (by decide) (fun hc => ?_) (fun hc => ?_)
    · have hf := aw_ite_t hc hf
      refine lv_iconst (v := (0 : Int32)) hx hb dL_load_61 (by decide) ?_
      exact w_L_load_J62 X hf hkb25 (lv_sub hl [1, 2, 3, 4, 5, 7, 8, 9, 0] rfl) G
    · have hf := aw_ite_f hc hf
      refine lv_aload_n hx hb dL_load_51 rfl (lv_at hl 2 rfl) ?_
      refine lv_bipush (v := (8 : Int32)) hx hb dL_load_52 (by decide) ?_
      refine lv_iload hx hb dL_load_54 (lv_at hl 9 rfl) ?_
      refine lv_iadd hx hb dL_load_56 ?_
      obtain ⟨hc_6, hf⟩ := aw_chk_some hf
      refine aw_ial hx hb G hc_6 dL_load_57 ?_
      refine lv_goto (tgt := 62) hx hb dL_load_58 (by decide) ?_
      exact w_L_load_J62 X hf hkb25 (lv_sub hl [1, 2, 3, 4, 5, 7, 8, 9, 0] rfl) G
theorem w_L_load_L25 {z : Int32 × Dt} (X : aw_X p c cL_load 10 s RL m meth (some .int)) {k25 : Int32 → Int32 → Int32 → Dt → Option (Int32 × Dt)} {x0 : Nat} {x1 : Nat} {x2 : Nat} {x3 : Int32} {x4 : Int32} (n : Nat) {x5 : Int32} {x6 : Int32} {x7 : Int32} {x8 : Int32} {d : Dt} (hf : f_L_load_L25 σ n k25 x0 x1 x2 x3 x4 x5 x6 x7 x8 d = some z) (hk25 : ∀ (y5 : Int32) (y6 : Int32) (y7 : Int32) (d : Dt), k25 y5 y6 y7 d = some z → ∀ (H : Heap) (locs : List Loc) (ls : Array Slot), lv_has ls 10 [(0, .ref (ad x0)), (1, .ref (ad x1)), (2, .ref (ad x2)), (3, .int x3), (4, .int x4), (5, .int y5), (6, .int y6), (7, .int y7)] → aw_G D cA base ad σ d s H locs → W p l e rm_L_load s m args below meth c H locs 0 0 (aw_Ei D cA base ad σ below args s z) (F0 m 126 ls [])) {H : Heap} {locs : List Loc} {ls : Array Slot} (hl : lv_has ls 10 [(0, .ref (ad x0)), (1, .ref (ad x1)), (2, .ref (ad x2)), (3, .int x3), (4, .int x4), (5, .int x5), (6, .int x6), (7, .int x7), (8, .int x8)]) (G : aw_G D cA base ad σ d s H locs) : W p l e rm_L_load s m args below meth c H locs 0 0 (aw_Ei D cA base ad σ below args s z) (F0 m 25 ls []) := by
  induction n generalizing x5 x6 x7 x8 d H locs ls with
  | zero => exact absurd (show (none : Option (Int32 × Dt)) = some z from hf) (by simp)
  | succ n ih => exact w_L_load_B25 X (kb25 := f_L_load_L25 σ n k25 x0 x1 x2 x3 x4) hf  (fun x5 x6 x7 x8 d hf H locs ls hl G => ih hf hl G) hk25 hl G
set_option maxHeartbeats 4000000 in
set_option maxRecDepth 100000 in
theorem w_L_load_J141 {z : Int32 × Dt} (X : aw_X p c cL_load 10 s RL m meth (some .int)) {kb5 : Int32 → Int32 → Dt → Option (Int32 × Dt)} {t1 : Int32} {t0 : Int32} {x0 : Nat} {x1 : Nat} {x2 : Nat} {x4 : Int32} {d : Dt} (hf : f_L_load_J141 σ kb5 t1 t0 x0 x1 x2 x4 d = some z) (hkb5 : ∀ (y3 : Int32) (y4 : Int32) (d : Dt), kb5 y3 y4 d = some z → ∀ (H : Heap) (locs : List Loc) (ls : Array Slot), lv_has ls 10 [(0, .ref (ad x0)), (1, .ref (ad x1)), (2, .ref (ad x2)), (3, .int y3), (4, .int y4)] → aw_G D cA base ad σ d s H locs → W p l e rm_L_load s m args below meth c H locs 0 0 (aw_Ei D cA base ad σ below args s z) (F0 m 5 ls [])) {H : Heap} {locs : List Loc} {ls : Array Slot} (hl : lv_has ls 10 [(0, .ref (ad x0)), (1, .ref (ad x1)), (2, .ref (ad x2)), (4, .int x4)]) (G : aw_G D cA base ad σ d s H locs) : W p l e rm_L_load s m args below meth c H locs 0 0 (aw_Ei D cA base ad σ below args s z) (F0 m 141 ls [.int t1, .int t0]) := by
  have hx := X.1; have hb := X.2.1; have hml := X.2.2.1; have hown := X.2.2.2.1
  unfold f_L_load_J141 at hf
  refine lv_iadd hx hb dL_load_141 ?_
  refine lv_istore_n (lv' := [(3, .int (t0 + t1)), (0, .ref (ad x0)), (1, .ref (ad x1)), (2, .ref (ad x2)), (4, .int x4)]) hx hb dL_load_142 rfl hl (by decide) rfl (fun ls hl => ?_)
  refine lv_iinc (v := x4 + 1) (lv' := [(4, .int (x4 + 1)), (3, .int (t0 + t1)), (0, .ref (ad x0)), (1, .ref (ad x1)), (2, .ref (ad x2))]) hx hb dL_load_143 hl (k := 4) rfl rfl (by decide) rfl (fun ls hl => ?_)
  refine lv_goto (tgt := 5) hx hb dL_load_146 (by decide) ?_
  exact hkb5 _ _ _ hf _ _ _ (lv_sub hl [2, 3, 4, 1, 0] rfl) G
set_option maxHeartbeats 4000000 in
set_option maxRecDepth 100000 in
theorem w_L_load_B5 {z : Int32 × Dt} (X : aw_X p c cL_load 10 s RL m meth (some .int)) {kb5 : Int32 → Int32 → Dt → Option (Int32 × Dt)} {k5 : Int32 → Dt → Option (Int32 × Dt)} {x0 : Nat} {x1 : Nat} {x2 : Nat} {x3 : Int32} {x4 : Int32} {d : Dt} (hf : f_L_load_B5 σ kb5 k5 x0 x1 x2 x3 x4 d = some z) (hkb5 : ∀ (y3 : Int32) (y4 : Int32) (d : Dt), kb5 y3 y4 d = some z → ∀ (H : Heap) (locs : List Loc) (ls : Array Slot), lv_has ls 10 [(0, .ref (ad x0)), (1, .ref (ad x1)), (2, .ref (ad x2)), (3, .int y3), (4, .int y4)] → aw_G D cA base ad σ d s H locs → W p l e rm_L_load s m args below meth c H locs 0 0 (aw_Ei D cA base ad σ below args s z) (F0 m 5 ls [])) (hk5 : ∀ (y3 : Int32) (d : Dt), k5 y3 d = some z → ∀ (H : Heap) (locs : List Loc) (ls : Array Slot), lv_has ls 10 [(3, .int y3)] → aw_G D cA base ad σ d s H locs → W p l e rm_L_load s m args below meth c H locs 0 0 (aw_Ei D cA base ad σ below args s z) (F0 m 149 ls [])) {H : Heap} {locs : List Loc} {ls : Array Slot} (hl : lv_has ls 10 [(0, .ref (ad x0)), (1, .ref (ad x1)), (2, .ref (ad x2)), (3, .int x3), (4, .int x4)]) (G : aw_G D cA base ad σ d s H locs) : W p l e rm_L_load s m args below meth c H locs 0 0 (aw_Ei D cA base ad σ below args s z) (F0 m 5 ls []) := by
  have hx := X.1; have hb := X.2.1; have hml := X.2.2.1; have hown := X.2.2.2.1
  unfold f_L_load_B5 at hf
  refine lv_iload hx hb dL_load_5 (lv_at hl 4 rfl) ?_
  refine lv_aload_n hx hb dL_load_7 rfl (lv_at hl 2 rfl) ?_
  refine lv_iconst (v := (0 : Int32)) hx hb dL_load_8 (by decide) ?_
  obtain ⟨hc_1, hf⟩ := aw_chk_some hf
  refine aw_ial hx hb G hc_1 dL_load_9 ?_
  refine lv_icmp_ge (tgt := 149) hx hb dL_load_10 (by decide) (fun hc => ?_) (fun hc => ?_)
  · have hf := aw_ite_t hc hf
    exact hk5 _ _ hf _ _ _ (lv_sub hl [3] rfl) G
  · have hf := aw_ite_f hc hf
    refine lv_iconst (v := (0 : Int32)) hx hb dL_load_13 (by decide) ?_
    refine lv_istore (lv' := [(5, .int ((0 : Int32))), (0, .ref (ad x0)), (1, .ref (ad x1)), (2, .ref (ad x2)), (3, .int x3), (4, .int x4)]) hx hb dL_load_14 hl (by decide) rfl (fun ls hl => ?_)
    refine lv_iconst (v := (0 : Int32)) hx hb dL_load_16 (by decide) ?_
    refine lv_istore (lv' := [(6, .int ((0 : Int32))), (5, .int ((0 : Int32))), (0, .ref (ad x0)), (1, .ref (ad x1)), (2, .ref (ad x2)), (3, .int x3), (4, .int x4)]) hx hb dL_load_17 hl (by decide) rfl (fun ls hl => ?_)
    refine lv_iconst (v := (1 : Int32)) hx hb dL_load_19 (by decide) ?_
    refine lv_istore (lv' := [(7, .int ((1 : Int32))), (6, .int ((0 : Int32))), (5, .int ((0 : Int32))), (0, .ref (ad x0)), (1, .ref (ad x1)), (2, .ref (ad x2)), (3, .int x3), (4, .int x4)]) hx hb dL_load_20 hl (by decide) rfl (fun ls hl => ?_)
    refine lv_iconst (v := (0 : Int32)) hx hb dL_load_22 (by decide) ?_
    refine lv_istore (lv' := [(8, .int ((0 : Int32))), (7, .int ((1 : Int32))), (6, .int ((0 : Int32))), (5, .int ((0 : Int32))), (0, .ref (ad x0)), (1, .ref (ad x1)), (2, .ref (ad x2)), (3, .int x3), (4, .int x4)]) hx hb dL_load_23 hl (by decide) rfl (fun ls hl => ?_)
    refine w_L_load_L25 X aw_FU hf  (fun x5_7 x6_8 x7_9 d_10 hf H locs ls hl G => ?_) (lv_sub hl [4, 5, 6, 7, 8, 3, 2, 1, 0] rfl) G
    refine lv_iload_n hx hb dL_load_126 rfl (lv_at hl 3 rfl) ?_
    refine lv_iload hx hb dL_load_127 (lv_at hl 7 rfl) ?_
    refine lv_if_eq (tgt := 140) hx hb dL_load_129 (by decide) (fun hc => ?_) (fun hc => ?_)
    · have hf := aw_ite_t hc hf
      refine lv_iconst (v := (0 : Int32)) hx hb dL_load_140 (by decide) ?_
      exact w_L_load_J141 X hf hkb5 (lv_sub hl [0, 1, 2, 4] rfl) G
    · have hf := aw_ite_f hc hf
      refine lv_iload hx hb dL_load_132 (lv_at hl 5 rfl) ?_
      refine lv_iload hx hb dL_load_134 (lv_at hl 6 rfl) ?_
      refine lv_isub hx hb dL_load_136 ?_
      refine lv_goto (tgt := 141) hx hb dL_load_137 (by decide) ?_
      exact w_L_load_J141 X hf hkb5 (lv_sub hl [0, 1, 2, 4] rfl) G
theorem w_L_load_L5 {z : Int32 × Dt} (X : aw_X p c cL_load 10 s RL m meth (some .int)) {k5 : Int32 → Dt → Option (Int32 × Dt)} {x0 : Nat} {x1 : Nat} {x2 : Nat} (n : Nat) {x3 : Int32} {x4 : Int32} {d : Dt} (hf : f_L_load_L5 σ n k5 x0 x1 x2 x3 x4 d = some z) (hk5 : ∀ (y3 : Int32) (d : Dt), k5 y3 d = some z → ∀ (H : Heap) (locs : List Loc) (ls : Array Slot), lv_has ls 10 [(3, .int y3)] → aw_G D cA base ad σ d s H locs → W p l e rm_L_load s m args below meth c H locs 0 0 (aw_Ei D cA base ad σ below args s z) (F0 m 149 ls [])) {H : Heap} {locs : List Loc} {ls : Array Slot} (hl : lv_has ls 10 [(0, .ref (ad x0)), (1, .ref (ad x1)), (2, .ref (ad x2)), (3, .int x3), (4, .int x4)]) (G : aw_G D cA base ad σ d s H locs) : W p l e rm_L_load s m args below meth c H locs 0 0 (aw_Ei D cA base ad σ below args s z) (F0 m 5 ls []) := by
  induction n generalizing x3 x4 d H locs ls with
  | zero => exact absurd (show (none : Option (Int32 × Dt)) = some z from hf) (by simp)
  | succ n ih => exact w_L_load_B5 X (kb5 := f_L_load_L5 σ n k5 x0 x1 x2) hf  (fun x3 x4 d hf H locs ls hl G => ih hf hl G) hk5 hl G
end W_L_load
set_option maxHeartbeats 4000000 in
set_option maxRecDepth 100000 in
theorem c_L_load (l : Launch) {σ : Sg} {x0 : Nat} {x1 : Nat} {x2 : Nat} {d : Dt} {z : Int32 × Dt} (hf : f_L_load σ x0 x1 x2 d = some z) : aw_Mi l yL_load (Cond.code yL_load cL_load 10 (some .int)) rm_L_load (fun ad => [.ref (ad x0), .ref (ad x1), .ref (ad x2)]) σ d z := by
  intro D cA base ad
  refine aw_ofW (own := RL) (cc := cL_load) (nL := 10) (ret := some .int) (by decide) rfl rfl ?_
  intro p e s m below meth c X hnm G
  have hx := X.1; have hb := X.2.1; have hml := X.2.2.1; have hown := X.2.2.2.1
  refine aw_ls (lv := [(0, .ref (ad x0)), (1, .ref (ad x1)), (2, .ref (ad x2))]) (Nat.le_of_ble_eq_true rfl) rfl (fun ls hl => ?_)
  unfold f_L_load at hf
  refine lv_iconst (v := (0 : Int32)) hx hb dL_load_0 (by decide) ?_
  refine lv_istore_n (lv' := [(3, .int ((0 : Int32))), (0, .ref (ad x0)), (1, .ref (ad x1)), (2, .ref (ad x2))]) hx hb dL_load_1 rfl hl (by decide) rfl (fun ls hl => ?_)
  refine lv_iconst (v := (0 : Int32)) hx hb dL_load_2 (by decide) ?_
  refine lv_istore (lv' := [(4, .int ((0 : Int32))), (3, .int ((0 : Int32))), (0, .ref (ad x0)), (1, .ref (ad x1)), (2, .ref (ad x2))]) hx hb dL_load_3 hl (by decide) rfl (fun ls hl => ?_)
  refine w_L_load_L5 X aw_FU hf  (fun x3_11 d_12 hf H locs ls hl G => ?_) (lv_sub hl [2, 3, 4, 1, 0] rfl) G
  refine lv_iload_n hx hb dL_load_149 rfl (lv_at hl 0 rfl) ?_
  exact aw_reti X G hf dL_load_150
def rm_L_doubts : Room := { frames := 1, cells := 0, slots := 0, locals := 23 }
def f_L_doubts_J41 (σ : Sg) (kb16 : Int32 → Int32 → Dt → Option (Int32 × Dt)) (t1 : Int32) (t0 : Int32) (x0 : Nat) (x1 : Nat) (x3 : Int32) (x4 : Int32) (d : Dt) : Option (Int32 × Dt) :=
  kb16 (t0 + t1) (x4 + 1) d
def f_L_doubts_B16 (σ : Sg) (kb16 : Int32 → Int32 → Dt → Option (Int32 × Dt)) (k16 : Int32 → Dt → Option (Int32 × Dt)) (x0 : Nat) (x1 : Nat) (x3 : Int32) (x2 : Int32) (x4 : Int32) (d : Dt) : Option (Int32 × Dt) :=
  aw_chk (aw_I σ 20 x1 ((0 : Int32))) (if (d.1 x1 ((0 : Int32)).toNatClampNeg) ≤ x4 then k16 x2 d else (f_L_areAlike σ x0 x3 x0 x4 d).bind (fun z_3 => if z_3.1 = 0 then f_L_doubts_J41 σ kb16 ((0 : Int32)) x2 x0 x1 x3 x4 z_3.2 else f_L_doubts_J41 σ kb16 ((1 : Int32)) x2 x0 x1 x3 x4 z_3.2))
def f_L_doubts_L16 (σ : Sg) (n : Nat) (k16 : Int32 → Dt → Option (Int32 × Dt)) (x0 : Nat) (x1 : Nat) (x3 : Int32) : Int32 → Int32 → Dt → Option (Int32 × Dt) := match n with
  | 0 => fun _ _ _ => none
  | n + 1 => fun x2 x4 d => f_L_doubts_B16 σ (f_L_doubts_L16 σ n k16 x0 x1 x3) k16 x0 x1 x3 x2 x4 d
def f_L_doubts_B4 (σ : Sg) (kb4 : Int32 → Int32 → Dt → Option (Int32 × Dt)) (k4 : Int32 → Dt → Option (Int32 × Dt)) (x0 : Nat) (x1 : Nat) (x2 : Int32) (x3 : Int32) (d : Dt) : Option (Int32 × Dt) :=
  aw_chk (aw_I σ 20 x1 ((0 : Int32))) (if (d.1 x1 ((0 : Int32)).toNatClampNeg) ≤ x3 then k4 x2 d else f_L_doubts_L16 σ aw_FU (fun x2_5 d_6 => kb4 x2_5 (x3 + 1) d_6) x0 x1 x3 x2 (x3 + ((1 : Int32))) d)
def f_L_doubts_L4 (σ : Sg) (n : Nat) (k4 : Int32 → Dt → Option (Int32 × Dt)) (x0 : Nat) (x1 : Nat) : Int32 → Int32 → Dt → Option (Int32 × Dt) := match n with
  | 0 => fun _ _ _ => none
  | n + 1 => fun x2 x3 d => f_L_doubts_B4 σ (f_L_doubts_L4 σ n k4 x0 x1) k4 x0 x1 x2 x3 d
def f_L_doubts (σ : Sg) (x0 : Nat) (x1 : Nat) (d : Dt) : Option (Int32 × Dt) :=
  f_L_doubts_L4 σ aw_FU (fun x2_7 d_8 => some (x2_7, d_8)) x0 x1 ((0 : Int32)) ((0 : Int32)) d
section W_L_doubts
variable {p : Program} {l : Launch} {e : Env} {s : State} {m : MethodId} {args : Array Value} {below : List Frame} {meth : Method} {c : Code}
variable {D : va_G} {cA : Nat → ClassId} {base : Nat} {ad : Nat → Nat} {σ : Sg}
set_option maxHeartbeats 4000000 in
set_option maxRecDepth 100000 in
theorem w_L_doubts_J41 {z : Int32 × Dt} (X : aw_X p c cL_doubts 5 s RL m meth (some .int)) {kb16 : Int32 → Int32 → Dt → Option (Int32 × Dt)} {t1 : Int32} {t0 : Int32} {x0 : Nat} {x1 : Nat} {x3 : Int32} {x4 : Int32} {d : Dt} (hf : f_L_doubts_J41 σ kb16 t1 t0 x0 x1 x3 x4 d = some z) (hkb16 : ∀ (y2 : Int32) (y4 : Int32) (d : Dt), kb16 y2 y4 d = some z → ∀ (H : Heap) (locs : List Loc) (ls : Array Slot), lv_has ls 5 [(0, .ref (ad x0)), (1, .ref (ad x1)), (2, .int y2), (3, .int x3), (4, .int y4)] → aw_G D cA base ad σ d s H locs → W p l e rm_L_doubts s m args below meth c H locs 0 0 (aw_Ei D cA base ad σ below args s z) (F0 m 16 ls [])) {H : Heap} {locs : List Loc} {ls : Array Slot} (hl : lv_has ls 5 [(0, .ref (ad x0)), (1, .ref (ad x1)), (3, .int x3), (4, .int x4)]) (G : aw_G D cA base ad σ d s H locs) : W p l e rm_L_doubts s m args below meth c H locs 0 0 (aw_Ei D cA base ad σ below args s z) (F0 m 41 ls [.int t1, .int t0]) := by
  have hx := X.1; have hb := X.2.1; have hml := X.2.2.1; have hown := X.2.2.2.1
  unfold f_L_doubts_J41 at hf
  refine lv_iadd hx hb dL_doubts_41 ?_
  refine lv_istore_n (lv' := [(2, .int (t0 + t1)), (0, .ref (ad x0)), (1, .ref (ad x1)), (3, .int x3), (4, .int x4)]) hx hb dL_doubts_42 rfl hl (by decide) rfl (fun ls hl => ?_)
  refine lv_iinc (v := x4 + 1) (lv' := [(4, .int (x4 + 1)), (2, .int (t0 + t1)), (0, .ref (ad x0)), (1, .ref (ad x1)), (3, .int x3)]) hx hb dL_doubts_43 hl (k := 4) rfl rfl (by decide) rfl (fun ls hl => ?_)
  refine lv_goto (tgt := 16) hx hb dL_doubts_46 (by decide) ?_
  exact hkb16 _ _ _ hf _ _ _ (lv_sub hl [2, 3, 1, 4, 0] rfl) G
set_option maxHeartbeats 4000000 in
set_option maxRecDepth 100000 in
theorem w_L_doubts_B16 {z : Int32 × Dt} (X : aw_X p c cL_doubts 5 s RL m meth (some .int)) {kb16 : Int32 → Int32 → Dt → Option (Int32 × Dt)} {k16 : Int32 → Dt → Option (Int32 × Dt)} {x0 : Nat} {x1 : Nat} {x3 : Int32} {x2 : Int32} {x4 : Int32} {d : Dt} (hf : f_L_doubts_B16 σ kb16 k16 x0 x1 x3 x2 x4 d = some z) (hkb16 : ∀ (y2 : Int32) (y4 : Int32) (d : Dt), kb16 y2 y4 d = some z → ∀ (H : Heap) (locs : List Loc) (ls : Array Slot), lv_has ls 5 [(0, .ref (ad x0)), (1, .ref (ad x1)), (2, .int y2), (3, .int x3), (4, .int y4)] → aw_G D cA base ad σ d s H locs → W p l e rm_L_doubts s m args below meth c H locs 0 0 (aw_Ei D cA base ad σ below args s z) (F0 m 16 ls [])) (hk16 : ∀ (y2 : Int32) (d : Dt), k16 y2 d = some z → ∀ (H : Heap) (locs : List Loc) (ls : Array Slot), lv_has ls 5 [(0, .ref (ad x0)), (1, .ref (ad x1)), (2, .int y2), (3, .int x3)] → aw_G D cA base ad σ d s H locs → W p l e rm_L_doubts s m args below meth c H locs 0 0 (aw_Ei D cA base ad σ below args s z) (F0 m 49 ls [])) {H : Heap} {locs : List Loc} {ls : Array Slot} (hl : lv_has ls 5 [(0, .ref (ad x0)), (1, .ref (ad x1)), (2, .int x2), (3, .int x3), (4, .int x4)]) (G : aw_G D cA base ad σ d s H locs) : W p l e rm_L_doubts s m args below meth c H locs 0 0 (aw_Ei D cA base ad σ below args s z) (F0 m 16 ls []) := by
  have hx := X.1; have hb := X.2.1; have hml := X.2.2.1; have hown := X.2.2.2.1
  unfold f_L_doubts_B16 at hf
  refine lv_iload hx hb dL_doubts_16 (lv_at hl 4 rfl) ?_
  refine lv_aload_n hx hb dL_doubts_18 rfl (lv_at hl 1 rfl) ?_
  refine lv_iconst (v := (0 : Int32)) hx hb dL_doubts_19 (by decide) ?_
  obtain ⟨hc_2, hf⟩ := aw_chk_some hf
  refine aw_ial hx hb G hc_2 dL_doubts_20 ?_
  refine lv_icmp_ge (tgt := 49) hx hb dL_doubts_21 (by decide) (fun hc => ?_) (fun hc => ?_)
  · have hf := aw_ite_t hc hf
    exact hk16 _ _ hf _ _ _ (lv_sub hl [0, 1, 2, 3] rfl) G
  · have hf := aw_ite_f hc hf
    refine lv_iload_n hx hb dL_doubts_24 rfl (lv_at hl 2 rfl) ?_
    refine lv_aload_n hx hb dL_doubts_25 rfl (lv_at hl 0 rfl) ?_
    refine lv_iload_n hx hb dL_doubts_26 rfl (lv_at hl 3 rfl) ?_
    refine lv_aload_n hx hb dL_doubts_27 rfl (lv_at hl 0 rfl) ?_
    refine lv_iload hx hb dL_doubts_28 (lv_at hl 4 rfl) ?_
    obtain ⟨z_3, hz_4, hf⟩ := aw_bind_some hf
    refine aw_SI (As := [.ref (ad x0), .int x3, .ref (ad x0), .int x4]) (rest := [.int x2]) X G hl.1 cr_L_89 (c_L_areAlike l hz_4) ⟨rfl, rfl⟩ rfl rfl rfl ⟨Nat.le_of_ble_eq_true rfl, Nat.le_of_ble_eq_true rfl⟩ (Nat.le_of_ble_eq_true rfl) dL_doubts_30 ⟨Nat.zero_le _, Nat.zero_le _⟩ (fun H locs G => ?_)
    refine lv_if_eq (tgt := 40) hx hb dL_doubts_33 (by decide) (fun hc => ?_) (fun hc => ?_)
    · have hf := aw_ite_t hc hf
      refine lv_iconst (v := (0 : Int32)) hx hb dL_doubts_40 (by decide) ?_
      exact w_L_doubts_J41 X hf hkb16 (lv_sub hl [0, 1, 3, 4] rfl) G
    · have hf := aw_ite_f hc hf
      refine lv_iconst (v := (1 : Int32)) hx hb dL_doubts_36 (by decide) ?_
      refine lv_goto (tgt := 41) hx hb dL_doubts_37 (by decide) ?_
      exact w_L_doubts_J41 X hf hkb16 (lv_sub hl [0, 1, 3, 4] rfl) G
theorem w_L_doubts_L16 {z : Int32 × Dt} (X : aw_X p c cL_doubts 5 s RL m meth (some .int)) {k16 : Int32 → Dt → Option (Int32 × Dt)} {x0 : Nat} {x1 : Nat} {x3 : Int32} (n : Nat) {x2 : Int32} {x4 : Int32} {d : Dt} (hf : f_L_doubts_L16 σ n k16 x0 x1 x3 x2 x4 d = some z) (hk16 : ∀ (y2 : Int32) (d : Dt), k16 y2 d = some z → ∀ (H : Heap) (locs : List Loc) (ls : Array Slot), lv_has ls 5 [(0, .ref (ad x0)), (1, .ref (ad x1)), (2, .int y2), (3, .int x3)] → aw_G D cA base ad σ d s H locs → W p l e rm_L_doubts s m args below meth c H locs 0 0 (aw_Ei D cA base ad σ below args s z) (F0 m 49 ls [])) {H : Heap} {locs : List Loc} {ls : Array Slot} (hl : lv_has ls 5 [(0, .ref (ad x0)), (1, .ref (ad x1)), (2, .int x2), (3, .int x3), (4, .int x4)]) (G : aw_G D cA base ad σ d s H locs) : W p l e rm_L_doubts s m args below meth c H locs 0 0 (aw_Ei D cA base ad σ below args s z) (F0 m 16 ls []) := by
  induction n generalizing x2 x4 d H locs ls with
  | zero => exact absurd (show (none : Option (Int32 × Dt)) = some z from hf) (by simp)
  | succ n ih => exact w_L_doubts_B16 X (kb16 := f_L_doubts_L16 σ n k16 x0 x1 x3) hf  (fun x2 x4 d hf H locs ls hl G => ih hf hl G) hk16 hl G
set_option maxHeartbeats 4000000 in
set_option maxRecDepth 100000 in
theorem w_L_doubts_B4 {z : Int32 × Dt} (X : aw_X p c cL_doubts 5 s RL m meth (some .int)) {kb4 : Int32 → Int32 → Dt → Option (Int32 × Dt)} {k4 : Int32 → Dt → Option (Int32 × Dt)} {x0 : Nat} {x1 : Nat} {x2 : Int32} {x3 : Int32} {d : Dt} (hf : f_L_doubts_B4 σ kb4 k4 x0 x1 x2 x3 d = some z) (hkb4 : ∀ (y2 : Int32) (y3 : Int32) (d : Dt), kb4 y2 y3 d = some z → ∀ (H : Heap) (locs : List Loc) (ls : Array Slot), lv_has ls 5 [(0, .ref (ad x0)), (1, .ref (ad x1)), (2, .int y2), (3, .int y3)] → aw_G D cA base ad σ d s H locs → W p l e rm_L_doubts s m args below meth c H locs 0 0 (aw_Ei D cA base ad σ below args s z) (F0 m 4 ls [])) (hk4 : ∀ (y2 : Int32) (d : Dt), k4 y2 d = some z → ∀ (H : Heap) (locs : List Loc) (ls : Array Slot), lv_has ls 5 [(2, .int y2)] → aw_G D cA base ad σ d s H locs → W p l e rm_L_doubts s m args below meth c H locs 0 0 (aw_Ei D cA base ad σ below args s z) (F0 m 55 ls [])) {H : Heap} {locs : List Loc} {ls : Array Slot} (hl : lv_has ls 5 [(0, .ref (ad x0)), (1, .ref (ad x1)), (2, .int x2), (3, .int x3)]) (G : aw_G D cA base ad σ d s H locs) : W p l e rm_L_doubts s m args below meth c H locs 0 0 (aw_Ei D cA base ad σ below args s z) (F0 m 4 ls []) := by
  have hx := X.1; have hb := X.2.1; have hml := X.2.2.1; have hown := X.2.2.2.1
  unfold f_L_doubts_B4 at hf
  refine lv_iload_n hx hb dL_doubts_4 rfl (lv_at hl 3 rfl) ?_
  refine lv_aload_n hx hb dL_doubts_5 rfl (lv_at hl 1 rfl) ?_
  refine lv_iconst (v := (0 : Int32)) hx hb dL_doubts_6 (by decide) ?_
  obtain ⟨hc_1, hf⟩ := aw_chk_some hf
  refine aw_ial hx hb G hc_1 dL_doubts_7 ?_
  refine lv_icmp_ge (tgt := 55) hx hb dL_doubts_8 (by decide) (fun hc => ?_) (fun hc => ?_)
  · have hf := aw_ite_t hc hf
    exact hk4 _ _ hf _ _ _ (lv_sub hl [2] rfl) G
  · have hf := aw_ite_f hc hf
    refine lv_iload_n hx hb dL_doubts_11 rfl (lv_at hl 3 rfl) ?_
    refine lv_iconst (v := (1 : Int32)) hx hb dL_doubts_12 (by decide) ?_
    refine lv_iadd hx hb dL_doubts_13 ?_
    refine lv_istore (lv' := [(4, .int (x3 + ((1 : Int32)))), (0, .ref (ad x0)), (1, .ref (ad x1)), (2, .int x2), (3, .int x3)]) hx hb dL_doubts_14 hl (by decide) rfl (fun ls hl => ?_)
    refine w_L_doubts_L16 X aw_FU hf  (fun x2_5 d_6 hf H locs ls hl G => ?_) (lv_sub hl [1, 2, 3, 4, 0] rfl) G
    refine lv_iinc (v := x3 + 1) (lv' := [(3, .int (x3 + 1)), (0, .ref (ad x0)), (1, .ref (ad x1)), (2, .int x2_5)]) hx hb dL_doubts_49 hl (k := 3) rfl rfl (by decide) rfl (fun ls hl => ?_)
    refine lv_goto (tgt := 4) hx hb dL_doubts_52 (by decide) ?_
    exact hkb4 _ _ _ hf _ _ _ (lv_sub hl [1, 2, 3, 0] rfl) G
theorem w_L_doubts_L4 {z : Int32 × Dt} (X : aw_X p c cL_doubts 5 s RL m meth (some .int)) {k4 : Int32 → Dt → Option (Int32 × Dt)} {x0 : Nat} {x1 : Nat} (n : Nat) {x2 : Int32} {x3 : Int32} {d : Dt} (hf : f_L_doubts_L4 σ n k4 x0 x1 x2 x3 d = some z) (hk4 : ∀ (y2 : Int32) (d : Dt), k4 y2 d = some z → ∀ (H : Heap) (locs : List Loc) (ls : Array Slot), lv_has ls 5 [(2, .int y2)] → aw_G D cA base ad σ d s H locs → W p l e rm_L_doubts s m args below meth c H locs 0 0 (aw_Ei D cA base ad σ below args s z) (F0 m 55 ls [])) {H : Heap} {locs : List Loc} {ls : Array Slot} (hl : lv_has ls 5 [(0, .ref (ad x0)), (1, .ref (ad x1)), (2, .int x2), (3, .int x3)]) (G : aw_G D cA base ad σ d s H locs) : W p l e rm_L_doubts s m args below meth c H locs 0 0 (aw_Ei D cA base ad σ below args s z) (F0 m 4 ls []) := by
  induction n generalizing x2 x3 d H locs ls with
  | zero => exact absurd (show (none : Option (Int32 × Dt)) = some z from hf) (by simp)
  | succ n ih => exact w_L_doubts_B4 X (kb4 := f_L_doubts_L4 σ n k4 x0 x1) hf  (fun x2 x3 d hf H locs ls hl G => ih hf hl G) hk4 hl G
end W_L_doubts
set_option maxHeartbeats 4000000 in
set_option maxRecDepth 100000 in
theorem c_L_doubts (l : Launch) {σ : Sg} {x0 : Nat} {x1 : Nat} {d : Dt} {z : Int32 × Dt} (hf : f_L_doubts σ x0 x1 d = some z) : aw_Mi l yL_doubts (Cond.code yL_doubts cL_doubts 5 (some .int)) rm_L_doubts (fun ad => [.ref (ad x0), .ref (ad x1)]) σ d z := by
  intro D cA base ad
  refine aw_ofW (own := RL) (cc := cL_doubts) (nL := 5) (ret := some .int) (by decide) rfl rfl ?_
  intro p e s m below meth c X hnm G
  have hx := X.1; have hb := X.2.1; have hml := X.2.2.1; have hown := X.2.2.2.1
  refine aw_ls (lv := [(0, .ref (ad x0)), (1, .ref (ad x1))]) (Nat.le_of_ble_eq_true rfl) rfl (fun ls hl => ?_)
  unfold f_L_doubts at hf
  refine lv_iconst (v := (0 : Int32)) hx hb dL_doubts_0 (by decide) ?_
  refine lv_istore_n (lv' := [(2, .int ((0 : Int32))), (0, .ref (ad x0)), (1, .ref (ad x1))]) hx hb dL_doubts_1 rfl hl (by decide) rfl (fun ls hl => ?_)
  refine lv_iconst (v := (0 : Int32)) hx hb dL_doubts_2 (by decide) ?_
  refine lv_istore_n (lv' := [(3, .int ((0 : Int32))), (2, .int ((0 : Int32))), (0, .ref (ad x0)), (1, .ref (ad x1))]) hx hb dL_doubts_3 rfl hl (by decide) rfl (fun ls hl => ?_)
  refine w_L_doubts_L4 X aw_FU hf  (fun x2_7 d_8 hf H locs ls hl G => ?_) (lv_sub hl [2, 3, 1, 0] rfl) G
  refine lv_iload_n hx hb dL_doubts_55 rfl (lv_at hl 0 rfl) ?_
  exact aw_reti X G hf dL_doubts_56
def rm_L_fit : Room := { frames := 1, cells := 0, slots := 0, locals := 23 }
def f_L_fit_J39 (σ : Sg) (kb6 : Int32 → Int32 → Dt → Option (Int32 × Dt)) (t1 : Int32) (t0 : Int32) (x0 : Nat) (x1 : Nat) (x2 : Nat) (x3 : Nat) (x5 : Int32) (d : Dt) : Option (Int32 × Dt) :=
  kb6 (t0 + t1) (x5 + 1) d
def f_L_fit_B6 (σ : Sg) (kb6 : Int32 → Int32 → Dt → Option (Int32 × Dt)) (k6 : Int32 → Dt → Option (Int32 × Dt)) (x0 : Nat) (x1 : Nat) (x2 : Nat) (x3 : Nat) (x4 : Int32) (x5 : Int32) (d : Dt) : Option (Int32 × Dt) :=
  aw_chk (aw_I σ 20 x3 ((0 : Int32))) (if (d.1 x3 ((0 : Int32)).toNatClampNeg) ≤ x5 then k6 x4 d else (f_L_areAlike σ x0 x5 x1 x5 d).bind (fun z_2 => if z_2.1 = 0 then f_L_fit_J39 σ kb6 ((0 : Int32)) x4 x0 x1 x2 x3 x5 z_2.2 else aw_chk (aw_I σ 20 x2 (((8 : Int32)) + x5)) (f_L_fit_J39 σ kb6 (z_2.2.1 x2 (((8 : Int32)) + x5).toNatClampNeg) x4 x0 x1 x2 x3 x5 z_2.2)))
def f_L_fit_L6 (σ : Sg) (n : Nat) (k6 : Int32 → Dt → Option (Int32 × Dt)) (x0 : Nat) (x1 : Nat) (x2 : Nat) (x3 : Nat) : Int32 → Int32 → Dt → Option (Int32 × Dt) := match n with
  | 0 => fun _ _ _ => none
  | n + 1 => fun x4 x5 d => f_L_fit_B6 σ (f_L_fit_L6 σ n k6 x0 x1 x2 x3) k6 x0 x1 x2 x3 x4 x5 d
def f_L_fit (σ : Sg) (x0 : Nat) (x1 : Nat) (x2 : Nat) (x3 : Nat) (d : Dt) : Option (Int32 × Dt) :=
  f_L_fit_L6 σ aw_FU (fun x4_5 d_6 => some (x4_5, d_6)) x0 x1 x2 x3 ((0 : Int32)) ((0 : Int32)) d
section W_L_fit
variable {p : Program} {l : Launch} {e : Env} {s : State} {m : MethodId} {args : Array Value} {below : List Frame} {meth : Method} {c : Code}
variable {D : va_G} {cA : Nat → ClassId} {base : Nat} {ad : Nat → Nat} {σ : Sg}
set_option maxHeartbeats 4000000 in
set_option maxRecDepth 100000 in
theorem w_L_fit_J39 {z : Int32 × Dt} (X : aw_X p c cL_fit 6 s RL m meth (some .int)) {kb6 : Int32 → Int32 → Dt → Option (Int32 × Dt)} {t1 : Int32} {t0 : Int32} {x0 : Nat} {x1 : Nat} {x2 : Nat} {x3 : Nat} {x5 : Int32} {d : Dt} (hf : f_L_fit_J39 σ kb6 t1 t0 x0 x1 x2 x3 x5 d = some z) (hkb6 : ∀ (y4 : Int32) (y5 : Int32) (d : Dt), kb6 y4 y5 d = some z → ∀ (H : Heap) (locs : List Loc) (ls : Array Slot), lv_has ls 6 [(0, .ref (ad x0)), (1, .ref (ad x1)), (2, .ref (ad x2)), (3, .ref (ad x3)), (4, .int y4), (5, .int y5)] → aw_G D cA base ad σ d s H locs → W p l e rm_L_fit s m args below meth c H locs 0 0 (aw_Ei D cA base ad σ below args s z) (F0 m 6 ls [])) {H : Heap} {locs : List Loc} {ls : Array Slot} (hl : lv_has ls 6 [(0, .ref (ad x0)), (1, .ref (ad x1)), (2, .ref (ad x2)), (3, .ref (ad x3)), (5, .int x5)]) (G : aw_G D cA base ad σ d s H locs) : W p l e rm_L_fit s m args below meth c H locs 0 0 (aw_Ei D cA base ad σ below args s z) (F0 m 39 ls [.int t1, .int t0]) := by
  have hx := X.1; have hb := X.2.1; have hml := X.2.2.1; have hown := X.2.2.2.1
  unfold f_L_fit_J39 at hf
  refine lv_iadd hx hb dL_fit_39 ?_
  refine lv_istore (lv' := [(4, .int (t0 + t1)), (0, .ref (ad x0)), (1, .ref (ad x1)), (2, .ref (ad x2)), (3, .ref (ad x3)), (5, .int x5)]) hx hb dL_fit_40 hl (by decide) rfl (fun ls hl => ?_)
  refine lv_iinc (v := x5 + 1) (lv' := [(5, .int (x5 + 1)), (4, .int (t0 + t1)), (0, .ref (ad x0)), (1, .ref (ad x1)), (2, .ref (ad x2)), (3, .ref (ad x3))]) hx hb dL_fit_42 hl (k := 5) rfl rfl (by decide) rfl (fun ls hl => ?_)
  refine lv_goto (tgt := 6) hx hb dL_fit_45 (by decide) ?_
  exact hkb6 _ _ _ hf _ _ _ (lv_sub hl [2, 3, 4, 5, 1, 0] rfl) G
set_option maxHeartbeats 4000000 in
set_option maxRecDepth 100000 in
theorem w_L_fit_B6 {z : Int32 × Dt} (X : aw_X p c cL_fit 6 s RL m meth (some .int)) {kb6 : Int32 → Int32 → Dt → Option (Int32 × Dt)} {k6 : Int32 → Dt → Option (Int32 × Dt)} {x0 : Nat} {x1 : Nat} {x2 : Nat} {x3 : Nat} {x4 : Int32} {x5 : Int32} {d : Dt} (hf : f_L_fit_B6 σ kb6 k6 x0 x1 x2 x3 x4 x5 d = some z) (hkb6 : ∀ (y4 : Int32) (y5 : Int32) (d : Dt), kb6 y4 y5 d = some z → ∀ (H : Heap) (locs : List Loc) (ls : Array Slot), lv_has ls 6 [(0, .ref (ad x0)), (1, .ref (ad x1)), (2, .ref (ad x2)), (3, .ref (ad x3)), (4, .int y4), (5, .int y5)] → aw_G D cA base ad σ d s H locs → W p l e rm_L_fit s m args below meth c H locs 0 0 (aw_Ei D cA base ad σ below args s z) (F0 m 6 ls [])) (hk6 : ∀ (y4 : Int32) (d : Dt), k6 y4 d = some z → ∀ (H : Heap) (locs : List Loc) (ls : Array Slot), lv_has ls 6 [(4, .int y4)] → aw_G D cA base ad σ d s H locs → W p l e rm_L_fit s m args below meth c H locs 0 0 (aw_Ei D cA base ad σ below args s z) (F0 m 48 ls [])) {H : Heap} {locs : List Loc} {ls : Array Slot} (hl : lv_has ls 6 [(0, .ref (ad x0)), (1, .ref (ad x1)), (2, .ref (ad x2)), (3, .ref (ad x3)), (4, .int x4), (5, .int x5)]) (G : aw_G D cA base ad σ d s H locs) : W p l e rm_L_fit s m args below meth c H locs 0 0 (aw_Ei D cA base ad σ below args s z) (F0 m 6 ls []) := by
  have hx := X.1; have hb := X.2.1; have hml := X.2.2.1; have hown := X.2.2.2.1
  unfold f_L_fit_B6 at hf
  refine lv_iload hx hb dL_fit_6 (lv_at hl 5 rfl) ?_
  refine lv_aload_n hx hb dL_fit_8 rfl (lv_at hl 3 rfl) ?_
  refine lv_iconst (v := (0 : Int32)) hx hb dL_fit_9 (by decide) ?_
  obtain ⟨hc_1, hf⟩ := aw_chk_some hf
  refine aw_ial hx hb G hc_1 dL_fit_10 ?_
  refine lv_icmp_ge (tgt := 48) hx hb dL_fit_11 (by decide) (fun hc => ?_) (fun hc => ?_)
  · have hf := aw_ite_t hc hf
    exact hk6 _ _ hf _ _ _ (lv_sub hl [4] rfl) G
  · have hf := aw_ite_f hc hf
    refine lv_iload hx hb dL_fit_14 (lv_at hl 4 rfl) ?_
    refine lv_aload_n hx hb dL_fit_16 rfl (lv_at hl 0 rfl) ?_
    refine lv_iload hx hb dL_fit_17 (lv_at hl 5 rfl) ?_
    refine lv_aload_n hx hb dL_fit_19 rfl (lv_at hl 1 rfl) ?_
    refine lv_iload hx hb dL_fit_20 (lv_at hl 5 rfl) ?_
    obtain ⟨z_2, hz_3, hf⟩ := aw_bind_some hf
    refine aw_SI (As := [.ref (ad x0), .int x5, .ref (ad x1), .int x5]) (rest := [.int x4]) X G hl.1 cr_L_89 (c_L_areAlike l hz_3) ⟨rfl, rfl⟩ rfl rfl rfl ⟨Nat.le_of_ble_eq_true rfl, Nat.le_of_ble_eq_true rfl⟩ (Nat.le_of_ble_eq_true rfl) dL_fit_22 ⟨Nat.zero_le _, Nat.zero_le _⟩ (fun H locs G => ?_)
    refine lv_if_eq (tgt := 38) hx hb dL_fit_25 (by decide) (fun hc => ?_) (fun hc => ?_)
    · have hf := aw_ite_t hc hf
      refine lv_iconst (v := (0 : Int32)) hx hb dL_fit_38 (by decide) ?_
      exact w_L_fit_J39 X hf hkb6 (lv_sub hl [0, 1, 2, 3, 5] rfl) G
    · have hf := aw_ite_f hc hf
      refine lv_aload_n hx hb dL_fit_28 rfl (lv_at hl 2 rfl) ?_
      refine lv_bipush (v := (8 : Int32)) hx hb dL_fit_29 (by decide) ?_
      refine lv_iload hx hb dL_fit_31 (lv_at hl 5 rfl) ?_
      refine lv_iadd hx hb dL_fit_33 ?_
      obtain ⟨hc_4, hf⟩ := aw_chk_some hf
      refine aw_ial hx hb G hc_4 dL_fit_34 ?_
      refine lv_goto (tgt := 39) hx hb dL_fit_35 (by decide) ?_
      exact w_L_fit_J39 X hf hkb6 (lv_sub hl [0, 1, 2, 3, 5] rfl) G
theorem w_L_fit_L6 {z : Int32 × Dt} (X : aw_X p c cL_fit 6 s RL m meth (some .int)) {k6 : Int32 → Dt → Option (Int32 × Dt)} {x0 : Nat} {x1 : Nat} {x2 : Nat} {x3 : Nat} (n : Nat) {x4 : Int32} {x5 : Int32} {d : Dt} (hf : f_L_fit_L6 σ n k6 x0 x1 x2 x3 x4 x5 d = some z) (hk6 : ∀ (y4 : Int32) (d : Dt), k6 y4 d = some z → ∀ (H : Heap) (locs : List Loc) (ls : Array Slot), lv_has ls 6 [(4, .int y4)] → aw_G D cA base ad σ d s H locs → W p l e rm_L_fit s m args below meth c H locs 0 0 (aw_Ei D cA base ad σ below args s z) (F0 m 48 ls [])) {H : Heap} {locs : List Loc} {ls : Array Slot} (hl : lv_has ls 6 [(0, .ref (ad x0)), (1, .ref (ad x1)), (2, .ref (ad x2)), (3, .ref (ad x3)), (4, .int x4), (5, .int x5)]) (G : aw_G D cA base ad σ d s H locs) : W p l e rm_L_fit s m args below meth c H locs 0 0 (aw_Ei D cA base ad σ below args s z) (F0 m 6 ls []) := by
  induction n generalizing x4 x5 d H locs ls with
  | zero => exact absurd (show (none : Option (Int32 × Dt)) = some z from hf) (by simp)
  | succ n ih => exact w_L_fit_B6 X (kb6 := f_L_fit_L6 σ n k6 x0 x1 x2 x3) hf  (fun x4 x5 d hf H locs ls hl G => ih hf hl G) hk6 hl G
end W_L_fit
set_option maxHeartbeats 4000000 in
set_option maxRecDepth 100000 in
theorem c_L_fit (l : Launch) {σ : Sg} {x0 : Nat} {x1 : Nat} {x2 : Nat} {x3 : Nat} {d : Dt} {z : Int32 × Dt} (hf : f_L_fit σ x0 x1 x2 x3 d = some z) : aw_Mi l yL_fit (Cond.code yL_fit cL_fit 6 (some .int)) rm_L_fit (fun ad => [.ref (ad x0), .ref (ad x1), .ref (ad x2), .ref (ad x3)]) σ d z := by
  intro D cA base ad
  refine aw_ofW (own := RL) (cc := cL_fit) (nL := 6) (ret := some .int) (by decide) rfl rfl ?_
  intro p e s m below meth c X hnm G
  have hx := X.1; have hb := X.2.1; have hml := X.2.2.1; have hown := X.2.2.2.1
  refine aw_ls (lv := [(0, .ref (ad x0)), (1, .ref (ad x1)), (2, .ref (ad x2)), (3, .ref (ad x3))]) (Nat.le_of_ble_eq_true rfl) rfl (fun ls hl => ?_)
  unfold f_L_fit at hf
  refine lv_iconst (v := (0 : Int32)) hx hb dL_fit_0 (by decide) ?_
  refine lv_istore (lv' := [(4, .int ((0 : Int32))), (0, .ref (ad x0)), (1, .ref (ad x1)), (2, .ref (ad x2)), (3, .ref (ad x3))]) hx hb dL_fit_1 hl (by decide) rfl (fun ls hl => ?_)
  refine lv_iconst (v := (0 : Int32)) hx hb dL_fit_3 (by decide) ?_
  refine lv_istore (lv' := [(5, .int ((0 : Int32))), (4, .int ((0 : Int32))), (0, .ref (ad x0)), (1, .ref (ad x1)), (2, .ref (ad x2)), (3, .ref (ad x3))]) hx hb dL_fit_4 hl (by decide) rfl (fun ls hl => ?_)
  refine w_L_fit_L6 X aw_FU hf  (fun x4_5 d_6 hf H locs ls hl G => ?_) (lv_sub hl [2, 3, 4, 5, 1, 0] rfl) G
  refine lv_iload hx hb dL_fit_48 (lv_at hl 0 rfl) ?_
  exact aw_reti X G hf dL_fit_50
