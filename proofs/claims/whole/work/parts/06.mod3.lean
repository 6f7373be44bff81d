/-! X11_errors X11_uses X11_read X11_primes X11_primer X11_cost X11_leastCost X11_key -/
def rm_X11_errors : Room := { frames := 4, cells := 0, slots := 0, locals := 100 }
def f_X11_errors_J131 (σ : Sg) (kb65 : Int32 → Int32 → Dt → Option (Int32 × Dt)) (t0 : Int32) (x0 : Nat) (x1 : Int32) (x2 : Int32) (x3 : Int32) (x4 : Int32) (x6 : Int32) (d : Dt) : Option (Int32 × Dt) :=
  kb65 t0 (x6 + 1) d
def f_X11_errors_J126 (σ : Sg) (kb65 : Int32 → Int32 → Dt → Option (Int32 × Dt)) (x0 : Nat) (x1 : Int32) (x2 : Int32) (x3 : Int32) (x4 : Int32) (x6 : Int32) (d : Dt) : Option (Int32 × Dt) :=
  f_X11_errors_J131 σ kb65 ((1 : Int32)) x0 x1 x2 x3 x4 x6 d
def f_X11_errors_J130 (σ : Sg) (kb65 : Int32 → Int32 → Dt → Option (Int32 × Dt)) (x0 : Nat) (x1 : Int32) (x2 : Int32) (x3 : Int32) (x4 : Int32) (x6 : Int32) (d : Dt) : Option (Int32 × Dt) :=
  f_X11_errors_J131 σ kb65 ((0 : Int32)) x0 x1 x2 x3 x4 x6 d
def f_X11_errors_B65 (σ : Sg) (kb65 : Int32 → Int32 → Dt → Option (Int32 × Dt)) (k65 : Int32 → Dt → Option (Int32 × Dt)) (x0 : Nat) (x1 : Int32) (x2 : Int32) (x3 : Int32) (x4 : Int32) (x5 : Int32) (x6 : Int32) (d : Dt) : Option (Int32 × Dt) :=
  if ((50 : Int32)) ≤ x6 then k65 x5 d else aw_chk (aw_O σ 11 32 x0) ((f_X11_isOf σ x0 x1 x4 d).bind (fun z_15 => if z_15.1 = 0 then k65 x5 z_15.2 else if x5 = 0 then if x6 = x4 then f_X11_errors_J130 σ kb65 x0 x1 x2 x3 x4 x6 z_15.2 else (f_X11_isOf σ x0 x1 x6 z_15.2).bind (fun z_18 => if z_18.1 = 0 then f_X11_errors_J130 σ kb65 x0 x1 x2 x3 x4 x6 z_18.2 else (σ.2.2 x0 17).bind (fun q_20 => aw_chk (aw_I σ 20 q_20 x4) (aw_chk (aw_I σ 20 q_20 x6) ((f_X11_far σ x0 (z_18.2.1 q_20 x4.toNatClampNeg) (z_18.2.1 q_20 x6.toNatClampNeg) z_18.2).bind (fun z_24 => if x2 < z_24.1 then f_X11_errors_J130 σ kb65 x0 x1 x2 x3 x4 x6 z_24.2 else f_X11_errors_J126 σ kb65 x0 x1 x2 x3 x4 x6 z_24.2))))) else f_X11_errors_J126 σ kb65 x0 x1 x2 x3 x4 x6 z_15.2))
def f_X11_errors_L65 (σ : Sg) (n : Nat) (k65 : Int32 → Dt → Option (Int32 × Dt)) (x0 : Nat) (x1 : Int32) (x2 : Int32) (x3 : Int32) (x4 : Int32) : Int32 → Int32 → Dt → Option (Int32 × Dt) := match n with
  | 0 => fun _ _ _ => none
  | n + 1 => fun x5 x6 d => f_X11_errors_B65 σ (f_X11_errors_L65 σ n k65 x0 x1 x2 x3 x4) k65 x0 x1 x2 x3 x4 x5 x6 d
def f_X11_errors_J205 (σ : Sg) (kb163 : Int32 → Int32 → Dt → Option (Int32 × Dt)) (t1 : Int32) (t0 : Int32) (x0 : Nat) (x1 : Int32) (x2 : Int32) (x4 : Int32) (x5 : Int32) (x6 : Int32) (x7 : Int32) (d : Dt) : Option (Int32 × Dt) :=
  kb163 (t0 + t1) (x7 + 1) d
def f_X11_errors_B163 (σ : Sg) (kb163 : Int32 → Int32 → Dt → Option (Int32 × Dt)) (k163 : Int32 → Dt → Option (Int32 × Dt)) (x0 : Nat) (x1 : Int32) (x2 : Int32) (x4 : Int32) (x5 : Int32) (x6 : Int32) (x3 : Int32) (x7 : Int32) (d : Dt) : Option (Int32 × Dt) :=
  aw_chk (aw_O σ 11 32 x0) ((σ.2.2 x0 22).bind (fun q_30 => aw_chk (aw_I σ 20 q_30 x6) (if ((((16 : Int32)) * x6) + (d.1 q_30 x6.toNatClampNeg)) ≤ x7 then k163 x3 d else (σ.2.2 x0 21).bind (fun q_33 => aw_chk (aw_I σ 20 q_33 x7) (if (d.1 q_33 x7.toNatClampNeg) = x4 then (σ.2.2 x0 5).bind (fun q_36 => aw_chk (aw_I σ 20 q_36 x6) (f_X11_errors_J205 σ kb163 (d.1 q_36 x6.toNatClampNeg) x3 x0 x1 x2 x4 x5 x6 x7 d)) else f_X11_errors_J205 σ kb163 ((0 : Int32)) x3 x0 x1 x2 x4 x5 x6 x7 d)))))
def f_X11_errors_L163 (σ : Sg) (n : Nat) (k163 : Int32 → Dt → Option (Int32 × Dt)) (x0 : Nat) (x1 : Int32) (x2 : Int32) (x4 : Int32) (x5 : Int32) (x6 : Int32) : Int32 → Int32 → Dt → Option (Int32 × Dt) := match n with
  | 0 => fun _ _ _ => none
  | n + 1 => fun x3 x7 d => f_X11_errors_B163 σ (f_X11_errors_L163 σ n k163 x0 x1 x2 x4 x5 x6) k163 x0 x1 x2 x4 x5 x6 x3 x7 d
def f_X11_errors_B142 (σ : Sg) (kb142 : Int32 → Int32 → Dt → Option (Int32 × Dt)) (k142 : Int32 → Dt → Option (Int32 × Dt)) (x0 : Nat) (x1 : Int32) (x2 : Int32) (x4 : Int32) (x5 : Int32) (x3 : Int32) (x6 : Int32) (d : Dt) : Option (Int32 × Dt) :=
  aw_chk (aw_O σ 11 32 x0) (if (d.1 x0 2) ≤ x6 then k142 x3 d else if x5 = 0 then k142 x3 d else f_X11_errors_L163 σ aw_FU (fun x3_39 d_40 => kb142 x3_39 (x6 + 1) d_40) x0 x1 x2 x4 x5 x6 x3 (((16 : Int32)) * x6) d)
def f_X11_errors_L142 (σ : Sg) (n : Nat) (k142 : Int32 → Dt → Option (Int32 × Dt)) (x0 : Nat) (x1 : Int32) (x2 : Int32) (x4 : Int32) (x5 : Int32) : Int32 → Int32 → Dt → Option (Int32 × Dt) := match n with
  | 0 => fun _ _ _ => none
  | n + 1 => fun x3 x6 d => f_X11_errors_B142 σ (f_X11_errors_L142 σ n k142 x0 x1 x2 x4 x5) k142 x0 x1 x2 x4 x5 x3 x6 d
def f_X11_errors_J219 (σ : Sg) (kb52 : Int32 → Int32 → Dt → Option (Int32 × Dt)) (x0 : Nat) (x1 : Int32) (x2 : Int32) (x3 : Int32) (x4 : Int32) (d : Dt) : Option (Int32 × Dt) :=
  kb52 x3 (x4 + 1) d
def f_X11_errors_J139 (σ : Sg) (kb52 : Int32 → Int32 → Dt → Option (Int32 × Dt)) (x0 : Nat) (x1 : Int32) (x2 : Int32) (x3 : Int32) (x4 : Int32) (x5 : Int32) (d : Dt) : Option (Int32 × Dt) :=
  f_X11_errors_L142 σ aw_FU (fun x3_41 d_42 => f_X11_errors_J219 σ kb52 x0 x1 x2 x3_41 x4 d_42) x0 x1 x2 x4 x5 x3 ((0 : Int32)) d
def f_X11_errors_B52 (σ : Sg) (kb52 : Int32 → Int32 → Dt → Option (Int32 × Dt)) (k52 : Int32 → Dt → Option (Int32 × Dt)) (x0 : Nat) (x1 : Int32) (x2 : Int32) (x3 : Int32) (x4 : Int32) (d : Dt) : Option (Int32 × Dt) :=
  if ((50 : Int32)) ≤ x4 then k52 x3 d else f_X11_errors_L65 σ aw_FU (fun x5_26 d_27 => f_X11_errors_J139 σ kb52 x0 x1 x2 x3 x4 x5_26 d_27) x0 x1 x2 x3 x4 ((0 : Int32)) ((0 : Int32)) d
def f_X11_errors_L52 (σ : Sg) (n : Nat) (k52 : Int32 → Dt → Option (Int32 × Dt)) (x0 : Nat) (x1 : Int32) (x2 : Int32) : Int32 → Int32 → Dt → Option (Int32 × Dt) := match n with
  | 0 => fun _ _ _ => none
  | n + 1 => fun x3 x4 d => f_X11_errors_B52 σ (f_X11_errors_L52 σ n k52 x0 x1 x2) k52 x0 x1 x2 x3 x4 d
def f_X11_errors_J27 (σ : Sg) (t1 : Int32) (t0 : Nat) (x0 : Nat) (x1 : Int32) (x2 : Int32) (d : Dt) : Option (Int32 × Dt) :=
  aw_chk (aw_O σ 11 32 t0) ((f_X11_fails σ t0 t1 d).bind (fun z_6 => if z_6.1 = 0 then aw_chk (aw_O σ 11 32 x0) ((σ.2.2 x0 13).bind (fun q_10 => aw_chk (aw_I σ 20 q_10 x1) ((f_X11_spellsAll σ x0 x1 (z_6.2.1 q_10 x1.toNatClampNeg) ((0 : Int32)) z_6.2).bind (fun z_13 => f_X11_errors_L52 σ aw_FU (fun x3_43 d_44 => some (x3_43, d_44)) x0 x1 x2 ((0 : Int32)) ((0 : Int32)) z_13.2)))) else some ((0 : Int32), z_6.2)))
def f_X11_errors (σ : Sg) (x0 : Nat) (x1 : Int32) (x2 : Int32) (d : Dt) : Option (Int32 × Dt) :=
  aw_chk (aw_O σ 11 32 x0) ((f_X11_isDesign σ x0 x1 d).bind (fun z_1 => if z_1.1 = 0 then f_X11_errors_J27 σ ((1 : Int32)) x0 x0 x1 x2 z_1.2 else (f_X11_isIn σ x2 ((0 : Int32)) ((4 : Int32)) z_1.2).bind (fun z_4 => if z_4.1 = 0 then f_X11_errors_J27 σ ((2 : Int32)) x0 x0 x1 x2 z_4.2 else f_X11_errors_J27 σ ((0 : Int32)) x0 x0 x1 x2 z_4.2)))
section W_X11_errors
variable {p : Program} {l : Launch} {e : Env} {s : State} {m : MethodId} {args : Array Value} {below : List Frame} {meth : Method} {c : Code}
variable {D : va_G} {cA : Nat → ClassId} {base : Nat} {ad : Nat → Nat} {σ : Sg}
set_option maxHeartbeats 4000000 in
set_option maxRecDepth 100000 in
theorem w_X11_errors_J131 {z : Int32 × Dt} (X : aw_X p c cX11_errors 8 s RX11 m meth (some .int)) {kb65 : Int32 → Int32 → Dt → Option (Int32 × Dt)} {t0 : Int32} {x0 : Nat} {x1 : Int32} {x2 : Int32} {x3 : Int32} {x4 : Int32} {x6 : Int32} {d : Dt} (hf : f_X11_errors_J131 σ kb65 t0 x0 x1 x2 x3 x4 x6 d = some z) (hkb65 : ∀ (y5 : Int32) (y6 : Int32) (d : Dt), kb65 y5 y6 d = some z → ∀ (H : Heap) (locs : List Loc) (ls : Array Slot), lv_has ls 8 [(0, .ref (ad x0)), (1, .int x1), (2, .int x2), (3, .int x3), (4, .int x4), (5, .int y5), (6, .int y6)] → aw_G D cA base ad σ d s H locs → W p l e rm_X11_errors s m args below meth c H locs 0 0 (aw_Ei D cA base ad σ below args s z) (F0 m 65 ls [])) {H : Heap} {locs : List Loc} {ls : Array Slot} (hl : lv_has ls 8 [(0, .ref (ad x0)), (1, .int x1), (2, .int x2), (3, .int x3), (4, .int x4), (6, .int x6)]) (G : aw_G D cA base ad σ d s H locs) : W p l e rm_X11_errors s m args below meth c H locs 0 0 (aw_Ei D cA base ad σ below args s z) (F0 m 131 ls [.int t0]) := by
  have hx := X.1; have hb := X.2.1; have hml := X.2.2.1; have hown := X.2.2.2.1
  unfold f_X11_errors_J131 at hf
  refine lv_istore (lv' := [(5, .int t0), (0, .ref (ad x0)), (1, .int x1), (2, .int x2), (3, .int x3), (4, .int x4), (6, .int x6)]) hx hb dX11_errors_131 hl (by decide) rfl (fun ls hl => ?_)
  refine lv_iinc (v := x6 + 1) (lv' := [(6, .int (x6 + 1)), (5, .int t0), (0, .ref (ad x0)), (1, .int x1), (2, .int x2), (3, .int x3), (4, .int x4)]) hx hb dX11_errors_133 hl (k := 6) rfl rfl (by decide) rfl (fun ls hl => ?_)
  refine lv_goto (tgt := 65) hx hb dX11_errors_136 (by decide) ?_
  exact hkb65 _ _ _ hf _ _ _ (lv_sub hl [2, 3, 4, 5, 6, 1, 0] rfl) G
set_option maxHeartbeats 4000000 in
set_option maxRecDepth 100000 in
theorem w_X11_errors_J126 {z : Int32 × Dt} (X : aw_X p c cX11_errors 8 s RX11 m meth (some .int)) {kb65 : Int32 → Int32 → Dt → Option (Int32 × Dt)} {x0 : Nat} {x1 : Int32} {x2 : Int32} {x3 : Int32} {x4 : Int32} {x6 : Int32} {d : Dt} (hf : f_X11_errors_J126 σ kb65 x0 x1 x2 x3 x4 x6 d = some z) (hkb65 : ∀ (y5 : Int32) (y6 : Int32) (d : Dt), kb65 y5 y6 d = some z → ∀ (H : Heap) (locs : List Loc) (ls : Array Slot), lv_has ls 8 [(0, .ref (ad x0)), (1, .int x1), (2, .int x2), (3, .int x3), (4, .int x4), (5, .int y5), (6, .int y6)] → aw_G D cA base ad σ d s H locs → W p l e rm_X11_errors s m args below meth c H locs 0 0 (aw_Ei D cA base ad σ below args s z) (F0 m 65 ls [])) {H : Heap} {locs : List Loc} {ls : Array Slot} (hl : lv_has ls 8 [(0, .ref (ad x0)), (1, .int x1), (2, .int x2), (3, .int x3), (4, .int x4), (6, .int x6)]) (G : aw_G D cA base ad σ d s H locs) : W p l e rm_X11_errors s m args below meth c H locs 0 0 (aw_Ei D cA base ad σ below args s z) (F0 m 126 ls []) := by
  have hx := X.1; have hb := X.2.1; have hml := X.2.2.1; have hown := X.2.2.2.1
  unfold f_X11_errors_J126 at hf
  refine lv_iconst (v := (1 : Int32)) hx hb dX11_errors_126 (by decide) ?_
  refine lv_goto (tgt := 131) hx hb dX11_errors_127 (by decide) ?_
  exact w_X11_errors_J131 X hf hkb65 (lv_sub hl [0, 1, 2, 3, 4, 5] rfl) G
set_option maxHeartbeats 4000000 in
set_option maxRecDepth 100000 in
theorem w_X11_errors_J130 {z : Int32 × Dt} (X : aw_X p c cX11_errors 8 s RX11 m meth (some .int)) {kb65 : Int32 → Int32 → Dt → Option (Int32 × Dt)} {x0 : Nat} {x1 : Int32} {x2 : Int32} {x3 : Int32} {x4 : Int32} {x6 : Int32} {d : Dt} (hf : f_X11_errors_J130 σ kb65 x0 x1 x2 x3 x4 x6 d = some z) (hkb65 : ∀ (y5 : Int32) (y6 : Int32) (d : Dt), kb65 y5 y6 d = some z → ∀ (H : Heap) (locs : List Loc) (ls : Array Slot), lv_has ls 8 [(0, .ref (ad x0)), (1, .int x1), (2, .int x2), (3, .int x3), (4, .int x4), (5, .int y5), (6, .int y6)] → aw_G D cA base ad σ d s H locs → W p l e rm_X11_errors s m args below meth c H locs 0 0 (aw_Ei D cA base ad σ below args s z) (F0 m 65 ls [])) {H : Heap} {locs : List Loc} {ls : Array Slot} (hl : lv_has ls 8 [(0, .ref (ad x0)), (1, .int x1), (2, .int x2), (3, .int x3), (4, .int x4), (6, .int x6)]) (G : aw_G D cA base ad σ d s H locs) : W p l e rm_X11_errors s m args below meth c H locs 0 0 (aw_Ei D cA base ad σ below args s z) (F0 m 130 ls []) := by
  have hx := X.1; have hb := X.2.1; have hml := X.2.2.1; have hown := X.2.2.2.1
  unfold f_X11_errors_J130 at hf
  refine lv_iconst (v := (0 : Int32)) hx hb dX11_errors_130 (by decide) ?_
  exact w_X11_errors_J131 X hf hkb65 (lv_sub hl [0, 1, 2, 3, 4, 5] rfl) G
set_option maxHeartbeats 4000000 in
set_option maxRecDepth 100000 in
theorem w_X11_errors_B65 {z : Int32 × Dt} (X : aw_X p c cX11_errors 8 s RX11 m meth (some .int)) {kb65 : Int32 → Int32 → Dt → Option (Int32 × Dt)} {k65 : Int32 → Dt → Option (Int32 × Dt)} {x0 : Nat} {x1 : Int32} {x2 : Int32} {x3 : Int32} {x4 : Int32} {x5 : Int32} {x6 : Int32} {d : Dt} (hf : f_X11_errors_B65 σ kb65 k65 x0 x1 x2 x3 x4 x5 x6 d = some z) (hkb65 : ∀ (y5 : Int32) (y6 : Int32) (d : Dt), kb65 y5 y6 d = some z → ∀ (H : Heap) (locs : List Loc) (ls : Array Slot), lv_has ls 8 [(0, .ref (ad x0)), (1, .int x1), (2, .int x2), (3, .int x3), (4, .int x4), (5, .int y5), (6, .int y6)] → aw_G D cA base ad σ d s H locs → W p l e rm_X11_errors s m args below meth c H locs 0 0 (aw_Ei D cA base ad σ below args s z) (F0 m 65 ls [])) (hk65 : ∀ (y5 : Int32) (d : Dt), k65 y5 d = some z → ∀ (H : Heap) (locs : List Loc) (ls : Array Slot), lv_has ls 8 [(0, .ref (ad x0)), (1, .int x1), (2, .int x2), (3, .int x3), (4, .int x4), (5, .int y5)] → aw_G D cA base ad σ d s H locs → W p l e rm_X11_errors s m args below meth c H locs 0 0 (aw_Ei D cA base ad σ below args s z) (F0 m 139 ls [])) {H : Heap} {locs : List Loc} {ls : Array Slot} (hl : lv_has ls 8 [(0, .ref (ad x0)), (1, .int x1), (2, .int x2), (3, .int x3), (4, .int x4), (5, .int x5), (6, .int x6)]) (G : aw_G D cA base ad σ d s H locs) : W p l e rm_X11_errors s m args below meth c H locs 0 0 (aw_Ei D cA base ad σ below args s z) (F0 m 65 ls []) := by
  have hx := X.1; have hb := X.2.1; have hml := X.2.2.1; have hown := X.2.2.2.1
  unfold f_X11_errors_B65 at hf
  refine lv_iload hx hb dX11_errors_65 (lv_at hl 6 rfl) ?_
  refine lv_bipush (v := (50 : Int32)) hx hb dX11_errors_67 (by decide) ?_
  refine lv_icmp_ge (tgt := 139) hx hb dX11_errors_69 (by decide) (fun hc => ?_) (fun hc => ?_)
  · have hf := aw_ite_t hc hf
    exact hk65 _ _ hf _ _ _ (lv_sub hl [0, 1, 2, 3, 4, 5] rfl) G
  · have hf := aw_ite_f hc hf
    refine lv_aload_n hx hb dX11_errors_72 rfl (lv_at hl 0 rfl) ?_
    refine lv_iload_n hx hb dX11_errors_73 rfl (lv_at hl 1 rfl) ?_
    refine lv_iload hx hb dX11_errors_74 (lv_at hl 4 rfl) ?_
    obtain ⟨hc_17, hf⟩ := aw_chk_some hf
    obtain ⟨z_15, hz_16, hf⟩ := aw_bind_some hf
    refine aw_VI (As := [.int x1, .int x4]) (rest := []) X G hl.1 cr_X11_189 (c_X11_isOf l hz_16) ⟨rfl, rfl⟩ rfl rfl rfl (by decide) hc_17 rfl ⟨Nat.le_of_ble_eq_true rfl, Nat.le_of_ble_eq_true rfl⟩ (Nat.le_of_ble_eq_true rfl) dX11_errors_76 ⟨Nat.zero_le _, Nat.zero_le _⟩ (fun H locs G => ?_)
    refine lv_if_eq (tgt := 139) hx hb dX11_errors_79 (by decide) (fun hc => ?_) (fun hc => ?_)
    · have hf := aw_ite_t hc hf
      exact hk65 _ _ hf _ _ _ (lv_sub hl [0, 1, 2, 3, 4, 5] rfl) G
    · have hf := aw_ite_f hc hf
      refine lv_iload hx hb dX11_errors_82 (lv_at hl 5 rfl) ?_
      refine lv_if_ne (tgt := 126) hx hb dX11_errors_84 (by decide) (fun hc => ?_) (fun hc => ?_)
      · have hf := aw_ite_f hc hf
        exact w_X11_errors_J126 X hf hkb65 (lv_sub hl [0, 1, 2, 3, 4, 6] rfl) G
      · have hf := aw_ite_t hc hf
        refine lv_iload hx hb dX11_errors_87 (lv_at hl 6 rfl) ?_
        refine lv_iload hx hb dX11_errors_89 (lv_at hl 4 rfl) ?_
        refine lv_icmp_eq (tgt := 130) hx hb dX11_errors_91 (by decide) (fun hc => ?_) (fun hc => ?_)
        · have hf := aw_ite_t hc hf
          exact w_X11_errors_J130 X hf hkb65 (lv_sub hl [0, 1, 2, 3, 4, 6] rfl) G
        · have hf := aw_ite_f hc hf
          refine lv_aload_n hx hb dX11_errors_94 rfl (lv_at hl 0 rfl) ?_
          refine lv_iload_n hx hb dX11_errors_95 rfl (lv_at hl 1 rfl) ?_
          refine lv_iload hx hb dX11_errors_96 (lv_at hl 6 rfl) ?_
          obtain ⟨z_18, hz_19, hf⟩ := aw_bind_some hf
          refine aw_VI (As := [.int x1, .int x6]) (rest := []) X G hl.1 cr_X11_189 (c_X11_isOf l hz_19) ⟨rfl, rfl⟩ rfl rfl rfl (by decide) hc_17 rfl ⟨Nat.le_of_ble_eq_true rfl, Nat.le_of_ble_eq_true rfl⟩ (Nat.le_of_ble_eq_true rfl) dX11_errors_98 ⟨Nat.zero_le _, Nat.zero_le _⟩ (fun H locs G => ?_)
          refine lv_if_eq (tgt := 130) hx hb dX11_errors_101 (by decide) (fun hc => ?_) (fun hc => ?_)
          · have hf := aw_ite_t hc hf
            exact w_X11_errors_J130 X hf hkb65 (lv_sub hl [0, 1, 2, 3, 4, 6] rfl) G
          · have hf := aw_ite_f hc hf
            refine lv_aload_n hx hb dX11_errors_104 rfl (lv_at hl 0 rfl) ?_
            refine lv_aload_n hx hb dX11_errors_105 rfl (lv_at hl 0 rfl) ?_
            obtain ⟨q_20, hq_21, hf⟩ := aw_bind_some hf
            refine gf_X11_53 hx hb G hown hc_17 hq_21 dX11_errors_106 ?_
            refine lv_iload hx hb dX11_errors_109 (lv_at hl 4 rfl) ?_
            obtain ⟨hc_22, hf⟩ := aw_chk_some hf
            refine aw_ial hx hb G hc_22 dX11_errors_111 ?_
            refine lv_aload_n hx hb dX11_errors_112 rfl (lv_at hl 0 rfl) ?_
            refine gf_X11_53 hx hb G hown hc_17 hq_21 dX11_errors_113 ?_
            refine lv_iload hx hb dX11_errors_116 (lv_at hl 6 rfl) ?_
            obtain ⟨hc_23, hf⟩ := aw_chk_some hf
            refine aw_ial hx hb G hc_23 dX11_errors_118 ?_
            obtain ⟨z_24, hz_25, hf⟩ := aw_bind_some hf
            refine aw_VI (As := [.int (z_18.2.1 q_20 x4.toNatClampNeg), .int (z_18.2.1 q_20 x6.toNatClampNeg)]) (rest := []) X G hl.1 cr_X11_186 (c_X11_far l hz_25) ⟨rfl, rfl⟩ rfl rfl rfl (by decide) hc_17 rfl ⟨Nat.le_of_ble_eq_true rfl, Nat.le_of_ble_eq_true rfl⟩ (Nat.le_of_ble_eq_true rfl) dX11_errors_119 ⟨Nat.zero_le _, Nat.zero_le _⟩ (fun H locs G => ?_)
            refine lv_iload_n hx hb dX11_errors_122 rfl (lv_at hl 2 rfl) ?_
            refine lv_icmp_gt (tgt := 130) hx hb dX11_errors_123 (by decide) (fun hc => ?_) (fun hc => ?_)
            · have hf := aw_ite_t hc hf
              exact w_X11_errors_J130 X hf hkb65 (lv_sub hl [0, 1, 2, 3, 4, 6] rfl) G
            · have hf := aw_ite_f hc hf
              exact w_X11_errors_J126 X hf hkb65 (lv_sub hl [0, 1, 2, 3, 4, 6] rfl) G
theorem w_X11_errors_L65 {z : Int32 × Dt} (X : aw_X p c cX11_errors 8 s RX11 m meth (some .int)) {k65 : Int32 → Dt → Option (Int32 × Dt)} {x0 : Nat} {x1 : Int32} {x2 : Int32} {x3 : Int32} {x4 : Int32} (n : Nat) {x5 : Int32} {x6 : Int32} {d : Dt} (hf : f_X11_errors_L65 σ n k65 x0 x1 x2 x3 x4 x5 x6 d = some z) (hk65 : ∀ (y5 : Int32) (d : Dt), k65 y5 d = some z → ∀ (H : Heap) (locs : List Loc) (ls : Array Slot), lv_has ls 8 [(0, .ref (ad x0)), (1, .int x1), (2, .int x2), (3, .int x3), (4, .int x4), (5, .int y5)] → aw_G D cA base ad σ d s H locs → W p l e rm_X11_errors s m args below meth c H locs 0 0 (aw_Ei D cA base ad σ below args s z) (F0 m 139 ls [])) {H : Heap} {locs : List Loc} {ls : Array Slot} (hl : lv_has ls 8 [(0, .ref (ad x0)), (1, .int x1), (2, .int x2), (3, .int x3), (4, .int x4), (5, .int x5), (6, .int x6)]) (G : aw_G D cA base ad σ d s H locs) : W p l e rm_X11_errors s m args below meth c H locs 0 0 (aw_Ei D cA base ad σ below args s z) (F0 m 65 ls []) := by
  induction n generalizing x5 x6 d H locs ls with
  | zero => exact absurd (show (none : Option (Int32 × Dt)) = some z from hf) (by simp)
  | succ n ih => exact w_X11_errors_B65 X (kb65 := f_X11_errors_L65 σ n k65 x0 x1 x2 x3 x4) hf  (fun x5 x6 d hf H locs ls hl G => ih hf hl G) hk65 hl G
set_option maxHeartbeats 4000000 in
set_option maxRecDepth 100000 in
theorem w_X11_errors_J205 {z : Int32 × Dt} (X : aw_X p c cX11_errors 8 s RX11 m meth (some .int)) {kb163 : Int32 → Int32 → Dt → Option (Int32 × Dt)} {t1 : Int32} {t0 : Int32} {x0 : Nat} {x1 : Int32} {x2 : Int32} {x4 : Int32} {x5 : Int32} {x6 : Int32} {x7 : Int32} {d : Dt} (hf : f_X11_errors_J205 σ kb163 t1 t0 x0 x1 x2 x4 x5 x6 x7 d = some z) (hkb163 : ∀ (y3 : Int32) (y7 : Int32) (d : Dt), kb163 y3 y7 d = some z → ∀ (H : Heap) (locs : List Loc) (ls : Array Slot), lv_has ls 8 [(0, .ref (ad x0)), (1, .int x1), (2, .int x2), (3, .int y3), (4, .int x4), (5, .int x5), (6, .int x6), (7, .int y7)] → aw_G D cA base ad σ d s H locs → W p l e rm_X11_errors s m args below meth c H locs 0 0 (aw_Ei D cA base ad σ below args s z) (F0 m 163 ls [])) {H : Heap} {locs : List Loc} {ls : Array Slot} (hl : lv_has ls 8 [(0, .ref (ad x0)), (1, .int x1), (2, .int x2), (4, .int x4), (5, .int x5), (6, .int x6), (7, .int x7)]) (G : aw_G D cA base ad σ d s H locs) : W p l e rm_X11_errors s m args below meth c H locs 0 0 (aw_Ei D cA base ad σ below args s z) (F0 m 205 ls [.int t1, .int t0]) := by
  have hx := X.1; have hb := X.2.1; have hml := X.2.2.1; have hown := X.2.2.2.1
  unfold f_X11_errors_J205 at hf
  refine lv_iadd hx hb dX11_errors_205 ?_
  refine lv_istore_n (lv' := [(3, .int (t0 + t1)), (0, .ref (ad x0)), (1, .int x1), (2, .int x2), (4, .int x4), (5, .int x5), (6, .int x6), (7, .int x7)]) hx hb dX11_errors_206 rfl hl (by decide) rfl (fun ls hl => ?_)
  refine lv_iinc (v := x7 + 1) (lv' := [(7, .int (x7 + 1)), (3, .int (t0 + t1)), (0, .ref (ad x0)), (1, .int x1), (2, .int x2), (4, .int x4), (5, .int x5), (6, .int x6)]) hx hb dX11_errors_207 hl (k := 7) rfl rfl (by decide) rfl (fun ls hl => ?_)
  refine lv_goto (tgt := 163) hx hb dX11_errors_210 (by decide) ?_
  exact hkb163 _ _ _ hf _ _ _ (lv_sub hl [2, 3, 4, 1, 5, 6, 7, 0] rfl) G
set_option maxHeartbeats 4000000 in
set_option maxRecDepth 100000 in
theorem w_X11_errors_B163 {z : Int32 × Dt} (X : aw_X p c cX11_errors 8 s RX11 m meth (some .int)) {kb163 : Int32 → Int32 → Dt → Option (Int32 × Dt)} {k163 : Int32 → Dt → Option (Int32 × Dt)} {x0 : Nat} {x1 : Int32} {x2 : Int32} {x4 : Int32} {x5 : Int32} {x6 : Int32} {x3 : Int32} {x7 : Int32} {d : Dt} (hf : f_X11_errors_B163 σ kb163 k163 x0 x1 x2 x4 x5 x6 x3 x7 d = some z) (hkb163 : ∀ (y3 : Int32) (y7 : Int32) (d : Dt), kb163 y3 y7 d = some z → ∀ (H : Heap) (locs : List Loc) (ls : Array Slot), lv_has ls 8 [(0, .ref (ad x0)), (1, .int x1), (2, .int x2), (3, .int y3), (4, .int x4), (5, .int x5), (6, .int x6), (7, .int y7)] → aw_G D cA base ad σ d s H locs → W p l e rm_X11_errors s m args below meth c H locs 0 0 (aw_Ei D cA base ad σ below args s z) (F0 m 163 ls [])) (hk163 : ∀ (y3 : Int32) (d : Dt), k163 y3 d = some z → ∀ (H : Heap) (locs : List Loc) (ls : Array Slot), lv_has ls 8 [(0, .ref (ad x0)), (1, .int x1), (2, .int x2), (3, .int y3), (4, .int x4), (5, .int x5), (6, .int x6)] → aw_G D cA base ad σ d s H locs → W p l e rm_X11_errors s m args below meth c H locs 0 0 (aw_Ei D cA base ad σ below args s z) (F0 m 213 ls [])) {H : Heap} {locs : List Loc} {ls : Array Slot} (hl : lv_has ls 8 [(0, .ref (ad x0)), (1, .int x1), (2, .int x2), (3, .int x3), (4, .int x4), (5, .int x5), (6, .int x6), (7, .int x7)]) (G : aw_G D cA base ad σ d s H locs) : W p l e rm_X11_errors s m args below meth c H locs 0 0 (aw_Ei D cA base ad σ below args s z) (F0 m 163 ls []) := by
  have hx := X.1; have hb := X.2.1; have hml := X.2.2.1; have hown := X.2.2.2.1
  unfold f_X11_errors_B163 at hf
  refine lv_iload hx hb dX11_errors_163 (lv_at hl 7 rfl) ?_
  refine lv_bipush (v := (16 : Int32)) hx hb dX11_errors_165 (by decide) ?_
  refine lv_iload hx hb dX11_errors_167 (lv_at hl 6 rfl) ?_
  refine lv_imul hx hb dX11_errors_169 ?_
  refine lv_aload_n hx hb dX11_errors_170 rfl (lv_at hl 0 rfl) ?_
  obtain ⟨hc_29, hf⟩ := aw_chk_some hf
  obtain ⟨q_30, hq_31, hf⟩ := aw_bind_some hf
  refine gf_X11_68 hx hb G hown hc_29 hq_31 dX11_errors_171 ?_
  refine lv_iload hx hb dX11_errors_174 (lv_at hl 6 rfl) ?_
  obtain ⟨hc_32, hf⟩ := aw_chk_some hf
  refine aw_ial hx hb G hc_32 dX11_errors_176 ?_
  refine lv_iadd hx hb dX11_errors_177 ?_
  refine lv_icmp_ge (tgt := 213) hx hb dX11_errors_178 (by decide) (fun hc => ?_) (fun hc => ?_)
  · have hf := aw_ite_t hc hf
    exact hk163 _ _ hf _ _ _ (lv_sub hl [0, 1, 2, 3, 4, 5, 6] rfl) G
  · have hf := aw_ite_f hc hf
    refine lv_iload_n hx hb dX11_errors_181 rfl (lv_at hl 3 rfl) ?_
    refine lv_aload_n hx hb dX11_errors_182 rfl (lv_at hl 0 rfl) ?_
    obtain ⟨q_33, hq_34, hf⟩ := aw_bind_some hf
    refine gf_X11_65 hx hb G hown hc_29 hq_34 dX11_errors_183 ?_
    refine lv_iload hx hb dX11_errors_186 (lv_at hl 7 rfl) ?_
    obtain ⟨hc_35, hf⟩ := aw_chk_some hf
    refine aw_ial hx hb G hc_35 dX11_errors_188 ?_
    refine lv_iload hx hb dX11_errors_189 (lv_at hl 4 rfl) ?_
    refine lv_icmp_ne (tgt := 204) hx hb dX11_errors_191 (by decide) (fun hc => ?_) (fun hc => ?_)
    · have hf := aw_ite_f hc hf
      refine lv_iconst (v := (0 : Int32)) hx hb dX11_errors_204 (by decide) ?_
      exact w_X11_errors_J205 X hf hkb163 (lv_sub hl [0, 1, 2, 4, 5, 6, 7] rfl) G
    · have hf := aw_ite_t hc hf
      refine lv_aload_n hx hb dX11_errors_194 rfl (lv_at hl 0 rfl) ?_
      obtain ⟨q_36, hq_37, hf⟩ := aw_bind_some hf
      refine gf_X11_19 hx hb G hown hc_29 hq_37 dX11_errors_195 ?_
      refine lv_iload hx hb dX11_errors_198 (lv_at hl 6 rfl) ?_
      obtain ⟨hc_38, hf⟩ := aw_chk_some hf
      refine aw_ial hx hb G hc_38 dX11_errors_200 ?_
      refine lv_goto (tgt := 205) hx hb dX11_errors_201 (by decide) ?_
      exact w_X11_errors_J205 X hf hkb163 (lv_sub hl [0, 1, 2, 4, 5, 6, 7] rfl) G
theorem w_X11_errors_L163 {z : Int32 × Dt} (X : aw_X p c cX11_errors 8 s RX11 m meth (some .int)) {k163 : Int32 → Dt → Option (Int32 × Dt)} {x0 : Nat} {x1 : Int32} {x2 : Int32} {x4 : Int32} {x5 : Int32} {x6 : Int32} (n : Nat) {x3 : Int32} {x7 : Int32} {d : Dt} (hf : f_X11_errors_L163 σ n k163 x0 x1 x2 x4 x5 x6 x3 x7 d = some z) (hk163 : ∀ (y3 : Int32) (d : Dt), k163 y3 d = some z → ∀ (H : Heap) (locs : List Loc) (ls : Array Slot), lv_has ls 8 [(0, .ref (ad x0)), (1, .int x1), (2, .int x2), (3, .int y3), (4, .int x4), (5, .int x5), (6, .int x6)] → aw_G D cA base ad σ d s H locs → W p l e rm_X11_errors s m args below meth c H locs 0 0 (aw_Ei D cA base ad σ below args s z) (F0 m 213 ls [])) {H : Heap} {locs : List Loc} {ls : Array Slot} (hl : lv_has ls 8 [(0, .ref (ad x0)), (1, .int x1), (2, .int x2), (3, .int x3), (4, .int x4), (5, .int x5), (6, .int x6), (7, .int x7)]) (G : aw_G D cA base ad σ d s H locs) : W p l e rm_X11_errors s m args below meth c H locs 0 0 (aw_Ei D cA base ad σ below args s z) (F0 m 163 ls []) := by
  induction n generalizing x3 x7 d H locs ls with
  | zero => exact absurd (show (none : Option (Int32 × Dt)) = some z from hf) (by simp)
  | succ n ih => exact w_X11_errors_B163 X (kb163 := f_X11_errors_L163 σ n k163 x0 x1 x2 x4 x5 x6) hf  (fun x3 x7 d hf H locs ls hl G => ih hf hl G) hk163 hl G
set_option maxHeartbeats 4000000 in
set_option maxRecDepth 100000 in
theorem w_X11_errors_B142 {z : Int32 × Dt} (X : aw_X p c cX11_errors 8 s RX11 m meth (some .int)) {kb142 : Int32 → Int32 → Dt → Option (Int32 × Dt)} {k142 : Int32 → Dt → Option (Int32 × Dt)} {x0 : Nat} {x1 : Int32} {x2 : Int32} {x4 : Int32} {x5 : Int32} {x3 : Int32} {x6 : Int32} {d : Dt} (hf : f_X11_errors_B142 σ kb142 k142 x0 x1 x2 x4 x5 x3 x6 d = some z) (hkb142 : ∀ (y3 : Int32) (y6 : Int32) (d : Dt), kb142 y3 y6 d = some z → ∀ (H : Heap) (locs : List Loc) (ls : Array Slot), lv_has ls 8 [(0, .ref (ad x0)), (1, .int x1), (2, .int x2), (3, .int y3), (4, .int x4), (5, .int x5), (6, .int y6)] → aw_G D cA base ad σ d s H locs → W p l e rm_X11_errors s m args below meth c H locs 0 0 (aw_Ei D cA base ad σ below args s z) (F0 m 142 ls [])) (hk142 : ∀ (y3 : Int32) (d : Dt), k142 y3 d = some z → ∀ (H : Heap) (locs : List Loc) (ls : Array Slot), lv_has ls 8 [(0, .ref (ad x0)), (1, .int x1), (2, .int x2), (3, .int y3), (4, .int x4)] → aw_G D cA base ad σ d s H locs → W p l e rm_X11_errors s m args below meth c H locs 0 0 (aw_Ei D cA base ad σ below args s z) (F0 m 219 ls [])) {H : Heap} {locs : List Loc} {ls : Array Slot} (hl : lv_has ls 8 [(0, .ref (ad x0)), (1, .int x1), (2, .int x2), (3, .int x3), (4, .int x4), (5, .int x5), (6, .int x6)]) (G : aw_G D cA base ad σ d s H locs) : W p l e rm_X11_errors s m args below meth c H locs 0 0 (aw_Ei D cA base ad σ below args s z) (F0 m 142 ls []) := by
  have hx := X.1; have hb := X.2.1; have hml := X.2.2.1; have hown := X.2.2.2.1
  unfold f_X11_errors_B142 at hf
  refine lv_iload hx hb dX11_errors_142 (lv_at hl 6 rfl) ?_
  refine lv_aload_n hx hb dX11_errors_144 rfl (lv_at hl 0 rfl) ?_
  obtain ⟨hc_28, hf⟩ := aw_chk_some hf
  refine gf_X11_100 hx hb G hown hc_28 dX11_errors_145 ?_
  refine lv_icmp_ge (tgt := 219) hx hb dX11_errors_148 (by decide) (fun hc => ?_) (fun hc => ?_)
  · have hf := aw_ite_t hc hf
    exact hk142 _ _ hf _ _ _ (lv_sub hl [0, 1, 2, 3, 4] rfl) G
  · have hf := aw_ite_f hc hf
    refine lv_iload hx hb dX11_errors_151 (lv_at hl 5 rfl) ?_
    refine lv_if_eq (tgt := 219) hx hb dX11_errors_153 (by decide) (fun hc => ?_) (fun hc => ?_)
    · have hf := aw_ite_t hc hf
      exact hk142 _ _ hf _ _ _ (lv_sub hl [0, 1, 2, 3, 4] rfl) G
    · have hf := aw_ite_f hc hf
      refine lv_bipush (v := (16 : Int32)) hx hb dX11_errors_156 (by decide) ?_
      refine lv_iload hx hb dX11_errors_158 (lv_at hl 6 rfl) ?_
      refine lv_imul hx hb dX11_errors_160 ?_
      refine lv_istore (lv' := [(7, .int (((16 : Int32)) * x6)), (0, .ref (ad x0)), (1, .int x1), (2, .int x2), (3, .int x3), (4, .int x4), (5, .int x5), (6, .int x6)]) hx hb dX11_errors_161 hl (by decide) rfl (fun ls hl => ?_)
      refine w_X11_errors_L163 X aw_FU hf  (fun x3_39 d_40 hf H locs ls hl G => ?_) (lv_sub hl [1, 2, 3, 4, 5, 6, 7, 0] rfl) G
      refine lv_iinc (v := x6 + 1) (lv' := [(6, .int (x6 + 1)), (0, .ref (ad x0)), (1, .int x1), (2, .int x2), (3, .int x3_39), (4, .int x4), (5, .int x5)]) hx hb dX11_errors_213 hl (k := 6) rfl rfl (by decide) rfl (fun ls hl => ?_)
      refine lv_goto (tgt := 142) hx hb dX11_errors_216 (by decide) ?_
      exact hkb142 _ _ _ hf _ _ _ (lv_sub hl [1, 2, 3, 4, 5, 6, 0] rfl) G
theorem w_X11_errors_L142 {z : Int32 × Dt} (X : aw_X p c cX11_errors 8 s RX11 m meth (some .int)) {k142 : Int32 → Dt → Option (Int32 × Dt)} {x0 : Nat} {x1 : Int32} {x2 : Int32} {x4 : Int32} {x5 : Int32} (n : Nat) {x3 : Int32} {x6 : Int32} {d : Dt} (hf : f_X11_errors_L142 σ n k142 x0 x1 x2 x4 x5 x3 x6 d = some z) (hk142 : ∀ (y3 : Int32) (d : Dt), k142 y3 d = some z → ∀ (H : Heap) (locs : List Loc) (ls : Array Slot), lv_has ls 8 [(0, .ref (ad x0)), (1, .int x1), (2, .int x2), (3, .int y3), (4, .int x4)] → aw_G D cA base ad σ d s H locs → W p l e rm_X11_errors s m args below meth c H locs 0 0 (aw_Ei D cA base ad σ below args s z) (F0 m 219 ls [])) {H : Heap} {locs : List Loc} {ls : Array Slot} (hl : lv_has ls 8 [(0, .ref (ad x0)), (1, .int x1), (2, .int x2), (3, .int x3), (4, .int x4), (5, .int x5), (6, .int x6)]) (G : aw_G D cA base ad σ d s H locs) : W p l e rm_X11_errors s m args below meth c H locs 0 0 (aw_Ei D cA base ad σ below args s z) (F0 m 142 ls []) := by
  induction n generalizing x3 x6 d H locs ls with
  | zero => exact absurd (show (none : Option (Int32 × Dt)) = some z from hf) (by simp)
  | succ n ih => exact w_X11_errors_B142 X (kb142 := f_X11_errors_L142 σ n k142 x0 x1 x2 x4 x5) hf  (fun x3 x6 d hf H locs ls hl G => ih hf hl G) hk142 hl G
set_option maxHeartbeats 4000000 in
set_option maxRecDepth 100000 in
theorem w_X11_errors_J219 {z : Int32 × Dt} (X : aw_X p c cX11_errors 8 s RX11 m meth (some .int)) {kb52 : Int32 → Int32 → Dt → Option (Int32 × Dt)} {x0 : Nat} {x1 : Int32} {x2 : Int32} {x3 : Int32} {x4 : Int32} {d : Dt} (hf : f_X11_errors_J219 σ kb52 x0 x1 x2 x3 x4 d = some z) (hkb52 : ∀ (y3 : Int32) (y4 : Int32) (d : Dt), kb52 y3 y4 d = some z → ∀ (H : Heap) (locs : List Loc) (ls : Array Slot), lv_has ls 8 [(0, .ref (ad x0)), (1, .int x1), (2, .int x2), (3, .int y3), (4, .int y4)] → aw_G D cA base ad σ d s H locs → W p l e rm_X11_errors s m args below meth c H locs 0 0 (aw_Ei D cA base ad σ below args s z) (F0 m 52 ls [])) {H : Heap} {locs : List Loc} {ls : Array Slot} (hl : lv_has ls 8 [(0, .ref (ad x0)), (1, .int x1), (2, .int x2), (3, .int x3), (4, .int x4)]) (G : aw_G D cA base ad σ d s H locs) : W p l e rm_X11_errors s m args below meth c H locs 0 0 (aw_Ei D cA base ad σ below args s z) (F0 m 219 ls []) := by
  have hx := X.1; have hb := X.2.1; have hml := X.2.2.1; have hown := X.2.2.2.1
  unfold f_X11_errors_J219 at hf
  refine lv_iinc (v := x4 + 1) (lv' := [(4, .int (x4 + 1)), (0, .ref (ad x0)), (1, .int x1), (2, .int x2), (3, .int x3)]) hx hb dX11_errors_219 hl (k := 4) rfl rfl (by decide) rfl (fun ls hl => ?_)
  refine lv_goto (tgt := 52) hx hb dX11_errors_222 (by decide) ?_
  exact hkb52 _ _ _ hf _ _ _ (lv_sub hl [1, 2, 3, 4, 0] rfl) G
set_option maxHeartbeats 4000000 in
set_option maxRecDepth 100000 in
theorem w_X11_errors_J139 {z : Int32 × Dt} (X : aw_X p c cX11_errors 8 s RX11 m meth (some .int)) {kb52 : Int32 → Int32 → Dt → Option (Int32 × Dt)} {x0 : Nat} {x1 : Int32} {x2 : Int32} {x3 : Int32} {x4 : Int32} {x5 : Int32} {d : Dt} (hf : f_X11_errors_J139 σ kb52 x0 x1 x2 x3 x4 x5 d = some z) (hkb52 : ∀ (y3 : Int32) (y4 : Int32) (d : Dt), kb52 y3 y4 d = some z → ∀ (H : Heap) (locs : List Loc) (ls : Array Slot), lv_has ls 8 [(0, .ref (ad x0)), (1, .int x1), (2, .int x2), (3, .int y3), (4, .int y4)] → aw_G D cA base ad σ d s H locs → W p l e rm_X11_errors s m args below meth c H locs 0 0 (aw_Ei D cA base ad σ below args s z) (F0 m 52 ls [])) {H : Heap} {locs : List Loc} {ls : Array Slot} (hl : lv_has ls 8 [(0, .ref (ad x0)), (1, .int x1), (2, .int x2), (3, .int x3), (4, .int x4), (5, .int x5)]) (G : aw_G D cA base ad σ d s H locs) : W p l e rm_X11_errors s m args below meth c H locs 0 0 (aw_Ei D cA base ad σ below args s z) (F0 m 139 ls []) := by
  have hx := X.1; have hb := X.2.1; have hml := X.2.2.1; have hown := X.2.2.2.1
  unfold f_X11_errors_J139 at hf
  refine lv_iconst (v := (0 : Int32)) hx hb dX11_errors_139 (by decide) ?_
  refine lv_istore (lv' := [(6, .int ((0 : Int32))), (0, .ref (ad x0)), (1, .int x1), (2, .int x2), (3, .int x3), (4, .int x4), (5, .int x5)]) hx hb dX11_errors_140 hl (by decide) rfl (fun ls hl => ?_)
  refine w_X11_errors_L142 X aw_FU hf  (fun x3_41 d_42 hf H locs ls hl G => ?_) (lv_sub hl [1, 2, 3, 4, 5, 6, 0] rfl) G
  exact w_X11_errors_J219 X hf hkb52 (lv_sub hl [0, 1, 2, 3, 4] rfl) G
set_option maxHeartbeats 4000000 in
set_option maxRecDepth 100000 in
theorem w_X11_errors_B52 {z : Int32 × Dt} (X : aw_X p c cX11_errors 8 s RX11 m meth (some .int)) {kb52 : Int32 → Int32 → Dt → Option (Int32 × Dt)} {k52 : Int32 → Dt → Option (Int32 × Dt)} {x0 : Nat} {x1 : Int32} {x2 : Int32} {x3 : Int32} {x4 : Int32} {d : Dt} (hf : f_X11_errors_B52 σ kb52 k52 x0 x1 x2 x3 x4 d = some z) (hkb52 : ∀ (y3 : Int32) (y4 : Int32) (d : Dt), kb52 y3 y4 d = some z → ∀ (H : Heap) (locs : List Loc) (ls : Array Slot), lv_has ls 8 [(0, .ref (ad x0)), (1, .int x1), (2, .int x2), (3, .int y3), (4, .int y4)] → aw_G D cA base ad σ d s H locs → W p l e rm_X11_errors s m args below meth c H locs 0 0 (aw_Ei D cA base ad σ below args s z) (F0 m 52 ls [])) (hk52 : ∀ (y3 : Int32) (d : Dt), k52 y3 d = some z → ∀ (H : Heap) (locs : List Loc) (ls : Array Slot), lv_has ls 8 [(3, .int y3)] → aw_G D cA base ad σ d s H locs → W p l e rm_X11_errors s m args below meth c H locs 0 0 (aw_Ei D cA base ad σ below args s z) (F0 m 225 ls [])) {H : Heap} {locs : List Loc} {ls : Array Slot} (hl : lv_has ls 8 [(0, .ref (ad x0)), (1, .int x1), (2, .int x2), (3, .int x3), (4, .int x4)]) (G : aw_G D cA base ad σ d s H locs) : W p l e rm_X11_errors s m args below meth c H locs 0 0 (aw_Ei D cA base ad σ below args s z) (F0 m 52 ls []) := by
  have hx := X.1; have hb := X.2.1; have hml := X.2.2.1; have hown := X.2.2.2.1
  unfold f_X11_errors_B52 at hf
  refine lv_iload hx hb dX11_errors_52 (lv_at hl 4 rfl) ?_
  refine lv_bipush (v := (50 : Int32)) hx hb dX11_errors_54 (by decide) ?_
  refine lv_icmp_ge (tgt := 225) hx hb dX11_errors_56 (by decide) (fun hc => ?_) (fun hc => ?_)
  · have hf := aw_ite_t hc hf
    exact hk52 _ _ hf _ _ _ (lv_sub hl [3] rfl) G
  · have hf := aw_ite_f hc hf
    refine lv_iconst (v := (0 : Int32)) hx hb dX11_errors_59 (by decide) ?_
    refine lv_istore (lv' := [(5, .int ((0 : Int32))), (0, .ref (ad x0)), (1, .int x1), (2, .int x2), (3, .int x3), (4, .int x4)]) hx hb dX11_errors_60 hl (by decide) rfl (fun ls hl => ?_)
    refine lv_iconst (v := (0 : Int32)) hx hb dX11_errors_62 (by decide) ?_
    refine lv_istore (lv' := [(6, .int ((0 : Int32))), (5, .int ((0 : Int32))), (0, .ref (ad x0)), (1, .int x1), (2, .int x2), (3, .int x3), (4, .int x4)]) hx hb dX11_errors_63 hl (by decide) rfl (fun ls hl => ?_)
    refine w_X11_errors_L65 X aw_FU hf  (fun x5_26 d_27 hf H locs ls hl G => ?_) (lv_sub hl [2, 3, 4, 5, 6, 1, 0] rfl) G
    exact w_X11_errors_J139 X hf hkb52 (lv_sub hl [0, 1, 2, 3, 4, 5] rfl) G
theorem w_X11_errors_L52 {z : Int32 × Dt} (X : aw_X p c cX11_errors 8 s RX11 m meth (some .int)) {k52 : Int32 → Dt → Option (Int32 × Dt)} {x0 : Nat} {x1 : Int32} {x2 : Int32} (n : Nat) {x3 : Int32} {x4 : Int32} {d : Dt} (hf : f_X11_errors_L52 σ n k52 x0 x1 x2 x3 x4 d = some z) (hk52 : ∀ (y3 : Int32) (d : Dt), k52 y3 d = some z → ∀ (H : Heap) (locs : List Loc) (ls : Array Slot), lv_has ls 8 [(3, .int y3)] → aw_G D cA base ad σ d s H locs → W p l e rm_X11_errors s m args below meth c H locs 0 0 (aw_Ei D cA base ad σ below args s z) (F0 m 225 ls [])) {H : Heap} {locs : List Loc} {ls : Array Slot} (hl : lv_has ls 8 [(0, .ref (ad x0)), (1, .int x1), (2, .int x2), (3, .int x3), (4, .int x4)]) (G : aw_G D cA base ad σ d s H locs) : W p l e rm_X11_errors s m args below meth c H locs 0 0 (aw_Ei D cA base ad σ below args s z) (F0 m 52 ls []) := by
  induction n generalizing x3 x4 d H locs ls with
  | zero => exact absurd (show (none : Option (Int32 × Dt)) = some z from hf) (by simp)
  | succ n ih => exact w_X11_errors_B52 X (kb52 := f_X11_errors_L52 σ n k52 x0 x1 x2) hf  (fun x3 x4 d hf H locs ls hl G => ih hf hl G) hk52 hl G
set_option maxHeartbeats 4000000 in
set_option maxRecDepth 100000 in
theorem w_X11_errors_J27 {z : Int32 × Dt} (X : aw_X p c cX11_errors 8 s RX11 m meth (some .int)) {t1 : Int32} {t0 : Nat} {x0 : Nat} {x1 : Int32} {x2 : Int32} {d : Dt} (hf : f_X11_errors_J27 σ t1 t0 x0 x1 x2 d = some z)  {H : Heap} {locs : List Loc} {ls : Array Slot} (hl : lv_has ls 8 [(0, .ref (ad x0)), (1, .int x1), (2, .int x2)]) (G : aw_G D cA base ad σ d s H locs) : W p l e rm_X11_errors s m args below meth c H locs 0 0 (aw_Ei D cA base ad σ below args s z) (F0 m 27 ls [.int t1, .ref (ad t0)]) := by
  have hx := X.1; have hb := X.2.1; have hml := X.2.2.1; have hown := X.2.2.2.1
  unfold f_X11_errors_J27 at hf
  obtain ⟨hc_8, hf⟩ := aw_chk_some hf
  obtain ⟨z_6, hz_7, hf⟩ := aw_bind_some hf
  refine aw_VI (As := [.int t1]) (rest := []) X G hl.1 cr_X11_113 (c_X11_fails l hz_7) ⟨rfl, rfl⟩ rfl rfl rfl (by decide) hc_8 rfl ⟨Nat.le_of_ble_eq_true rfl, Nat.le_of_ble_eq_true rfl⟩ (Nat.le_of_ble_eq_true rfl) dX11_errors_27 ⟨Nat.zero_le _, Nat.zero_le _⟩ (fun H locs G => ?_)
  refine lv_if_eq (tgt := 35) hx hb dX11_errors_30 (by decide) (fun hc => ?_) (fun hc => ?_)
  · have hf := aw_ite_t hc hf
    refine lv_aload_n hx hb dX11_errors_35 rfl (lv_at hl 0 rfl) ?_
    refine lv_iload_n hx hb dX11_errors_36 rfl (lv_at hl 1 rfl) ?_
    refine lv_aload_n hx hb dX11_errors_37 rfl (lv_at hl 0 rfl) ?_
    obtain ⟨hc_9, hf⟩ := aw_chk_some hf
    obtain ⟨q_10, hq_11, hf⟩ := aw_bind_some hf
    refine gf_X11_41 hx hb G hown hc_9 hq_11 dX11_errors_38 ?_
    refine lv_iload_n hx hb dX11_errors_41 rfl (lv_at hl 1 rfl) ?_
    obtain ⟨hc_12, hf⟩ := aw_chk_some hf
    refine aw_ial hx hb G hc_12 dX11_errors_42 ?_
    refine lv_iconst (v := (0 : Int32)) hx hb dX11_errors_43 (by decide) ?_
    obtain ⟨z_13, hz_14, hf⟩ := aw_bind_some hf
    refine aw_VV (As := [.int x1, .int (z_6.2.1 q_10 x1.toNatClampNeg), .int ((0 : Int32))]) (rest := []) X G hl.1 cr_X11_156 (c_X11_spellsAll l hz_14) ⟨rfl, rfl⟩ rfl rfl rfl (by decide) hc_9 rfl ⟨Nat.le_of_ble_eq_true rfl, Nat.le_of_ble_eq_true rfl⟩ (Nat.le_of_ble_eq_true rfl) dX11_errors_44 ⟨Nat.zero_le _, Nat.zero_le _⟩ (fun H locs G => ?_)
    refine lv_iconst (v := (0 : Int32)) hx hb dX11_errors_47 (by decide) ?_
    refine lv_istore_n (lv' := [(3, .int ((0 : Int32))), (0, .ref (ad x0)), (1, .int x1), (2, .int x2)]) hx hb dX11_errors_48 rfl hl (by decide) rfl (fun ls hl => ?_)
    refine lv_iconst (v := (0 : Int32)) hx hb dX11_errors_49 (by decide) ?_
    refine lv_istore (lv' := [(4, .int ((0 : Int32))), (3, .int ((0 : Int32))), (0, .ref (ad x0)), (1, .int x1), (2, .int x2)]) hx hb dX11_errors_50 hl (by decide) rfl (fun ls hl => ?_)
    refine w_X11_errors_L52 X aw_FU hf  (fun x3_43 d_44 hf H locs ls hl G => ?_) (lv_sub hl [2, 3, 4, 1, 0] rfl) G
    refine lv_iload_n hx hb dX11_errors_225 rfl (lv_at hl 0 rfl) ?_
    exact aw_reti X G hf dX11_errors_226
  · have hf := aw_ite_f hc hf
    refine lv_iconst (v := (0 : Int32)) hx hb dX11_errors_33 (by decide) ?_
    exact aw_reti X G hf dX11_errors_34
end W_X11_errors
set_option maxHeartbeats 4000000 in
set_option maxRecDepth 100000 in
theorem c_X11_errors (l : Launch) {σ : Sg} {x0 : Nat} {x1 : Int32} {x2 : Int32} {d : Dt} {z : Int32 × Dt} (hf : f_X11_errors σ x0 x1 x2 d = some z) : aw_Mi l yX11_errors (Cond.code yX11_errors cX11_errors 8 (some .int)) rm_X11_errors (fun ad => [.ref (ad x0), .int x1, .int x2]) σ d z := by
  intro D cA base ad
  refine aw_ofW (own := RX11) (cc := cX11_errors) (nL := 8) (ret := some .int) (by decide) rfl rfl ?_
  intro p e s m below meth c X hnm G
  have hx := X.1; have hb := X.2.1; have hml := X.2.2.1; have hown := X.2.2.2.1
  refine aw_ls (lv := [(0, .ref (ad x0)), (1, .int x1), (2, .int x2)]) (Nat.le_of_ble_eq_true rfl) rfl (fun ls hl => ?_)
  unfold f_X11_errors at hf
  refine lv_aload_n hx hb dX11_errors_0 rfl (lv_at hl 0 rfl) ?_
  refine lv_aload_n hx hb dX11_errors_1 rfl (lv_at hl 0 rfl) ?_
  refine lv_iload_n hx hb dX11_errors_2 rfl (lv_at hl 1 rfl) ?_
  obtain ⟨hc_3, hf⟩ := aw_chk_some hf
  obtain ⟨z_1, hz_2, hf⟩ := aw_bind_some hf
  refine aw_VI (As := [.int x1]) (rest := [.ref (ad x0)]) X G hl.1 cr_X11_146 (c_X11_isDesign l hz_2) ⟨rfl, rfl⟩ rfl rfl rfl (by decide) hc_3 rfl ⟨Nat.le_of_ble_eq_true rfl, Nat.le_of_ble_eq_true rfl⟩ (Nat.le_of_ble_eq_true rfl) dX11_errors_3 ⟨Nat.zero_le _, Nat.zero_le _⟩ (fun H locs G => ?_)
  refine lv_if_ne (tgt := 13) hx hb dX11_errors_6 (by decide) (fun hc => ?_) (fun hc => ?_)
  · have hf := aw_ite_f hc hf
    refine lv_iload_n hx hb dX11_errors_13 rfl (lv_at hl 2 rfl) ?_
    refine lv_iconst (v := (0 : Int32)) hx hb dX11_errors_14 (by decide) ?_
    refine lv_iconst (v := (4 : Int32)) hx hb dX11_errors_15 (by decide) ?_
    obtain ⟨z_4, hz_5, hf⟩ := aw_bind_some hf
    refine aw_SI (As := [.int x2, .int ((0 : Int32)), .int ((4 : Int32))]) (rest := [.ref (ad x0)]) X G hl.1 cr_X11_103 (c_X11_isIn l hz_5) ⟨rfl, rfl⟩ rfl rfl rfl ⟨Nat.le_of_ble_eq_true rfl, Nat.le_of_ble_eq_true rfl⟩ (Nat.le_of_ble_eq_true rfl) dX11_errors_16 ⟨Nat.zero_le _, Nat.zero_le _⟩ (fun H locs G => ?_)
    refine lv_if_eq (tgt := 26) hx hb dX11_errors_19 (by decide) (fun hc => ?_) (fun hc => ?_)
    · have hf := aw_ite_t hc hf
      refine lv_iconst (v := (2 : Int32)) hx hb dX11_errors_26 (by decide) ?_
      exact w_X11_errors_J27 X hf  (lv_sub hl [0, 1, 2] rfl) G
    · have hf := aw_ite_f hc hf
      refine lv_iconst (v := (0 : Int32)) hx hb dX11_errors_22 (by decide) ?_
      refine lv_goto (tgt := 27) hx hb dX11_errors_23 (by decide) ?_
      exact w_X11_errors_J27 X hf  (lv_sub hl [0, 1, 2] rfl) G
  · have hf := aw_ite_t hc hf
    refine lv_iconst (v := (1 : Int32)) hx hb dX11_errors_9 (by decide) ?_
    refine lv_goto (tgt := 27) hx hb dX11_errors_10 (by decide) ?_
    exact w_X11_errors_J27 X hf  (lv_sub hl [0, 1, 2] rfl) G
def rm_X11_uses : Room := { frames := 4, cells := 0, slots := 0, locals := 100 }
def f_X11_uses_B41 (σ : Sg) (kb41 : Int32 → Dt → Option (Int32 × Dt)) (k41 : Dt → Option (Int32 × Dt)) (x0 : Nat) (x2 : Int64) (x4 : Int32) (x5 : Int32) (d : Dt) : Option (Int32 × Dt) :=
  aw_chk (aw_O σ 11 32 x0) ((σ.2.2 x0 22).bind (fun q_12 => aw_chk (aw_I σ 20 q_12 x4) (if ((((16 : Int32)) * x4) + (d.1 q_12 x4.toNatClampNeg)) ≤ x5 then k41 d else (σ.2.2 x0 28).bind (fun q_15 => aw_chk (aw_I σ 21 q_15 x4) ((σ.2.2 x0 21).bind (fun q_18 => aw_chk (aw_I σ 20 q_18 x5) (kb41 (x5 + 1) (aw_sL d q_15 x4.toNatClampNeg ((d.2 q_15 x4.toNatClampNeg) ||| (((1 : Int64)) <<< ((d.1 q_18 x5.toNatClampNeg).toInt64 &&& 63)))))))))))
def f_X11_uses_L41 (σ : Sg) (n : Nat) (k41 : Dt → Option (Int32 × Dt)) (x0 : Nat) (x2 : Int64) (x4 : Int32) : Int32 → Dt → Option (Int32 × Dt) := match n with
  | 0 => fun _ _ => none
  | n + 1 => fun x5 d => f_X11_uses_B41 σ (f_X11_uses_L41 σ n k41 x0 x2 x4) k41 x0 x2 x4 x5 d
def f_X11_uses_B17 (σ : Sg) (kb17 : Int64 → Int32 → Dt → Option (Int32 × Dt)) (k17 : Int64 → Dt → Option (Int32 × Dt)) (x0 : Nat) (x2 : Int64) (x4 : Int32) (d : Dt) : Option (Int32 × Dt) :=
  aw_chk (aw_O σ 11 32 x0) (if (d.1 x0 2) ≤ x4 then k17 x2 d else (σ.2.2 x0 28).bind (fun q_8 => aw_chk (aw_I σ 21 q_8 x4) (f_X11_uses_L41 σ aw_FU (fun d_21 => kb17 (x2 ||| (d_21.2 q_8 x4.toNatClampNeg)) (x4 + 1) d_21) x0 x2 x4 (((16 : Int32)) * x4) (aw_sL d q_8 x4.toNatClampNeg ((0 : Int64))))))
def f_X11_uses_L17 (σ : Sg) (n : Nat) (k17 : Int64 → Dt → Option (Int32 × Dt)) (x0 : Nat) : Int64 → Int32 → Dt → Option (Int32 × Dt) := match n with
  | 0 => fun _ _ _ => none
  | n + 1 => fun x2 x4 d => f_X11_uses_B17 σ (f_X11_uses_L17 σ n k17 x0) k17 x0 x2 x4 d
def f_X11_uses_J136 (σ : Sg) (kb106 : Int32 → Int32 → Dt → Option (Int32 × Dt)) (x0 : Nat) (x2 : Int64) (x4 : Int32) (x5 : Int32) (d : Dt) : Option (Int32 × Dt) :=
  kb106 x4 (x5 + 1) d
def f_X11_uses_B106 (σ : Sg) (kb106 : Int32 → Int32 → Dt → Option (Int32 × Dt)) (k106 : Int32 → Dt → Option (Int32 × Dt)) (x0 : Nat) (x2 : Int64) (x4 : Int32) (x5 : Int32) (d : Dt) : Option (Int32 × Dt) :=
  if ((50 : Int32)) ≤ x5 then k106 x4 d else if (lg_cmp ((x2 >>> (x5.toInt64 &&& 63)) &&& ((1 : Int64))) ((1 : Int64))) = 0 then aw_chk (aw_O σ 11 32 x0) ((σ.2.2 x0 26).bind (fun q_25 => aw_chk (aw_I σ 20 q_25 x4) (f_X11_uses_J136 σ kb106 x0 x2 (x4 + 1) x5 (aw_sI d q_25 x4.toNatClampNeg x5)))) else f_X11_uses_J136 σ kb106 x0 x2 x4 x5 d
def f_X11_uses_L106 (σ : Sg) (n : Nat) (k106 : Int32 → Dt → Option (Int32 × Dt)) (x0 : Nat) (x2 : Int64) : Int32 → Int32 → Dt → Option (Int32 × Dt) := match n with
  | 0 => fun _ _ _ => none
  | n + 1 => fun x4 x5 d => f_X11_uses_B106 σ (f_X11_uses_L106 σ n k106 x0 x2) k106 x0 x2 x4 x5 d
def f_X11_uses (σ : Sg) (x0 : Nat) (x1 : Int32) (d : Dt) : Option (Int32 × Dt) :=
  aw_chk (aw_O σ 11 32 x0) ((σ.2.2 x0 13).bind (fun q_2 => aw_chk (aw_I σ 20 q_2 x1) ((f_X11_spellsAll σ x0 x1 (d.1 q_2 x1.toNatClampNeg) ((0 : Int32)) d).bind (fun z_5 => f_X11_uses_L17 σ aw_FU (fun x2_22 d_23 => f_X11_uses_L106 σ aw_FU (fun x4_28 d_29 => some (x4_28, d_29)) x0 x2_22 ((0 : Int32)) ((0 : Int32)) d_23) x0 ((0 : Int64)) ((0 : Int32)) z_5.2))))
section W_X11_uses
variable {p : Program} {l : Launch} {e : Env} {s : State} {m : MethodId} {args : Array Value} {below : List Frame} {meth : Method} {c : Code}
variable {D : va_G} {cA : Nat → ClassId} {base : Nat} {ad : Nat → Nat} {σ : Sg}
set_option maxHeartbeats 4000000 in
set_option maxRecDepth 100000 in
theorem w_X11_uses_B41 {z : Int32 × Dt} (X : aw_X p c cX11_uses 6 s RX11 m meth (some .int)) {kb41 : Int32 → Dt → Option (Int32 × Dt)} {k41 : Dt → Option (Int32 × Dt)} {x0 : Nat} {x2 : Int64} {x4 : Int32} {x5 : Int32} {d : Dt} (hf : f_X11_uses_B41 σ kb41 k41 x0 x2 x4 x5 d = some z) (hkb41 : ∀ (y5 : Int32) (d : Dt), kb41 y5 d = some z → ∀ (H : Heap) (locs : List Loc) (ls : Array Slot), lv_has ls 6 [(0, .ref (ad x0)), (2, .long x2), (4, .int x4), (5, .int y5)] → aw_G D cA base ad σ d s H locs → W p l e rm_X11_uses s m args below meth c H locs 0 0 (aw_Ei D cA base ad σ below args s z) (F0 m 41 ls [])) (hk41 : ∀ (d : Dt), k41 d = some z → ∀ (H : Heap) (locs : List Loc) (ls : Array Slot), lv_has ls 6 [(0, .ref (ad x0)), (2, .long x2), (4, .int x4)] → aw_G D cA base ad σ d s H locs → W p l e rm_X11_uses s m args below meth c H locs 0 0 (aw_Ei D cA base ad σ below args s z) (F0 m 84 ls [])) {H : Heap} {locs : List Loc} {ls : Array Slot} (hl : lv_has ls 6 [(0, .ref (ad x0)), (2, .long x2), (4, .int x4), (5, .int x5)]) (G : aw_G D cA base ad σ d s H locs) : W p l e rm_X11_uses s m args below meth c H locs 0 0 (aw_Ei D cA base ad σ below args s z) (F0 m 41 ls []) := by
  have hx := X.1; have hb := X.2.1; have hml := X.2.2.1; have hown := X.2.2.2.1
  unfold f_X11_uses_B41 at hf
  refine lv_iload hx hb dX11_uses_41 (lv_at hl 3 rfl) ?_
  refine lv_bipush (v := (16 : Int32)) hx hb dX11_uses_43 (by decide) ?_
  refine lv_iload hx hb dX11_uses_45 (lv_at hl 2 rfl) ?_
  refine lv_imul hx hb dX11_uses_47 ?_
  refine lv_aload_n hx hb dX11_uses_48 rfl (lv_at hl 0 rfl) ?_
  obtain ⟨hc_11, hf⟩ := aw_chk_some hf
  obtain ⟨q_12, hq_13, hf⟩ := aw_bind_some hf
  refine gf_X11_68 hx hb G hown hc_11 hq_13 dX11_uses_49 ?_
  refine lv_iload hx hb dX11_uses_52 (lv_at hl 2 rfl) ?_
  obtain ⟨hc_14, hf⟩ := aw_chk_some hf
  refine aw_ial hx hb G hc_14 dX11_uses_54 ?_
  refine lv_iadd hx hb dX11_uses_55 ?_
  refine lv_icmp_ge (tgt := 84) hx hb dX11_uses_56 (by decide) (fun hc => ?_) (fun hc => ?_)
  · have hf := aw_ite_t hc hf
    exact hk41 _ hf _ _ _ (lv_sub hl [0, 1, 2] rfl) G
  · have hf := aw_ite_f hc hf
    refine lv_aload_n hx hb dX11_uses_59 rfl (lv_at hl 0 rfl) ?_
    obtain ⟨q_15, hq_16, hf⟩ := aw_bind_some hf
    refine gf_X11_87 hx hb G hown hc_11 hq_16 dX11_uses_60 ?_
    refine lv_iload hx hb dX11_uses_63 (lv_at hl 2 rfl) ?_
    refine lv_dup2_11 hx hb dX11_uses_65 rfl rfl ?_
    obtain ⟨hc_17, hf⟩ := aw_chk_some hf
    refine aw_lal hx hb G hc_17 dX11_uses_66 ?_
    refine lv_lconst (v := (1 : Int64)) hx hb dX11_uses_67 (by decide) ?_
    refine lv_aload_n hx hb dX11_uses_68 rfl (lv_at hl 0 rfl) ?_
    obtain ⟨q_18, hq_19, hf⟩ := aw_bind_some hf
    refine gf_X11_65 hx hb G hown hc_11 hq_19 dX11_uses_69 ?_
    refine lv_iload hx hb dX11_uses_72 (lv_at hl 3 rfl) ?_
    obtain ⟨hc_20, hf⟩ := aw_chk_some hf
    refine aw_ial hx hb G hc_20 dX11_uses_74 ?_
    refine lv_lshl hx hb dX11_uses_75 rfl ?_
    refine lv_lor hx hb dX11_uses_76 ?_
    refine aw_las hx hb G hc_17 dX11_uses_77 (fun H locs G => ?_)
    refine lv_iinc (v := x5 + 1) (lv' := [(5, .int (x5 + 1)), (0, .ref (ad x0)), (2, .long x2), (4, .int x4)]) hx hb dX11_uses_78 hl (k := 3) rfl rfl (by decide) rfl (fun ls hl => ?_)
    refine lv_goto (tgt := 41) hx hb dX11_uses_81 (by decide) ?_
    exact hkb41 _ _ hf _ _ _ (lv_sub hl [1, 2, 3, 0] rfl) G
theorem w_X11_uses_L41 {z : Int32 × Dt} (X : aw_X p c cX11_uses 6 s RX11 m meth (some .int)) {k41 : Dt → Option (Int32 × Dt)} {x0 : Nat} {x2 : Int64} {x4 : Int32} (n : Nat) {x5 : Int32} {d : Dt} (hf : f_X11_uses_L41 σ n k41 x0 x2 x4 x5 d = some z) (hk41 : ∀ (d : Dt), k41 d = some z → ∀ (H : Heap) (locs : List Loc) (ls : Array Slot), lv_has ls 6 [(0, .ref (ad x0)), (2, .long x2), (4, .int x4)] → aw_G D cA base ad σ d s H locs → W p l e rm_X11_uses s m args below meth c H locs 0 0 (aw_Ei D cA base ad σ below args s z) (F0 m 84 ls [])) {H : Heap} {locs : List Loc} {ls : Array Slot} (hl : lv_has ls 6 [(0, .ref (ad x0)), (2, .long x2), (4, .int x4), (5, .int x5)]) (G : aw_G D cA base ad σ d s H locs) : W p l e rm_X11_uses s m args below meth c H locs 0 0 (aw_Ei D cA base ad σ below args s z) (F0 m 41 ls []) := by
  induction n generalizing x5 d H locs ls with
  | zero => exact absurd (show (none : Option (Int32 × Dt)) = some z from hf) (by simp)
  | succ n ih => exact w_X11_uses_B41 X (kb41 := f_X11_uses_L41 σ n k41 x0 x2 x4) hf  (fun x5 d hf H locs ls hl G => ih hf hl G) hk41 hl G
set_option maxHeartbeats 4000000 in
set_option maxRecDepth 100000 in
theorem w_X11_uses_B17 {z : Int32 × Dt} (X : aw_X p c cX11_uses 6 s RX11 m meth (some .int)) {kb17 : Int64 → Int32 → Dt → Option (Int32 × Dt)} {k17 : Int64 → Dt → Option (Int32 × Dt)} {x0 : Nat} {x2 : Int64} {x4 : Int32} {d : Dt} (hf : f_X11_uses_B17 σ kb17 k17 x0 x2 x4 d = some z) (hkb17 : ∀ (y2 : Int64) (y4 : Int32) (d : Dt), kb17 y2 y4 d = some z → ∀ (H : Heap) (locs : List Loc) (ls : Array Slot), lv_has ls 6 [(0, .ref (ad x0)), (2, .long y2), (4, .int y4)] → aw_G D cA base ad σ d s H locs → W p l e rm_X11_uses s m args below meth c H locs 0 0 (aw_Ei D cA base ad σ below args s z) (F0 m 17 ls [])) (hk17 : ∀ (y2 : Int64) (d : Dt), k17 y2 d = some z → ∀ (H : Heap) (locs : List Loc) (ls : Array Slot), lv_has ls 6 [(0, .ref (ad x0)), (2, .long y2)] → aw_G D cA base ad σ d s H locs → W p l e rm_X11_uses s m args below meth c H locs 0 0 (aw_Ei D cA base ad σ below args s z) (F0 m 100 ls [])) {H : Heap} {locs : List Loc} {ls : Array Slot} (hl : lv_has ls 6 [(0, .ref (ad x0)), (2, .long x2), (4, .int x4)]) (G : aw_G D cA base ad σ d s H locs) : W p l e rm_X11_uses s m args below meth c H locs 0 0 (aw_Ei D cA base ad σ below args s z) (F0 m 17 ls []) := by
  have hx := X.1; have hb := X.2.1; have hml := X.2.2.1; have hown := X.2.2.2.1
  unfold f_X11_uses_B17 at hf
  refine lv_iload hx hb dX11_uses_17 (lv_at hl 2 rfl) ?_
  refine lv_aload_n hx hb dX11_uses_19 rfl (lv_at hl 0 rfl) ?_
  obtain ⟨hc_7, hf⟩ := aw_chk_some hf
  refine gf_X11_100 hx hb G hown hc_7 dX11_uses_20 ?_
  refine lv_icmp_ge (tgt := 100) hx hb dX11_uses_23 (by decide) (fun hc => ?_) (fun hc => ?_)
  · have hf := aw_ite_t hc hf
    exact hk17 _ _ hf _ _ _ (lv_sub hl [0, 1] rfl) G
  · have hf := aw_ite_f hc hf
    refine lv_aload_n hx hb dX11_uses_26 rfl (lv_at hl 0 rfl) ?_
    obtain ⟨q_8, hq_9, hf⟩ := aw_bind_some hf
    refine gf_X11_87 hx hb G hown hc_7 hq_9 dX11_uses_27 ?_
    refine lv_iload hx hb dX11_uses_30 (lv_at hl 2 rfl) ?_
    refine lv_lconst (v := (0 : Int64)) hx hb dX11_uses_32 (by decide) ?_
    obtain ⟨hc_10, hf⟩ := aw_chk_some hf
    refine aw_las hx hb G hc_10 dX11_uses_33 (fun H locs G => ?_)
    refine lv_bipush (v := (16 : Int32)) hx hb dX11_uses_34 (by decide) ?_
    refine lv_iload hx hb dX11_uses_36 (lv_at hl 2 rfl) ?_
    refine lv_imul hx hb dX11_uses_38 ?_
    refine lv_istore (lv' := [(5, .int (((16 : Int32)) * x4)), (0, .ref (ad x0)), (2, .long x2), (4, .int x4)]) hx hb dX11_uses_39 hl (by decide) rfl (fun ls hl => ?_)
    refine w_X11_uses_L41 X aw_FU hf  (fun d_21 hf H locs ls hl G => ?_) (lv_sub hl [1, 2, 3, 0] rfl) G
    refine lv_lload_n hx hb dX11_uses_84 rfl (lv_at hl 1 rfl) ?_
    refine lv_aload_n hx hb dX11_uses_85 rfl (lv_at hl 0 rfl) ?_
    refine gf_X11_87 hx hb G hown hc_7 hq_9 dX11_uses_86 ?_
    refine lv_iload hx hb dX11_uses_89 (lv_at hl 2 rfl) ?_
    refine aw_lal hx hb G hc_10 dX11_uses_91 ?_
    refine lv_lor hx hb dX11_uses_92 ?_
    refine lv_lstore_n (lv' := [(2, .long (x2 ||| (d_21.2 q_8 x4.toNatClampNeg))), (0, .ref (ad x0)), (4, .int x4)]) hx hb dX11_uses_93 rfl hl (by decide) rfl (fun ls hl => ?_)
    refine lv_iinc (v := x4 + 1) (lv' := [(4, .int (x4 + 1)), (2, .long (x2 ||| (d_21.2 q_8 x4.toNatClampNeg))), (0, .ref (ad x0))]) hx hb dX11_uses_94 hl (k := 2) rfl rfl (by decide) rfl (fun ls hl => ?_)
    refine lv_goto (tgt := 17) hx hb dX11_uses_97 (by decide) ?_
    exact hkb17 _ _ _ hf _ _ _ (lv_sub hl [2, 1, 0] rfl) G
theorem w_X11_uses_L17 {z : Int32 × Dt} (X : aw_X p c cX11_uses 6 s RX11 m meth (some .int)) {k17 : Int64 → Dt → Option (Int32 × Dt)} {x0 : Nat} (n : Nat) {x2 : Int64} {x4 : Int32} {d : Dt} (hf : f_X11_uses_L17 σ n k17 x0 x2 x4 d = some z) (hk17 : ∀ (y2 : Int64) (d : Dt), k17 y2 d = some z → ∀ (H : Heap) (locs : List Loc) (ls : Array Slot), lv_has ls 6 [(0, .ref (ad x0)), (2, .long y2)] → aw_G D cA base ad σ d s H locs → W p l e rm_X11_uses s m args below meth c H locs 0 0 (aw_Ei D cA base ad σ below args s z) (F0 m 100 ls [])) {H : Heap} {locs : List Loc} {ls : Array Slot} (hl : lv_has ls 6 [(0, .ref (ad x0)), (2, .long x2), (4, .int x4)]) (G : aw_G D cA base ad σ d s H locs) : W p l e rm_X11_uses s m args below meth c H locs 0 0 (aw_Ei D cA base ad σ below args s z) (F0 m 17 ls []) := by
  induction n generalizing x2 x4 d H locs ls with
  | zero => exact absurd (show (none : Option (Int32 × Dt)) = some z from hf) (by simp)
  | succ n ih => exact w_X11_uses_B17 X (kb17 := f_X11_uses_L17 σ n k17 x0) hf  (fun x2 x4 d hf H locs ls hl G => ih hf hl G) hk17 hl G
set_option maxHeartbeats 4000000 in
set_option maxRecDepth 100000 in
theorem w_X11_uses_J136 {z : Int32 × Dt} (X : aw_X p c cX11_uses 6 s RX11 m meth (some .int)) {kb106 : Int32 → Int32 → Dt → Option (Int32 × Dt)} {x0 : Nat} {x2 : Int64} {x4 : Int32} {x5 : Int32} {d : Dt} (hf : f_X11_uses_J136 σ kb106 x0 x2 x4 x5 d = some z) (hkb106 : ∀ (y4 : Int32) (y5 : Int32) (d : Dt), kb106 y4 y5 d = some z → ∀ (H : Heap) (locs : List Loc) (ls : Array Slot), lv_has ls 6 [(0, .ref (ad x0)), (2, .long x2), (4, .int y4), (5, .int y5)] → aw_G D cA base ad σ d s H locs → W p l e rm_X11_uses s m args below meth c H locs 0 0 (aw_Ei D cA base ad σ below args s z) (F0 m 106 ls [])) {H : Heap} {locs : List Loc} {ls : Array Slot} (hl : lv_has ls 6 [(0, .ref (ad x0)), (2, .long x2), (4, .int x4), (5, .int x5)]) (G : aw_G D cA base ad σ d s H locs) : W p l e rm_X11_uses s m args below meth c H locs 0 0 (aw_Ei D cA base ad σ below args s z) (F0 m 136 ls []) := by
  have hx := X.1; have hb := X.2.1; have hml := X.2.2.1; have hown := X.2.2.2.1
  unfold f_X11_uses_J136 at hf
  refine lv_iinc (v := x5 + 1) (lv' := [(5, .int (x5 + 1)), (0, .ref (ad x0)), (2, .long x2), (4, .int x4)]) hx hb dX11_uses_136 hl (k := 3) rfl rfl (by decide) rfl (fun ls hl => ?_)
  refine lv_goto (tgt := 106) hx hb dX11_uses_139 (by decide) ?_
  exact hkb106 _ _ _ hf _ _ _ (lv_sub hl [1, 2, 3, 0] rfl) G
set_option maxHeartbeats 4000000 in
set_option maxRecDepth 100000 in
theorem w_X11_uses_B106 {z : Int32 × Dt} (X : aw_X p c cX11_uses 6 s RX11 m meth (some .int)) {kb106 : Int32 → Int32 → Dt → Option (Int32 × Dt)} {k106 : Int32 → Dt → Option (Int32 × Dt)} {x0 : Nat} {x2 : Int64} {x4 : Int32} {x5 : Int32} {d : Dt} (hf : f_X11_uses_B106 σ kb106 k106 x0 x2 x4 x5 d = some z) (hkb106 : ∀ (y4 : Int32) (y5 : Int32) (d : Dt), kb106 y4 y5 d = some z → ∀ (H : Heap) (locs : List Loc) (ls : Array Slot), lv_has ls 6 [(0, .ref (ad x0)), (2, .long x2), (4, .int y4), (5, .int y5)] → aw_G D cA base ad σ d s H locs → W p l e rm_X11_uses s m args below meth c H locs 0 0 (aw_Ei D cA base ad σ below args s z) (F0 m 106 ls [])) (hk106 : ∀ (y4 : Int32) (d : Dt), k106 y4 d = some z → ∀ (H : Heap) (locs : List Loc) (ls : Array Slot), lv_has ls 6 [(4, .int y4)] → aw_G D cA base ad σ d s H locs → W p l e rm_X11_uses s m args below meth c H locs 0 0 (aw_Ei D cA base ad σ below args s z) (F0 m 142 ls [])) {H : Heap} {locs : List Loc} {ls : Array Slot} (hl : lv_has ls 6 [(0, .ref (ad x0)), (2, .long x2), (4, .int x4), (5, .int x5)]) (G : aw_G D cA base ad σ d s H locs) : W p l e rm_X11_uses s m args below meth c H locs 0 0 (aw_Ei D cA base ad σ below args s z) (F0 m 106 ls []) := by
  have hx := X.1; have hb := X.2.1; have hml := X.2.2.1; have hown := X.2.2.2.1
  unfold f_X11_uses_B106 at hf
  refine lv_iload hx hb dX11_uses_106 (lv_at hl 3 rfl) ?_
  refine lv_bipush (v := (50 : Int32)) hx hb dX11_uses_108 (by decide) ?_
  refine lv_icmp_ge (tgt := 142) hx hb dX11_uses_110 (by decide) (fun hc => ?_) (fun hc => ?_)
  · have hf := aw_ite_t hc hf
    exact hk106 _ _ hf _ _ _ (lv_sub hl [2] rfl) G
  · have hf := aw_ite_f hc hf
    refine lv_lload_n hx hb dX11_uses_113 rfl (lv_at hl 1 rfl) ?_
    refine lv_iload hx hb dX11_uses_114 (lv_at hl 3 rfl) ?_
    refine lv_lshr hx hb dX11_uses_116 rfl ?_
    refine lv_lconst (v := (1 : Int64)) hx hb dX11_uses_117 (by decide) ?_
    refine lv_land hx hb dX11_uses_118 ?_
    refine lv_lconst (v := (1 : Int64)) hx hb dX11_uses_119 (by decide) ?_
    refine W.lcmp hx hb dX11_uses_120 ?_
    refine lv_if_ne (tgt := 136) hx hb dX11_uses_121 (by decide) (fun hc => ?_) (fun hc => ?_)
    · have hf := aw_ite_f hc hf
      exact w_X11_uses_J136 X hf hkb106 (lv_sub hl [0, 1, 2, 3] rfl) G
    · have hf := aw_ite_t hc hf
      refine lv_aload_n hx hb dX11_uses_124 rfl (lv_at hl 0 rfl) ?_
      obtain ⟨hc_24, hf⟩ := aw_chk_some hf
      obtain ⟨q_25, hq_26, hf⟩ := aw_bind_some hf
      refine gf_X11_81 hx hb G hown hc_24 hq_26 dX11_uses_125 ?_
      refine lv_iload hx hb dX11_uses_128 (lv_at hl 2 rfl) ?_
      refine lv_iload hx hb dX11_uses_130 (lv_at hl 3 rfl) ?_
      obtain ⟨hc_27, hf⟩ := aw_chk_some hf
      refine aw_ias hx hb G hc_27 dX11_uses_132 (fun H locs G => ?_)
      refine lv_iinc (v := x4 + 1) (lv' := [(4, .int (x4 + 1)), (0, .ref (ad x0)), (2, .long x2), (5, .int x5)]) hx hb dX11_uses_133 hl (k := 2) rfl rfl (by decide) rfl (fun ls hl => ?_)
      exact w_X11_uses_J136 X hf hkb106 (lv_sub hl [1, 2, 0, 3] rfl) G
theorem w_X11_uses_L106 {z : Int32 × Dt} (X : aw_X p c cX11_uses 6 s RX11 m meth (some .int)) {k106 : Int32 → Dt → Option (Int32 × Dt)} {x0 : Nat} {x2 : Int64} (n : Nat) {x4 : Int32} {x5 : Int32} {d : Dt} (hf : f_X11_uses_L106 σ n k106 x0 x2 x4 x5 d = some z) (hk106 : ∀ (y4 : Int32) (d : Dt), k106 y4 d = some z → ∀ (H : Heap) (locs : List Loc) (ls : Array Slot), lv_has ls 6 [(4, .int y4)] → aw_G D cA base ad σ d s H locs → W p l e rm_X11_uses s m args below meth c H locs 0 0 (aw_Ei D cA base ad σ below args s z) (F0 m 142 ls [])) {H : Heap} {locs : List Loc} {ls : Array Slot} (hl : lv_has ls 6 [(0, .ref (ad x0)), (2, .long x2), (4, .int x4), (5, .int x5)]) (G : aw_G D cA base ad σ d s H locs) : W p l e rm_X11_uses s m args below meth c H locs 0 0 (aw_Ei D cA base ad σ below args s z) (F0 m 106 ls []) := by
  induction n generalizing x4 x5 d H locs ls with
  | zero => exact absurd (show (none : Option (Int32 × Dt)) = some z from hf) (by simp)
  | succ n ih => exact w_X11_uses_B106 X (kb106 := f_X11_uses_L106 σ n k106 x0 x2) hf  (fun x4 x5 d hf H locs ls hl G => ih hf hl G) hk106 hl G
end W_X11_uses
set_option maxHeartbeats 4000000 in
set_option maxRecDepth 100000 in
theorem c_X11_uses (l : Launch) {σ : Sg} {x0 : Nat} {x1 : Int32} {d : Dt} {z : Int32 × Dt} (hf : f_X11_uses σ x0 x1 d = some z) : aw_Mi l yX11_uses (Cond.code yX11_uses cX11_uses 6 (some .int)) rm_X11_uses (fun ad => [.ref (ad x0), .int x1]) σ d z := by
  intro D cA base ad
  refine aw_ofW (own := RX11) (cc := cX11_uses) (nL := 6) (ret := some .int) (by decide) rfl rfl ?_
  intro p e s m below meth c X hnm G
  have hx := X.1; have hb := X.2.1; have hml := X.2.2.1; have hown := X.2.2.2.1
  refine aw_ls (lv := [(0, .ref (ad x0)), (1, .int x1)]) (Nat.le_of_ble_eq_true rfl) rfl (fun ls hl => ?_)
  unfold f_X11_uses at hf
  refine lv_aload_n hx hb dX11_uses_0 rfl (lv_at hl 0 rfl) ?_
  refine lv_iload_n hx hb dX11_uses_1 rfl (lv_at hl 1 rfl) ?_
  refine lv_aload_n hx hb dX11_uses_2 rfl (lv_at hl 0 rfl) ?_
  obtain ⟨hc_1, hf⟩ := aw_chk_some hf
  obtain ⟨q_2, hq_3, hf⟩ := aw_bind_some hf
  refine gf_X11_41 hx hb G hown hc_1 hq_3 dX11_uses_3 ?_
  refine lv_iload_n hx hb dX11_uses_6 rfl (lv_at hl 1 rfl) ?_
  obtain ⟨hc_4, hf⟩ := aw_chk_some hf
  refine aw_ial hx hb G hc_4 dX11_uses_7 ?_
  refine lv_iconst (v := (0 : Int32)) hx hb dX11_uses_8 (by decide) ?_
  obtain ⟨z_5, hz_6, hf⟩ := aw_bind_some hf
  refine aw_VV (As := [.int x1, .int (d.1 q_2 x1.toNatClampNeg), .int ((0 : Int32))]) (rest := []) X G hl.1 cr_X11_156 (c_X11_spellsAll l hz_6) ⟨rfl, rfl⟩ rfl rfl rfl (by decide) hc_1 rfl ⟨Nat.le_of_ble_eq_true rfl, Nat.le_of_ble_eq_true rfl⟩ (Nat.le_of_ble_eq_true rfl) dX11_uses_9 ⟨Nat.zero_le _, Nat.zero_le _⟩ (fun H locs G => ?_)
  refine lv_lconst (v := (0 : Int64)) hx hb dX11_uses_12 (by decide) ?_
  refine lv_lstore_n (lv' := [(2, .long ((0 : Int64))), (0, .ref (ad x0)), (1, .int x1)]) hx hb dX11_uses_13 rfl hl (by decide) rfl (fun ls hl => ?_)
  refine lv_iconst (v := (0 : Int32)) hx hb dX11_uses_14 (by decide) ?_
  refine lv_istore (lv' := [(4, .int ((0 : Int32))), (2, .long ((0 : Int64))), (0, .ref (ad x0)), (1, .int x1)]) hx hb dX11_uses_15 hl (by decide) rfl (fun ls hl => ?_)
  refine w_X11_uses_L17 X aw_FU hf  (fun x2_22 d_23 hf H locs ls hl G => ?_) (lv_sub hl [2, 1, 0] rfl) G
  refine lv_iconst (v := (0 : Int32)) hx hb dX11_uses_100 (by decide) ?_
  refine lv_istore (lv' := [(4, .int ((0 : Int32))), (0, .ref (ad x0)), (2, .long x2_22)]) hx hb dX11_uses_101 hl (by decide) rfl (fun ls hl => ?_)
  refine lv_iconst (v := (0 : Int32)) hx hb dX11_uses_103 (by decide) ?_
  refine lv_istore (lv' := [(5, .int ((0 : Int32))), (4, .int ((0 : Int32))), (0, .ref (ad x0)), (2, .long x2_22)]) hx hb dX11_uses_104 hl (by decide) rfl (fun ls hl => ?_)
  refine w_X11_uses_L106 X aw_FU hf  (fun x4_28 d_29 hf H locs ls hl G => ?_) (lv_sub hl [2, 3, 1, 0] rfl) G
  refine lv_iload hx hb dX11_uses_142 (lv_at hl 0 rfl) ?_
  exact aw_reti X G hf dX11_uses_144
def rm_X11_read : Room := { frames := 0, cells := 0, slots := 0, locals := 0 }
def f_X11_read_J44 (σ : Sg) (kb5 : Int32 → Int32 → Dt → Option (Int32 × Dt)) (t1 : Int32) (t0 : Int32) (x0 : Nat) (x1 : Int64) (x4 : Int32) (d : Dt) : Option (Int32 × Dt) :=
  kb5 (t0 + t1) (x4 + 1) d
def f_X11_read_B5 (σ : Sg) (kb5 : Int32 → Int32 → Dt → Option (Int32 × Dt)) (k5 : Int32 → Dt → Option (Int32 × Dt)) (x0 : Nat) (x1 : Int64) (x3 : Int32) (x4 : Int32) (d : Dt) : Option (Int32 × Dt) :=
  aw_chk (aw_O σ 11 32 x0) (if (d.1 x0 2) ≤ x4 then k5 x3 d else (σ.2.2 x0 28).bind (fun q_2 => aw_chk (aw_I σ 21 q_2 x4) (if (lg_cmp ((d.2 q_2 x4.toNatClampNeg) &&& (x1 ^^^ ((-1 : Int64)))) ((0 : Int64))) = 0 then (σ.2.2 x0 5).bind (fun q_5 => aw_chk (aw_I σ 20 q_5 x4) (f_X11_read_J44 σ kb5 (d.1 q_5 x4.toNatClampNeg) x3 x0 x1 x4 d)) else f_X11_read_J44 σ kb5 ((0 : Int32)) x3 x0 x1 x4 d)))
def f_X11_read_L5 (σ : Sg) (n : Nat) (k5 : Int32 → Dt → Option (Int32 × Dt)) (x0 : Nat) (x1 : Int64) : Int32 → Int32 → Dt → Option (Int32 × Dt) := match n with
  | 0 => fun _ _ _ => none
  | n + 1 => fun x3 x4 d => f_X11_read_B5 σ (f_X11_read_L5 σ n k5 x0 x1) k5 x0 x1 x3 x4 d
def f_X11_read (σ : Sg) (x0 : Nat) (x1 : Int64) (d : Dt) : Option (Int32 × Dt) :=
  f_X11_read_L5 σ aw_FU (fun x3_8 d_9 => some (x3_8, d_9)) x0 x1 ((0 : Int32)) ((0 : Int32)) d
section W_X11_read
variable {p : Program} {l : Launch} {e : Env} {s : State} {m : MethodId} {args : Array Value} {below : List Frame} {meth : Method} {c : Code}
variable {D : va_G} {cA : Nat → ClassId} {base : Nat} {ad : Nat → Nat} {σ : Sg}
set_option maxHeartbeats 4000000 in
set_option maxRecDepth 100000 in
theorem w_X11_read_J44 {z : Int32 × Dt} (X : aw_X p c cX11_read 5 s RX11 m meth (some .int)) {kb5 : Int32 → Int32 → Dt → Option (Int32 × Dt)} {t1 : Int32} {t0 : Int32} {x0 : Nat} {x1 : Int64} {x4 : Int32} {d : Dt} (hf : f_X11_read_J44 σ kb5 t1 t0 x0 x1 x4 d = some z) (hkb5 : ∀ (y3 : Int32) (y4 : Int32) (d : Dt), kb5 y3 y4 d = some z → ∀ (H : Heap) (locs : List Loc) (ls : Array Slot), lv_has ls 5 [(0, .ref (ad x0)), (1, .long x1), (3, .int y3), (4, .int y4)] → aw_G D cA base ad σ d s H locs → W p l e rm_X11_read s m args below meth c H locs 0 0 (aw_Ei D cA base ad σ below args s z) (F0 m 5 ls [])) {H : Heap} {locs : List Loc} {ls : Array Slot} (hl : lv_has ls 5 [(0, .ref (ad x0)), (1, .long x1), (4, .int x4)]) (G : aw_G D cA base ad σ d s H locs) : W p l e rm_X11_read s m args below meth c H locs 0 0 (aw_Ei D cA base ad σ below args s z) (F0 m 44 ls [.int t1, .int t0]) := by
  have hx := X.1; have hb := X.2.1; have hml := X.2.2.1; have hown := X.2.2.2.1
  unfold f_X11_read_J44 at hf
  refine lv_iadd hx hb dX11_read_44 ?_
  refine lv_istore_n (lv' := [(3, .int (t0 + t1)), (0, .ref (ad x0)), (1, .long x1), (4, .int x4)]) hx hb dX11_read_45 rfl hl (by decide) rfl (fun ls hl => ?_)
  refine lv_iinc (v := x4 + 1) (lv' := [(4, .int (x4 + 1)), (3, .int (t0 + t1)), (0, .ref (ad x0)), (1, .long x1)]) hx hb dX11_read_46 hl (k := 3) rfl rfl (by decide) rfl (fun ls hl => ?_)
  refine lv_goto (tgt := 5) hx hb dX11_read_49 (by decide) ?_
  exact hkb5 _ _ _ hf _ _ _ (lv_sub hl [2, 3, 1, 0] rfl) G
set_option maxHeartbeats 4000000 in
set_option maxRecDepth 100000 in
theorem w_X11_read_B5 {z : Int32 × Dt} (X : aw_X p c cX11_read 5 s RX11 m meth (some .int)) {kb5 : Int32 → Int32 → Dt → Option (Int32 × Dt)} {k5 : Int32 → Dt → Option (Int32 × Dt)} {x0 : Nat} {x1 : Int64} {x3 : Int32} {x4 : Int32} {d : Dt} (hf : f_X11_read_B5 σ kb5 k5 x0 x1 x3 x4 d = some z) (hkb5 : ∀ (y3 : Int32) (y4 : Int32) (d : Dt), kb5 y3 y4 d = some z → ∀ (H : Heap) (locs : List Loc) (ls : Array Slot), lv_has ls 5 [(0, .ref (ad x0)), (1, .long x1), (3, .int y3), (4, .int y4)] → aw_G D cA base ad σ d s H locs → W p l e rm_X11_read s m args below meth c H locs 0 0 (aw_Ei D cA base ad σ below args s z) (F0 m 5 ls [])) (hk5 : ∀ (y3 : Int32) (d : Dt), k5 y3 d = some z → ∀ (H : Heap) (locs : List Loc) (ls : Array Slot), lv_has ls 5 [(3, .int y3)] → aw_G D cA base ad σ d s H locs → W p l e rm_X11_read s m args below meth c H locs 0 0 (aw_Ei D cA base ad σ below args s z) (F0 m 52 ls [])) {H : Heap} {locs : List Loc} {ls : Array Slot} (hl : lv_has ls 5 [(0, .ref (ad x0)), (1, .long x1), (3, .int x3), (4, .int x4)]) (G : aw_G D cA base ad σ d s H locs) : W p l e rm_X11_read s m args below meth c H locs 0 0 (aw_Ei D cA base ad σ below args s z) (F0 m 5 ls []) := by
  have hx := X.1; have hb := X.2.1; have hml := X.2.2.1; have hown := X.2.2.2.1
  unfold f_X11_read_B5 at hf
  refine lv_iload hx hb dX11_read_5 (lv_at hl 3 rfl) ?_
  refine lv_aload_n hx hb dX11_read_7 rfl (lv_at hl 0 rfl) ?_
  obtain ⟨hc_1, hf⟩ := aw_chk_some hf
  refine gf_X11_100 hx hb G hown hc_1 dX11_read_8 ?_
  refine lv_icmp_ge (tgt := 52) hx hb dX11_read_11 (by decide) (fun hc => ?_) (fun hc => ?_)
  · have hf := aw_ite_t hc hf
    exact hk5 _ _ hf _ _ _ (lv_sub hl [2] rfl) G
  · have hf := aw_ite_f hc hf
    refine lv_iload_n hx hb dX11_read_14 rfl (lv_at hl 2 rfl) ?_
    refine lv_aload_n hx hb dX11_read_15 rfl (lv_at hl 0 rfl) ?_
    obtain ⟨q_2, hq_3, hf⟩ := aw_bind_some hf
    refine gf_X11_87 hx hb G hown hc_1 hq_3 dX11_read_16 ?_
    refine lv_iload hx hb dX11_read_19 (lv_at hl 3 rfl) ?_
    obtain ⟨hc_4, hf⟩ := aw_chk_some hf
    refine aw_lal hx hb G hc_4 dX11_read_21 ?_
    refine lv_lload_n hx hb dX11_read_22 rfl (lv_at hl 1 rfl) ?_
    refine lv_ldc2 (v := (-1 : Int64)) hx hb hown (G.1.hts _ m_1289) dX11_read_23 ?_
    refine lv_lxor hx hb dX11_read_26 ?_
    refine lv_land hx hb dX11_read_27 ?_
    refine lv_lconst (v := (0 : Int64)) hx hb dX11_read_28 (by decide) ?_
    refine W.lcmp hx hb dX11_read_29 ?_
    refine lv_if_ne (tgt := 43) hx hb dX11_read_30 (by decide) (fun hc => ?_) (fun hc => ?_)
    · have hf := aw_ite_f hc hf
      refine lv_iconst (v := (0 : Int32)) hx hb dX11_read_43 (by decide) ?_
      exact w_X11_read_J44 X hf hkb5 (lv_sub hl [0, 1, 3] rfl) G
    · have hf := aw_ite_t hc hf
      refine lv_aload_n hx hb dX11_read_33 rfl (lv_at hl 0 rfl) ?_
      obtain ⟨q_5, hq_6, hf⟩ := aw_bind_some hf
      refine gf_X11_19 hx hb G hown hc_1 hq_6 dX11_read_34 ?_
      refine lv_iload hx hb dX11_read_37 (lv_at hl 3 rfl) ?_
      obtain ⟨hc_7, hf⟩ := aw_chk_some hf
      refine aw_ial hx hb G hc_7 dX11_read_39 ?_
      refine lv_goto (tgt := 44) hx hb dX11_read_40 (by decide) ?_
      exact w_X11_read_J44 X hf hkb5 (lv_sub hl [0, 1, 3] rfl) G
theorem w_X11_read_L5 {z : Int32 × Dt} (X : aw_X p c cX11_read 5 s RX11 m meth (some .int)) {k5 : Int32 → Dt → Option (Int32 × Dt)} {x0 : Nat} {x1 : Int64} (n : Nat) {x3 : Int32} {x4 : Int32} {d : Dt} (hf : f_X11_read_L5 σ n k5 x0 x1 x3 x4 d = some z) (hk5 : ∀ (y3 : Int32) (d : Dt), k5 y3 d = some z → ∀ (H : Heap) (locs : List Loc) (ls : Array Slot), lv_has ls 5 [(3, .int y3)] → aw_G D cA base ad σ d s H locs → W p l e rm_X11_read s m args below meth c H locs 0 0 (aw_Ei D cA base ad σ below args s z) (F0 m 52 ls [])) {H : Heap} {locs : List Loc} {ls : Array Slot} (hl : lv_has ls 5 [(0, .ref (ad x0)), (1, .long x1), (3, .int x3), (4, .int x4)]) (G : aw_G D cA base ad σ d s H locs) : W p l e rm_X11_read s m args below meth c H locs 0 0 (aw_Ei D cA base ad σ below args s z) (F0 m 5 ls []) := by
  induction n generalizing x3 x4 d H locs ls with
  | zero => exact absurd (show (none : Option (Int32 × Dt)) = some z from hf) (by simp)
  | succ n ih => exact w_X11_read_B5 X (kb5 := f_X11_read_L5 σ n k5 x0 x1) hf  (fun x3 x4 d hf H locs ls hl G => ih hf hl G) hk5 hl G
end W_X11_read
set_option maxHeartbeats 4000000 in
set_option maxRecDepth 100000 in
theorem c_X11_read (l : Launch) {σ : Sg} {x0 : Nat} {x1 : Int64} {d : Dt} {z : Int32 × Dt} (hf : f_X11_read σ x0 x1 d = some z) : aw_Mi l yX11_read (Cond.code yX11_read cX11_read 5 (some .int)) rm_X11_read (fun ad => [.ref (ad x0), .long x1]) σ d z := by
  intro D cA base ad
  refine aw_ofW (own := RX11) (cc := cX11_read) (nL := 5) (ret := some .int) (by decide) rfl rfl ?_
  intro p e s m below meth c X hnm G
  have hx := X.1; have hb := X.2.1; have hml := X.2.2.1; have hown := X.2.2.2.1
  refine aw_ls (lv := [(0, .ref (ad x0)), (1, .long x1)]) (Nat.le_of_ble_eq_true rfl) rfl (fun ls hl => ?_)
  unfold f_X11_read at hf
  refine lv_iconst (v := (0 : Int32)) hx hb dX11_read_0 (by decide) ?_
  refine lv_istore_n (lv' := [(3, .int ((0 : Int32))), (0, .ref (ad x0)), (1, .long x1)]) hx hb dX11_read_1 rfl hl (by decide) rfl (fun ls hl => ?_)
  refine lv_iconst (v := (0 : Int32)) hx hb dX11_read_2 (by decide) ?_
  refine lv_istore (lv' := [(4, .int ((0 : Int32))), (3, .int ((0 : Int32))), (0, .ref (ad x0)), (1, .long x1)]) hx hb dX11_read_3 hl (by decide) rfl (fun ls hl => ?_)
  refine w_X11_read_L5 X aw_FU hf  (fun x3_8 d_9 hf H locs ls hl G => ?_) (lv_sub hl [2, 3, 1, 0] rfl) G
  refine lv_iload_n hx hb dX11_read_52 rfl (lv_at hl 0 rfl) ?_
  exact aw_reti X G hf dX11_read_53
def rm_X11_primes : Room := { frames := 5, cells := 0, slots := 0, locals := 125 }
def f_X11_primes_J120 (σ : Sg) (kb65 : Int32 → Int32 → Dt → Option (Int32 × Dt)) (t1 : Int32) (t0 : Int32) (x0 : Nat) (x2 : Int32) (x3 : Int64) (x5 : Int32) (x6 : Int32) (x7 : Int32) (x8 : Int32) (x9 : Int32) (x10 : Int32) (x11 : Int64) (x13 : Int32) (x15 : Int32) (d : Dt) : Option (Int32 × Dt) :=
  kb65 (t0 + t1) (x15 + 1) d
def f_X11_primes_J119 (σ : Sg) (kb65 : Int32 → Int32 → Dt → Option (Int32 × Dt)) (t0 : Int32) (x0 : Nat) (x2 : Int32) (x3 : Int64) (x5 : Int32) (x6 : Int32) (x7 : Int32) (x8 : Int32) (x9 : Int32) (x10 : Int32) (x11 : Int64) (x13 : Int32) (x15 : Int32) (d : Dt) : Option (Int32 × Dt) :=
  f_X11_primes_J120 σ kb65 ((0 : Int32)) t0 x0 x2 x3 x5 x6 x7 x8 x9 x10 x11 x13 x15 d
def f_X11_primes_B65 (σ : Sg) (kb65 : Int32 → Int32 → Dt → Option (Int32 × Dt)) (k65 : Int32 → Dt → Option (Int32 × Dt)) (x0 : Nat) (x2 : Int32) (x3 : Int64) (x5 : Int32) (x6 : Int32) (x7 : Int32) (x8 : Int32) (x9 : Int32) (x10 : Int32) (x11 : Int64) (x13 : Int32) (x14 : Int32) (x15 : Int32) (d : Dt) : Option (Int32 × Dt) :=
  aw_chk (aw_O σ 11 32 x0) (if (d.1 x0 2) ≤ x15 then k65 x14 d else (σ.2.2 x0 28).bind (fun q_11 => aw_chk (aw_I σ 21 q_11 x15) (if (lg_cmp ((d.2 q_11 x15.toNatClampNeg) &&& x11) ((0 : Int64))) = 0 then f_X11_primes_J119 σ kb65 x14 x0 x2 x3 x5 x6 x7 x8 x9 x10 x11 x13 x15 d else if (lg_cmp ((d.2 q_11 x15.toNatClampNeg) &&& (x3 ^^^ ((-1 : Int64)))) ((0 : Int64))) = 0 then f_X11_primes_J119 σ kb65 x14 x0 x2 x3 x5 x6 x7 x8 x9 x10 x11 x13 x15 d else (σ.2.2 x0 5).bind (fun q_14 => aw_chk (aw_I σ 20 q_14 x15) (f_X11_primes_J120 σ kb65 (d.1 q_14 x15.toNatClampNeg) x14 x0 x2 x3 x5 x6 x7 x8 x9 x10 x11 x13 x15 d)))))
def f_X11_primes_L65 (σ : Sg) (n : Nat) (k65 : Int32 → Dt → Option (Int32 × Dt)) (x0 : Nat) (x2 : Int32) (x3 : Int64) (x5 : Int32) (x6 : Int32) (x7 : Int32) (x8 : Int32) (x9 : Int32) (x10 : Int32) (x11 : Int64) (x13 : Int32) : Int32 → Int32 → Dt → Option (Int32 × Dt) := match n with
  | 0 => fun _ _ _ => none
  | n + 1 => fun x14 x15 d => f_X11_primes_B65 σ (f_X11_primes_L65 σ n k65 x0 x2 x3 x5 x6 x7 x8 x9 x10 x11 x13) k65 x0 x2 x3 x5 x6 x7 x8 x9 x10 x11 x13 x14 x15 d
def f_X11_primes_J217 (σ : Sg) (kb32 : Int32 → Int32 → Int32 → Int32 → Dt → Option (Int32 × Dt)) (t0 : Int32) (x0 : Nat) (x2 : Int32) (x3 : Int64) (x5 : Int32) (x6 : Int32) (x7 : Int32) (x8 : Int32) (x10 : Int32) (d : Dt) : Option (Int32 × Dt) :=
  kb32 x7 x8 t0 (x10 + 1) d
def f_X11_primes_J203 (σ : Sg) (kb32 : Int32 → Int32 → Int32 → Int32 → Dt → Option (Int32 × Dt)) (t0 : Int32) (x0 : Nat) (x2 : Int32) (x3 : Int64) (x5 : Int32) (x6 : Int32) (x7 : Int32) (x9 : Int32) (x10 : Int32) (x14 : Int32) (x15 : Int32) (d : Dt) : Option (Int32 × Dt) :=
  if x15 = 0 then f_X11_primes_J217 σ kb32 x9 x0 x2 x3 x5 x6 x7 t0 x10 d else f_X11_primes_J217 σ kb32 x14 x0 x2 x3 x5 x6 x7 t0 x10 d
def f_X11_primes_J189 (σ : Sg) (kb32 : Int32 → Int32 → Int32 → Int32 → Dt → Option (Int32 × Dt)) (t0 : Int32) (x0 : Nat) (x2 : Int32) (x3 : Int64) (x5 : Int32) (x6 : Int32) (x8 : Int32) (x9 : Int32) (x10 : Int32) (x13 : Int32) (x14 : Int32) (x15 : Int32) (d : Dt) : Option (Int32 × Dt) :=
  if x15 = 0 then f_X11_primes_J203 σ kb32 x8 x0 x2 x3 x5 x6 t0 x9 x10 x14 x15 d else f_X11_primes_J203 σ kb32 x13 x0 x2 x3 x5 x6 t0 x9 x10 x14 x15 d
def f_X11_primes_J170 (σ : Sg) (kb32 : Int32 → Int32 → Int32 → Int32 → Dt → Option (Int32 × Dt)) (t0 : Int32) (x0 : Nat) (x2 : Int32) (x3 : Int64) (x5 : Int32) (x6 : Int32) (x7 : Int32) (x8 : Int32) (x9 : Int32) (x10 : Int32) (x13 : Int32) (x14 : Int32) (d : Dt) : Option (Int32 × Dt) :=
  if t0 = 0 then f_X11_primes_J189 σ kb32 x7 x0 x2 x3 x5 x6 x8 x9 x10 x13 x14 t0 d else aw_chk (aw_O σ 11 32 x0) ((σ.2.2 x0 26).bind (fun q_20 => aw_chk (aw_I σ 20 q_20 x10) (f_X11_primes_J189 σ kb32 (d.1 q_20 x10.toNatClampNeg) x0 x2 x3 x5 x6 x8 x9 x10 x13 x14 t0 d)))
def f_X11_primes_J169 (σ : Sg) (kb32 : Int32 → Int32 → Int32 → Int32 → Dt → Option (Int32 × Dt)) (x0 : Nat) (x2 : Int32) (x3 : Int64) (x5 : Int32) (x6 : Int32) (x7 : Int32) (x8 : Int32) (x9 : Int32) (x10 : Int32) (x13 : Int32) (x14 : Int32) (d : Dt) : Option (Int32 × Dt) :=
  f_X11_primes_J170 σ kb32 ((0 : Int32)) x0 x2 x3 x5 x6 x7 x8 x9 x10 x13 x14 d
def f_X11_primes_J165 (σ : Sg) (kb32 : Int32 → Int32 → Int32 → Int32 → Dt → Option (Int32 × Dt)) (x0 : Nat) (x2 : Int32) (x3 : Int64) (x5 : Int32) (x6 : Int32) (x7 : Int32) (x8 : Int32) (x9 : Int32) (x10 : Int32) (x13 : Int32) (x14 : Int32) (d : Dt) : Option (Int32 × Dt) :=
  f_X11_primes_J170 σ kb32 ((1 : Int32)) x0 x2 x3 x5 x6 x7 x8 x9 x10 x13 x14 d
def f_X11_primes_B32 (σ : Sg) (kb32 : Int32 → Int32 → Int32 → Int32 → Dt → Option (Int32 × Dt)) (k32 : Int32 → Int32 → Dt → Option (Int32 × Dt)) (x0 : Nat) (x2 : Int32) (x3 : Int64) (x5 : Int32) (x6 : Int32) (x7 : Int32) (x8 : Int32) (x9 : Int32) (x10 : Int32) (d : Dt) : Option (Int32 × Dt) :=
  if x2 ≤ x10 then k32 x7 x8 d else aw_chk (aw_O σ 11 32 x0) ((σ.2.2 x0 26).bind (fun q_5 => aw_chk (aw_I σ 20 q_5 x10) ((f_X11_read σ x0 (x3 ||| (((1 : Int64)) <<< ((d.1 q_5 x10.toNatClampNeg).toInt64 &&& 63))) d).bind (fun z_8 => f_X11_primes_L65 σ aw_FU (fun x14_17 d_18 => if (lg_cmp (x3 &&& (((1 : Int64)) <<< ((d.1 q_5 x10.toNatClampNeg).toInt64 &&& 63))) ((0 : Int64))) = 0 then if x7 = ((-1 : Int32)) then f_X11_primes_J165 σ kb32 x0 x2 x3 x5 x6 x7 x8 x9 x10 z_8.1 x14_17 d_18 else if x8 < z_8.1 then f_X11_primes_J165 σ kb32 x0 x2 x3 x5 x6 x7 x8 x9 x10 z_8.1 x14_17 d_18 else if z_8.1 = x8 then if x14_17 ≤ x9 then f_X11_primes_J169 σ kb32 x0 x2 x3 x5 x6 x7 x8 x9 x10 z_8.1 x14_17 d_18 else f_X11_primes_J165 σ kb32 x0 x2 x3 x5 x6 x7 x8 x9 x10 z_8.1 x14_17 d_18 else f_X11_primes_J169 σ kb32 x0 x2 x3 x5 x6 x7 x8 x9 x10 z_8.1 x14_17 d_18 else f_X11_primes_J169 σ kb32 x0 x2 x3 x5 x6 x7 x8 x9 x10 z_8.1 x14_17 d_18) x0 x2 x3 x5 x6 x7 x8 x9 x10 (((1 : Int64)) <<< ((d.1 q_5 x10.toNatClampNeg).toInt64 &&& 63)) z_8.1 ((0 : Int32)) ((0 : Int32)) z_8.2))))
def f_X11_primes_L32 (σ : Sg) (n : Nat) (k32 : Int32 → Int32 → Dt → Option (Int32 × Dt)) (x0 : Nat) (x2 : Int32) (x3 : Int64) (x5 : Int32) (x6 : Int32) : Int32 → Int32 → Int32 → Int32 → Dt → Option (Int32 × Dt) := match n with
  | 0 => fun _ _ _ _ _ => none
  | n + 1 => fun x7 x8 x9 x10 d => f_X11_primes_B32 σ (f_X11_primes_L32 σ n k32 x0 x2 x3 x5 x6) k32 x0 x2 x3 x5 x6 x7 x8 x9 x10 d
def f_X11_primes_B14 (σ : Sg) (kb14 : Int64 → Int32 → Int32 → Dt → Option (Int32 × Dt)) (k14 : Int32 → Dt → Option (Int32 × Dt)) (x0 : Nat) (x2 : Int32) (x3 : Int64) (x5 : Int32) (x6 : Int32) (d : Dt) : Option (Int32 × Dt) :=
  if x2 ≤ x6 then k14 x5 d else f_X11_primes_L32 σ aw_FU (fun x7_23 x8_24 d_25 => aw_chk (aw_O σ 11 32 x0) ((f_X11_read σ x0 x3 d_25).bind (fun z_26 => (σ.2.2 x0 27).bind (fun q_29 => aw_chk (aw_I σ 20 q_29 x6) (kb14 (x3 ||| (((1 : Int64)) <<< (x7_23.toInt64 &&& 63))) (x5 + ((x6 + ((1 : Int32))) * (x8_24 - z_26.1))) (x6 + 1) (aw_sI z_26.2 q_29 x6.toNatClampNeg x7_23)))))) x0 x2 x3 x5 x6 ((-1 : Int32)) ((0 : Int32)) ((0 : Int32)) ((0 : Int32)) d
def f_X11_primes_L14 (σ : Sg) (n : Nat) (k14 : Int32 → Dt → Option (Int32 × Dt)) (x0 : Nat) (x2 : Int32) : Int64 → Int32 → Int32 → Dt → Option (Int32 × Dt) := match n with
  | 0 => fun _ _ _ _ => none
  | n + 1 => fun x3 x5 x6 d => f_X11_primes_B14 σ (f_X11_primes_L14 σ n k14 x0 x2) k14 x0 x2 x3 x5 x6 d
def f_X11_primes (σ : Sg) (x0 : Nat) (x1 : Int32) (d : Dt) : Option (Int32 × Dt) :=
  aw_chk (aw_O σ 11 32 x0) ((f_X11_uses σ x0 x1 d).bind (fun z_1 => f_X11_primes_L14 σ aw_FU (fun x5_32 d_33 => some (x5_32, d_33)) x0 z_1.1 ((0 : Int64)) ((0 : Int32)) ((0 : Int32)) z_1.2))
section W_X11_primes
variable {p : Program} {l : Launch} {e : Env} {s : State} {m : MethodId} {args : Array Value} {below : List Frame} {meth : Method} {c : Code}
variable {D : va_G} {cA : Nat → ClassId} {base : Nat} {ad : Nat → Nat} {σ : Sg}
set_option maxHeartbeats 4000000 in
set_option maxRecDepth 100000 in
theorem w_X11_primes_J120 {z : Int32 × Dt} (X : aw_X p c cX11_primes 16 s RX11 m meth (some .int)) {kb65 : Int32 → Int32 → Dt → Option (Int32 × Dt)} {t1 : Int32} {t0 : Int32} {x0 : Nat} {x2 : Int32} {x3 : Int64} {x5 : Int32} {x6 : Int32} {x7 : Int32} {x8 : Int32} {x9 : Int32} {x10 : Int32} {x11 : Int64} {x13 : Int32} {x15 : Int32} {d : Dt} (hf : f_X11_primes_J120 σ kb65 t1 t0 x0 x2 x3 x5 x6 x7 x8 x9 x10 x11 x13 x15 d = some z) (hkb65 : ∀ (y14 : Int32) (y15 : Int32) (d : Dt), kb65 y14 y15 d = some z → ∀ (H : Heap) (locs : List Loc) (ls : Array Slot), lv_has ls 16 [(0, .ref (ad x0)), (2, .int x2), (3, .long x3), (5, .int x5), (6, .int x6), (7, .int x7), (8, .int x8), (9, .int x9), (10, .int x10), (11, .long x11), (13, .int x13), (14, .int y14), (15, .int y15)] → aw_G D cA base ad σ d s H locs → W p l e rm_X11_primes s m args below meth c H locs 0 0 (aw_Ei D cA base ad σ below args s z) (F0 m 65 ls [])) {H : Heap} {locs : List Loc} {ls : Array Slot} (hl : lv_has ls 16 [(0, .ref (ad x0)), (2, .int x2), (3, .long x3), (5, .int x5), (6, .int x6), (7, .int x7), (8, .int x8), (9, .int x9), (10, .int x10), (11, .long x11), (13, .int x13), (15, .int x15)]) (G : aw_G D cA base ad σ d s H locs) : W p l e rm_X11_primes s m args below meth c H locs 0 0 (aw_Ei D cA base ad σ below args s z) (F0 m 120 ls [.int t1, .int t0]) := by
  have hx := X.1; have hb := X.2.1; have hml := X.2.2.1; have hown := X.2.2.2.1
  unfold f_X11_primes_J120 at hf
  refine lv_iadd hx hb dX11_primes_120 ?_
  refine lv_istore (lv' := [(14, .int (t0 + t1)), (0, .ref (ad x0)), (2, .int x2), (3, .long x3), (5, .int x5), (6, .int x6), (7, .int x7), (8, .int x8), (9, .int x9), (10, .int x10), (11, .long x11), (13, .int x13), (15, .int x15)]) hx hb dX11_primes_121 hl (by decide) rfl (fun ls hl => ?_)
  refine lv_iinc (v := x15 + 1) (lv' := [(15, .int (x15 + 1)), (14, .int (t0 + t1)), (0, .ref (ad x0)), (2, .int x2), (3, .long x3), (5, .int x5), (6, .int x6), (7, .int x7), (8, .int x8), (9, .int x9), (10, .int x10), (11, .long x11), (13, .int x13)]) hx hb dX11_primes_123 hl (k := 12) rfl rfl (by decide) rfl (fun ls hl => ?_)
  refine lv_goto (tgt := 65) hx hb dX11_primes_126 (by decide) ?_
  exact hkb65 _ _ _ hf _ _ _ (lv_sub hl [2, 3, 4, 5, 6, 7, 8, 9, 10, 11, 12, 1, 0] rfl) G
set_option maxHeartbeats 4000000 in
set_option maxRecDepth 100000 in
theorem w_X11_primes_J119 {z : Int32 × Dt} (X : aw_X p c cX11_primes 16 s RX11 m meth (some .int)) {kb65 : Int32 → Int32 → Dt → Option (Int32 × Dt)} {t0 : Int32} {x0 : Nat} {x2 : Int32} {x3 : Int64} {x5 : Int32} {x6 : Int32} {x7 : Int32} {x8 : Int32} {x9 : Int32} {x10 : Int32} {x11 : Int64} {x13 : Int32} {x15 : Int32} {d : Dt} (hf : f_X11_primes_J119 σ kb65 t0 x0 x2 x3 x5 x6 x7 x8 x9 x10 x11 x13 x15 d = some z) (hkb65 : ∀ (y14 : Int32) (y15 : Int32) (d : Dt), kb65 y14 y15 d = some z → ∀ (H : Heap) (locs : List Loc) (ls : Array Slot), lv_has ls 16 [(0, .ref (ad x0)), (2, .int x2), (3, .long x3), (5, .int x5), (6, .int x6), (7, .int x7), (8, .int x8), (9, .int x9), (10, .int x10), (11, .long x11), (13, .int x13), (14, .int y14), (15, .int y15)] → aw_G D cA base ad σ d s H locs → W p l e rm_X11_primes s m args below meth c H locs 0 0 (aw_Ei D cA base ad σ below args s z) (F0 m 65 ls [])) {H : Heap} {locs : List Loc} {ls : Array Slot} (hl : lv_has ls 16 [(0, .ref (ad x0)), (2, .int x2), (3, .long x3), (5, .int x5), (6, .int x6), (7, .int x7), (8, .int x8), (9, .int x9), (10, .int x10), (11, .long x11), (13, .int x13), (15, .int x15)]) (G : aw_G D cA base ad σ d s H locs) : W p l e rm_X11_primes s m args below meth c H locs 0 0 (aw_Ei D cA base ad σ below args s z) (F0 m 119 ls [.int t0]) := by
  have hx := X.1; have hb := X.2.1; have hml := X.2.2.1; have hown := X.2.2.2.1
  unfold f_X11_primes_J119 at hf
  refine lv_iconst (v := (0 : Int32)) hx hb dX11_primes_119 (by decide) ?_
  exact w_X11_primes_J120 X hf hkb65 (lv_sub hl [0, 1, 2, 3, 4, 5, 6, 7, 8, 9, 10, 11] rfl) G
set_option maxHeartbeats 4000000 in
set_option maxRecDepth 100000 in
theorem w_X11_primes_B65 {z : Int32 × Dt} (X : aw_X p c cX11_primes 16 s RX11 m meth (some .int)) {kb65 : Int32 → Int32 → Dt → Option (Int32 × Dt)} {k65 : Int32 → Dt → Option (Int32 × Dt)} {x0 : Nat} {x2 : Int32} {x3 : Int64} {x5 : Int32} {x6 : Int32} {x7 : Int32} {x8 : Int32} {x9 : Int32} {x10 : Int32} {x11 : Int64} {x13 : Int32} {x14 : Int32} {x15 : Int32} {d : Dt} (hf : f_X11_primes_B65 σ kb65 k65 x0 x2 x3 x5 x6 x7 x8 x9 x10 x11 x13 x14 x15 d = some z) (hkb65 : ∀ (y14 : Int32) (y15 : Int32) (d : Dt), kb65 y14 y15 d = some z → ∀ (H : Heap) (locs : List Loc) (ls : Array Slot), lv_has ls 16 [(0, .ref (ad x0)), (2, .int x2), (3, .long x3), (5, .int x5), (6, .int x6), (7, .int x7), (8, .int x8), (9, .int x9), (10, .int x10), (11, .long x11), (13, .int x13), (14, .int y14), (15, .int y15)] → aw_G D cA base ad σ d s H locs → W p l e rm_X11_primes s m args below meth c H locs 0 0 (aw_Ei D cA base ad σ below args s z) (F0 m 65 ls [])) (hk65 : ∀ (y14 : Int32) (d : Dt), k65 y14 d = some z → ∀ (H : Heap) (locs : List Loc) (ls : Array Slot), lv_has ls 16 [(0, .ref (ad x0)), (2, .int x2), (3, .long x3), (5, .int x5), (6, .int x6), (7, .int x7), (8, .int x8), (9, .int x9), (10, .int x10), (11, .long x11), (13, .int x13), (14, .int y14)] → aw_G D cA base ad σ d s H locs → W p l e rm_X11_primes s m args below meth c H locs 0 0 (aw_Ei D cA base ad σ below args s z) (F0 m 129 ls [])) {H : Heap} {locs : List Loc} {ls : Array Slot} (hl : lv_has ls 16 [(0, .ref (ad x0)), (2, .int x2), (3, .long x3), (5, .int x5), (6, .int x6), (7, .int x7), (8, .int x8), (9, .int x9), (10, .int x10), (11, .long x11), (13, .int x13), (14, .int x14), (15, .int x15)]) (G : aw_G D cA base ad σ d s H locs) : W p l e rm_X11_primes s m args below meth c H locs 0 0 (aw_Ei D cA base ad σ below args s z) (F0 m 65 ls []) := by
  have hx := X.1; have hb := X.2.1; have hml := X.2.2.1; have hown := X.2.2.2.1
  unfold f_X11_primes_B65 at hf
  refine lv_iload hx hb dX11_primes_65 (lv_at hl 12 rfl) ?_
  refine lv_aload_n hx hb dX11_primes_67 rfl (lv_at hl 0 rfl) ?_
  obtain ⟨hc_10, hf⟩ := aw_chk_some hf
  refine gf_X11_100 hx hb G hown hc_10 dX11_primes_68 ?_
  refine lv_icmp_ge (tgt := 129) hx hb dX11_primes_71 (by decide) (fun hc => ?_) (fun hc => ?_)
  · have hf := aw_ite_t hc hf
    exact hk65 _ _ hf _ _ _ (lv_sub hl [0, 1, 2, 3, 4, 5, 6, 7, 8, 9, 10, 11] rfl) G
  · have hf := aw_ite_f hc hf
    refine lv_iload hx hb dX11_primes_74 (lv_at hl 11 rfl) ?_
    refine lv_aload_n hx hb dX11_primes_76 rfl (lv_at hl 0 rfl) ?_
    obtain ⟨q_11, hq_12, hf⟩ := aw_bind_some hf
    refine gf_X11_87 hx hb G hown hc_10 hq_12 dX11_primes_77 ?_
    refine lv_iload hx hb dX11_primes_80 (lv_at hl 12 rfl) ?_
    obtain ⟨hc_13, hf⟩ := aw_chk_some hf
    refine aw_lal hx hb G hc_13 dX11_primes_82 ?_
    refine lv_lload hx hb dX11_primes_83 (lv_at hl 9 rfl) ?_
    refine lv_land hx hb dX11_primes_85 ?_
    refine lv_lconst (v := (0 : Int64)) hx hb dX11_primes_86 (by decide) ?_
    refine W.lcmp hx hb dX11_primes_87 ?_
    refine lv_if_eq (tgt := 119) hx hb dX11_primes_88 (by decide) (fun hc => ?_) (fun hc => ?_)
    · have hf := aw_ite_t hc hf
      exact w_X11_primes_J119 X hf hkb65 (lv_sub hl [0, 1, 2, 3, 4, 5, 6, 7, 8, 9, 10, 12] rfl) G
    · have hf := aw_ite_f hc hf
      refine lv_aload_n hx hb dX11_primes_91 rfl (lv_at hl 0 rfl) ?_
      refine gf_X11_87 hx hb G hown hc_10 hq_12 dX11_primes_92 ?_
      refine lv_iload hx hb dX11_primes_95 (lv_at hl 12 rfl) ?_
      refine aw_lal hx hb G hc_13 dX11_primes_97 ?_
      refine lv_lload_n hx hb dX11_primes_98 rfl (lv_at hl 2 rfl) ?_
      refine lv_ldc2 (v := (-1 : Int64)) hx hb hown (G.1.hts _ m_1289) dX11_primes_99 ?_
      refine lv_lxor hx hb dX11_primes_102 ?_
      refine lv_land hx hb dX11_primes_103 ?_
      refine lv_lconst (v := (0 : Int64)) hx hb dX11_primes_104 (by decide) ?_
      refine W.lcmp hx hb dX11_primes_105 ?_
      refine lv_if_eq (tgt := 119) hx hb dX11_primes_106 (by decide) (fun hc => ?_) (fun hc => ?_)
      · have hf := aw_ite_t hc hf
        exact w_X11_primes_J119 X hf hkb65 (lv_sub hl [0, 1, 2, 3, 4, 5, 6, 7, 8, 9, 10, 12] rfl) G
      · have hf := aw_ite_f hc hf
        refine lv_aload_n hx hb dX11_primes_109 rfl (lv_at hl 0 rfl) ?_
        obtain ⟨q_14, hq_15, hf⟩ := aw_bind_some hf
        refine gf_X11_19 hx hb G hown hc_10 hq_15 dX11_primes_110 ?_
        refine lv_iload hx hb dX11_primes_113 (lv_at hl 12 rfl) ?_
        obtain ⟨hc_16, hf⟩ := aw_chk_some hf
        refine aw_ial hx hb G hc_16 dX11_primes_115 ?_
        refine lv_goto (tgt := 120) hx hb dX11_primes_116 (by decide) ?_
        exact w_X11_primes_J120 X hf hkb65 (lv_sub hl [0, 1, 2, 3, 4, 5, 6, 7, 8, 9, 10, 12] rfl) G
theorem w_X11_primes_L65 {z : Int32 × Dt} (X : aw_X p c cX11_primes 16 s RX11 m meth (some .int)) {k65 : Int32 → Dt → Option (Int32 × Dt)} {x0 : Nat} {x2 : Int32} {x3 : Int64} {x5 : Int32} {x6 : Int32} {x7 : Int32} {x8 : Int32} {x9 : Int32} {x10 : Int32} {x11 : Int64} {x13 : Int32} (n : Nat) {x14 : Int32} {x15 : Int32} {d : Dt} (hf : f_X11_primes_L65 σ n k65 x0 x2 x3 x5 x6 x7 x8 x9 x10 x11 x13 x14 x15 d = some z) (hk65 : ∀ (y14 : Int32) (d : Dt), k65 y14 d = some z → ∀ (H : Heap) (locs : List Loc) (ls : Array Slot), lv_has ls 16 [(0, .ref (ad x0)), (2, .int x2), (3, .long x3), (5, .int x5), (6, .int x6), (7, .int x7), (8, .int x8), (9, .int x9), (10, .int x10), (11, .long x11), (13, .int x13), (14, .int y14)] → aw_G D cA base ad σ d s H locs → W p l e rm_X11_primes s m args below meth c H locs 0 0 (aw_Ei D cA base ad σ below args s z) (F0 m 129 ls [])) {H : Heap} {locs : List Loc} {ls : Array Slot} (hl : lv_has ls 16 [(0, .ref (ad x0)), (2, .int x2), (3, .long x3), (5, .int x5), (6, .int x6), (7, .int x7), (8, .int x8), (9, .int x9), (10, .int x10), (11, .long x11), (13, .int x13), (14, .int x14), (15, .int x15)]) (G : aw_G D cA base ad σ d s H locs) : W p l e rm_X11_primes s m args below meth c H locs 0 0 (aw_Ei D cA base ad σ below args s z) (F0 m 65 ls []) := by
  induction n generalizing x14 x15 d H locs ls with
  | zero => exact absurd (show (none : Option (Int32 × Dt)) = some z from hf) (by simp)
  | succ n ih => exact w_X11_primes_B65 X (kb65 := f_X11_primes_L65 σ n k65 x0 x2 x3 x5 x6 x7 x8 x9 x10 x11 x13) hf  (fun x14 x15 d hf H locs ls hl G => ih hf hl G) hk65 hl G
set_option maxHeartbeats 4000000 in
set_option maxRecDepth 100000 in
theorem w_X11_primes_J217 {z : Int32 × Dt} (X : aw_X p c cX11_primes 16 s RX11 m meth (some .int)) {kb32 : Int32 → Int32 → Int32 → Int32 → Dt → Option (Int32 × Dt)} {t0 : Int32} {x0 : Nat} {x2 : Int32} {x3 : Int64} {x5 : Int32} {x6 : Int32} {x7 : Int32} {x8 : Int32} {x10 : Int32} {d : Dt} (hf : f_X11_primes_J217 σ kb32 t0 x0 x2 x3 x5 x6 x7 x8 x10 d = some z) (hkb32 : ∀ (y7 : Int32) (y8 : Int32) (y9 : Int32) (y10 : Int32) (d : Dt), kb32 y7 y8 y9 y10 d = some z → ∀ (H : Heap) (locs : List Loc) (ls : Array Slot), lv_has ls 16 [(0, .ref (ad x0)), (2, .int x2), (3, .long x3), (5, .int x5), (6, .int x6), (7, .int y7), (8, .int y8), (9, .int y9), (10, .int y10)] → aw_G D cA base ad σ d s H locs → W p l e rm_X11_primes s m args below meth c H locs 0 0 (aw_Ei D cA base ad σ below args s z) (F0 m 32 ls [])) {H : Heap} {locs : List Loc} {ls : Array Slot} (hl : lv_has ls 16 [(0, .ref (ad x0)), (2, .int x2), (3, .long x3), (5, .int x5), (6, .int x6), (7, .int x7), (8, .int x8), (10, .int x10)]) (G : aw_G D cA base ad σ d s H locs) : W p l e rm_X11_primes s m args below meth c H locs 0 0 (aw_Ei D cA base ad σ below args s z) (F0 m 217 ls [.int t0]) := by
  have hx := X.1; have hb := X.2.1; have hml := X.2.2.1; have hown := X.2.2.2.1
  unfold f_X11_primes_J217 at hf
  refine lv_istore (lv' := [(9, .int t0), (0, .ref (ad x0)), (2, .int x2), (3, .long x3), (5, .int x5), (6, .int x6), (7, .int x7), (8, .int x8), (10, .int x10)]) hx hb dX11_primes_217 hl (by decide) rfl (fun ls hl => ?_)
  refine lv_iinc (v := x10 + 1) (lv' := [(10, .int (x10 + 1)), (9, .int t0), (0, .ref (ad x0)), (2, .int x2), (3, .long x3), (5, .int x5), (6, .int x6), (7, .int x7), (8, .int x8)]) hx hb dX11_primes_219 hl (k := 8) rfl rfl (by decide) rfl (fun ls hl => ?_)
  refine lv_goto (tgt := 32) hx hb dX11_primes_222 (by decide) ?_
  exact hkb32 _ _ _ _ _ hf _ _ _ (lv_sub hl [2, 3, 4, 5, 6, 7, 8, 1, 0] rfl) G
set_option maxHeartbeats 4000000 in
set_option maxRecDepth 100000 in
theorem w_X11_primes_J203 {z : Int32 × Dt} (X : aw_X p c cX11_primes 16 s RX11 m meth (some .int)) {kb32 : Int32 → Int32 → Int32 → Int32 → Dt → Option (Int32 × Dt)} {t0 : Int32} {x0 : Nat} {x2 : Int32} {x3 : Int64} {x5 : Int32} {x6 : Int32} {x7 : Int32} {x9 : Int32} {x10 : Int32} {x14 : Int32} {x15 : Int32} {d : Dt} (hf : f_X11_primes_J203 σ kb32 t0 x0 x2 x3 x5 x6 x7 x9 x10 x14 x15 d = some z) (hkb32 : ∀ (y7 : Int32) (y8 : Int32) (y9 : Int32) (y10 : Int32) (d : Dt), kb32 y7 y8 y9 y10 d = some z → ∀ (H : Heap) (locs : List Loc) (ls : Array Slot), lv_has ls 16 [(0, .ref (ad x0)), (2, .int x2), (3, .long x3), (5, .int x5), (6, .int x6), (7, .int y7), (8, .int y8), (9, .int y9), (10, .int y10)] → aw_G D cA base ad σ d s H locs → W p l e rm_X11_primes s m args below meth c H locs 0 0 (aw_Ei D cA base ad σ below args s z) (F0 m 32 ls [])) {H : Heap} {locs : List Loc} {ls : Array Slot} (hl : lv_has ls 16 [(0, .ref (ad x0)), (2, .int x2), (3, .long x3), (5, .int x5), (6, .int x6), (7, .int x7), (9, .int x9), (10, .int x10), (14, .int x14), (15, .int x15)]) (G : aw_G D cA base ad σ d s H locs) : W p l e rm_X11_primes s m args below meth c H locs 0 0 (aw_Ei D cA base ad σ below args s z) (F0 m 203 ls [.int t0]) := by
  have hx := X.1; have hb := X.2.1; have hml := X.2.2.1; have hown := X.2.2.2.1
  unfold f_X11_primes_J203 at hf
  refine lv_istore (lv' := [(8, .int t0), (0, .ref (ad x0)), (2, .int x2), (3, .long x3), (5, .int x5), (6, .int x6), (7, .int x7), (9, .int x9), (10, .int x10), (14, .int x14), (15, .int x15)]) hx hb dX11_primes_203 hl (by decide) rfl (fun ls hl => ?_)
  refine lv_iload hx hb dX11_primes_205 (lv_at hl 10 rfl) ?_
  refine lv_if_eq (tgt := 215) hx hb dX11_primes_207 (by decide) (fun hc => ?_) (fun hc => ?_)
  · have hf := aw_ite_t hc hf
    refine lv_iload hx hb dX11_primes_215 (lv_at hl 7 rfl) ?_
    exact w_X11_primes_J217 X hf hkb32 (lv_sub hl [1, 2, 3, 4, 5, 6, 0, 8] rfl) G
  · have hf := aw_ite_f hc hf
    refine lv_iload hx hb dX11_primes_210 (lv_at hl 9 rfl) ?_
    refine lv_goto (tgt := 217) hx hb dX11_primes_212 (by decide) ?_
    exact w_X11_primes_J217 X hf hkb32 (lv_sub hl [1, 2, 3, 4, 5, 6, 0, 8] rfl) G
set_option maxHeartbeats 4000000 in
set_option maxRecDepth 100000 in
theorem w_X11_primes_J189 {z : Int32 × Dt} (X : aw_X p c cX11_primes 16 s RX11 m meth (some .int)) {kb32 : Int32 → Int32 → Int32 → Int32 → Dt → Option (Int32 × Dt)} {t0 : Int32} {x0 : Nat} {x2 : Int32} {x3 : Int64} {x5 : Int32} {x6 : Int32} {x8 : Int32} {x9 : Int32} {x10 : Int32} {x13 : Int32} {x14 : Int32} {x15 : Int32} {d : Dt} (hf : f_X11_primes_J189 σ kb32 t0 x0 x2 x3 x5 x6 x8 x9 x10 x13 x14 x15 d = some z) (hkb32 : ∀ (y7 : Int32) (y8 : Int32) (y9 : Int32) (y10 : Int32) (d : Dt), kb32 y7 y8 y9 y10 d = some z → ∀ (H : Heap) (locs : List Loc) (ls : Array Slot), lv_has ls 16 [(0, .ref (ad x0)), (2, .int x2), (3, .long x3), (5, .int x5), (6, .int x6), (7, .int y7), (8, .int y8), (9, .int y9), (10, .int y10)] → aw_G D cA base ad σ d s H locs → W p l e rm_X11_primes s m args below meth c H locs 0 0 (aw_Ei D cA base ad σ below args s z) (F0 m 32 ls [])) {H : Heap} {locs : List Loc} {ls : Array Slot} (hl : lv_has ls 16 [(0, .ref (ad x0)), (2, .int x2), (3, .long x3), (5, .int x5), (6, .int x6), (8, .int x8), (9, .int x9), (10, .int x10), (13, .int x13), (14, .int x14), (15, .int x15)]) (G : aw_G D cA base ad σ d s H locs) : W p l e rm_X11_primes s m args below meth c H locs 0 0 (aw_Ei D cA base ad σ below args s z) (F0 m 189 ls [.int t0]) := by
  have hx := X.1; have hb := X.2.1; have hml := X.2.2.1; have hown := X.2.2.2.1
  unfold f_X11_primes_J189 at hf
  refine lv_istore (lv' := [(7, .int t0), (0, .ref (ad x0)), (2, .int x2), (3, .long x3), (5, .int x5), (6, .int x6), (8, .int x8), (9, .int x9), (10, .int x10), (13, .int x13), (14, .int x14), (15, .int x15)]) hx hb dX11_primes_189 hl (by decide) rfl (fun ls hl => ?_)
  refine lv_iload hx hb dX11_primes_191 (lv_at hl 11 rfl) ?_
  refine lv_if_eq (tgt := 201) hx hb dX11_primes_193 (by decide) (fun hc => ?_) (fun hc => ?_)
  · have hf := aw_ite_t hc hf
    refine lv_iload hx hb dX11_primes_201 (lv_at hl 6 rfl) ?_
    exact w_X11_primes_J203 X hf hkb32 (lv_sub hl [1, 2, 3, 4, 5, 0, 7, 8, 10, 11] rfl) G
  · have hf := aw_ite_f hc hf
    refine lv_iload hx hb dX11_primes_196 (lv_at hl 9 rfl) ?_
    refine lv_goto (tgt := 203) hx hb dX11_primes_198 (by decide) ?_
    exact w_X11_primes_J203 X hf hkb32 (lv_sub hl [1, 2, 3, 4, 5, 0, 7, 8, 10, 11] rfl) G
set_option maxHeartbeats 4000000 in
set_option maxRecDepth 100000 in
theorem w_X11_primes_J170 {z : Int32 × Dt} (X : aw_X p c cX11_primes 16 s RX11 m meth (some .int)) {kb32 : Int32 → Int32 → Int32 → Int32 → Dt → Option (Int32 × Dt)} {t0 : Int32} {x0 : Nat} {x2 : Int32} {x3 : Int64} {x5 : Int32} {x6 : Int32} {x7 : Int32} {x8 : Int32} {x9 : Int32} {x10 : Int32} {x13 : Int32} {x14 : Int32} {d : Dt} (hf : f_X11_primes_J170 σ kb32 t0 x0 x2 x3 x5 x6 x7 x8 x9 x10 x13 x14 d = some z) (hkb32 : ∀ (y7 : Int32) (y8 : Int32) (y9 : Int32) (y10 : Int32) (d : Dt), kb32 y7 y8 y9 y10 d = some z → ∀ (H : Heap) (locs : List Loc) (ls : Array Slot), lv_has ls 16 [(0, .ref (ad x0)), (2, .int x2), (3, .long x3), (5, .int x5), (6, .int x6), (7, .int y7), (8, .int y8), (9, .int y9), (10, .int y10)] → aw_G D cA base ad σ d s H locs → W p l e rm_X11_primes s m args below meth c H locs 0 0 (aw_Ei D cA base ad σ below args s z) (F0 m 32 ls [])) {H : Heap} {locs : List Loc} {ls : Array Slot} (hl : lv_has ls 16 [(0, .ref (ad x0)), (2, .int x2), (3, .long x3), (5, .int x5), (6, .int x6), (7, .int x7), (8, .int x8), (9, .int x9), (10, .int x10), (13, .int x13), (14, .int x14)]) (G : aw_G D cA base ad σ d s H locs) : W p l e rm_X11_primes s m args below meth c H locs 0 0 (aw_Ei D cA base ad σ below args s z) (F0 m 170 ls [.int t0]) := by
  have hx := X.1; have hb := X.2.1; have hml := X.2.2.1; have hown := X.2.2.2.1
  unfold f_X11_primes_J170 at hf
  refine lv_istore (lv' := [(15, .int t0), (0, .ref (ad x0)), (2, .int x2), (3, .long x3), (5, .int x5), (6, .int x6), (7, .int x7), (8, .int x8), (9, .int x9), (10, .int x10), (13, .int x13), (14, .int x14)]) hx hb dX11_primes_170 hl (by decide) rfl (fun ls hl => ?_)
  refine lv_iload hx hb dX11_primes_172 (lv_at hl 0 rfl) ?_
  refine lv_if_eq (tgt := 187) hx hb dX11_primes_174 (by decide) (fun hc => ?_) (fun hc => ?_)
  · have hf := aw_ite_t hc hf
    refine lv_iload hx hb dX11_primes_187 (lv_at hl 6 rfl) ?_
    exact w_X11_primes_J189 X hf hkb32 (lv_sub hl [1, 2, 3, 4, 5, 7, 8, 9, 10, 11, 0] rfl) G
  · have hf := aw_ite_f hc hf
    refine lv_aload_n hx hb dX11_primes_177 rfl (lv_at hl 1 rfl) ?_
    obtain ⟨hc_19, hf⟩ := aw_chk_some hf
    obtain ⟨q_20, hq_21, hf⟩ := aw_bind_some hf
    refine gf_X11_81 hx hb G hown hc_19 hq_21 dX11_primes_178 ?_
    refine lv_iload hx hb dX11_primes_181 (lv_at hl 9 rfl) ?_
    obtain ⟨hc_22, hf⟩ := aw_chk_some hf
    refine aw_ial hx hb G hc_22 dX11_primes_183 ?_
    refine lv_goto (tgt := 189) hx hb dX11_primes_184 (by decide) ?_
    exact w_X11_primes_J189 X hf hkb32 (lv_sub hl [1, 2, 3, 4, 5, 7, 8, 9, 10, 11, 0] rfl) G
set_option maxHeartbeats 4000000 in
set_option maxRecDepth 100000 in
theorem w_X11_primes_J169 {z : Int32 × Dt} (X : aw_X p c cX11_primes 16 s RX11 m meth (some .int)) {kb32 : Int32 → Int32 → Int32 → Int32 → Dt → Option (Int32 × Dt)} {x0 : Nat} {x2 : Int32} {x3 : Int64} {x5 : Int32} {x6 : Int32} {x7 : Int32} {x8 : Int32} {x9 : Int32} {x10 : Int32} {x13 : Int32} {x14 : Int32} {d : Dt} (hf : f_X11_primes_J169 σ kb32 x0 x2 x3 x5 x6 x7 x8 x9 x10 x13 x14 d = some z) (hkb32 : ∀ (y7 : Int32) (y8 : Int32) (y9 : Int32) (y10 : Int32) (d : Dt), kb32 y7 y8 y9 y10 d = some z → ∀ (H : Heap) (locs : List Loc) (ls : Array Slot), lv_has ls 16 [(0, .ref (ad x0)), (2, .int x2), (3, .long x3), (5, .int x5), (6, .int x6), (7, .int y7), (8, .int y8), (9, .int y9), (10, .int y10)] → aw_G D cA base ad σ d s H locs → W p l e rm_X11_primes s m args below meth c H locs 0 0 (aw_Ei D cA base ad σ below args s z) (F0 m 32 ls [])) {H : Heap} {locs : List Loc} {ls : Array Slot} (hl : lv_has ls 16 [(0, .ref (ad x0)), (2, .int x2), (3, .long x3), (5, .int x5), (6, .int x6), (7, .int x7), (8, .int x8), (9, .int x9), (10, .int x10), (13, .int x13), (14, .int x14)]) (G : aw_G D cA base ad σ d s H locs) : W p l e rm_X11_primes s m args below meth c H locs 0 0 (aw_Ei D cA base ad σ below args s z) (F0 m 169 ls []) := by
  have hx := X.1; have hb := X.2.1; have hml := X.2.2.1; have hown := X.2.2.2.1
  unfold f_X11_primes_J169 at hf
  refine lv_iconst (v := (0 : Int32)) hx hb dX11_primes_169 (by decide) ?_
  exact w_X11_primes_J170 X hf hkb32 (lv_sub hl [0, 1, 2, 3, 4, 5, 6, 7, 8, 9, 10] rfl) G
set_option maxHeartbeats 4000000 in
set_option maxRecDepth 100000 in
theorem w_X11_primes_J165 {z : Int32 × Dt} (X : aw_X p c cX11_primes 16 s RX11 m meth (some .int)) {kb32 : Int32 → Int32 → Int32 → Int32 → Dt → Option (Int32 × Dt)} {x0 : Nat} {x2 : Int32} {x3 : Int64} {x5 : Int32} {x6 : Int32} {x7 : Int32} {x8 : Int32} {x9 : Int32} {x10 : Int32} {x13 : Int32} {x14 : Int32} {d : Dt} (hf : f_X11_primes_J165 σ kb32 x0 x2 x3 x5 x6 x7 x8 x9 x10 x13 x14 d = some z) (hkb32 : ∀ (y7 : Int32) (y8 : Int32) (y9 : Int32) (y10 : Int32) (d : Dt), kb32 y7 y8 y9 y10 d = some z → ∀ (H : Heap) (locs : List Loc) (ls : Array Slot), lv_has ls 16 [(0, .ref (ad x0)), (2, .int x2), (3, .long x3), (5, .int x5), (6, .int x6), (7, .int y7), (8, .int y8), (9, .int y9), (10, .int y10)] → aw_G D cA base ad σ d s H locs → W p l e rm_X11_primes s m args below meth c H locs 0 0 (aw_Ei D cA base ad σ below args s z) (F0 m 32 ls [])) {H : Heap} {locs : List Loc} {ls : Array Slot} (hl : lv_has ls 16 [(0, .ref (ad x0)), (2, .int x2), (3, .long x3), (5, .int x5), (6, .int x6), (7, .int x7), (8, .int x8), (9, .int x9), (10, .int x10), (13, .int x13), (14, .int x14)]) (G : aw_G D cA base ad σ d s H locs) : W p l e rm_X11_primes s m args below meth c H locs 0 0 (aw_Ei D cA base ad σ below args s z) (F0 m 165 ls []) := by
  have hx := X.1; have hb := X.2.1; have hml := X.2.2.1; have hown := X.2.2.2.1
  unfold f_X11_primes_J165 at hf
  refine lv_iconst (v := (1 : Int32)) hx hb dX11_primes_165 (by decide) ?_
  refine lv_goto (tgt := 170) hx hb dX11_primes_166 (by decide) ?_
  exact w_X11_primes_J170 X hf hkb32 (lv_sub hl [0, 1, 2, 3, 4, 5, 6, 7, 8, 9, 10] rfl) G
set_option maxHeartbeats 4000000 in
set_option maxRecDepth 100000 in
theorem w_X11_primes_B32 {z : Int32 × Dt} (X : aw_X p c cX11_primes 16 s RX11 m meth (some .int)) {kb32 : Int32 → Int32 → Int32 → Int32 → Dt → Option (Int32 × Dt)} {k32 : Int32 → Int32 → Dt → Option (Int32 × Dt)} {x0 : Nat} {x2 : Int32} {x3 : Int64} {x5 : Int32} {x6 : Int32} {x7 : Int32} {x8 : Int32} {x9 : Int32} {x10 : Int32} {d : Dt} (hf : f_X11_primes_B32 σ kb32 k32 x0 x2 x3 x5 x6 x7 x8 x9 x10 d = some z) (hkb32 : ∀ (y7 : Int32) (y8 : Int32) (y9 : Int32) (y10 : Int32) (d : Dt), kb32 y7 y8 y9 y10 d = some z → ∀ (H : Heap) (locs : List Loc) (ls : Array Slot), lv_has ls 16 [(0, .ref (ad x0)), (2, .int x2), (3, .long x3), (5, .int x5), (6, .int x6), (7, .int y7), (8, .int y8), (9, .int y9), (10, .int y10)] → aw_G D cA base ad σ d s H locs → W p l e rm_X11_primes s m args below meth c H locs 0 0 (aw_Ei D cA base ad σ below args s z) (F0 m 32 ls [])) (hk32 : ∀ (y7 : Int32) (y8 : Int32) (d : Dt), k32 y7 y8 d = some z → ∀ (H : Heap) (locs : List Loc) (ls : Array Slot), lv_has ls 16 [(0, .ref (ad x0)), (2, .int x2), (3, .long x3), (5, .int x5), (6, .int x6), (7, .int y7), (8, .int y8)] → aw_G D cA base ad σ d s H locs → W p l e rm_X11_primes s m args below meth c H locs 0 0 (aw_Ei D cA base ad σ below args s z) (F0 m 225 ls [])) {H : Heap} {locs : List Loc} {ls : Array Slot} (hl : lv_has ls 16 [(0, .ref (ad x0)), (2, .int x2), (3, .long x3), (5, .int x5), (6, .int x6), (7, .int x7), (8, .int x8), (9, .int x9), (10, .int x10)]) (G : aw_G D cA base ad σ d s H locs) : W p l e rm_X11_primes s m args below meth c H locs 0 0 (aw_Ei D cA base ad σ below args s z) (F0 m 32 ls []) := by
  have hx := X.1; have hb := X.2.1; have hml := X.2.2.1; have hown := X.2.2.2.1
  unfold f_X11_primes_B32 at hf
  refine lv_iload hx hb dX11_primes_32 (lv_at hl 8 rfl) ?_
  refine lv_iload_n hx hb dX11_primes_34 rfl (lv_at hl 1 rfl) ?_
  refine lv_icmp_ge (tgt := 225) hx hb dX11_primes_35 (by decide) (fun hc => ?_) (fun hc => ?_)
  · have hf := aw_ite_t hc hf
    exact hk32 _ _ _ hf _ _ _ (lv_sub hl [0, 1, 2, 3, 4, 5, 6] rfl) G
  · have hf := aw_ite_f hc hf
    refine lv_lconst (v := (1 : Int64)) hx hb dX11_primes_38 (by decide) ?_
    refine lv_aload_n hx hb dX11_primes_39 rfl (lv_at hl 0 rfl) ?_
    obtain ⟨hc_4, hf⟩ := aw_chk_some hf
    obtain ⟨q_5, hq_6, hf⟩ := aw_bind_some hf
    refine gf_X11_81 hx hb G hown hc_4 hq_6 dX11_primes_40 ?_
    refine lv_iload hx hb dX11_primes_43 (lv_at hl 8 rfl) ?_
    obtain ⟨hc_7, hf⟩ := aw_chk_some hf
    refine aw_ial hx hb G hc_7 dX11_primes_45 ?_
    refine lv_lshl hx hb dX11_primes_46 rfl ?_
    refine lv_lstore (lv' := [(11, .long (((1 : Int64)) <<< ((d.1 q_5 x10.toNatClampNeg).toInt64 &&& 63))), (0, .ref (ad x0)), (2, .int x2), (3, .long x3), (5, .int x5), (6, .int x6), (7, .int x7), (8, .int x8), (9, .int x9), (10, .int x10)]) hx hb dX11_primes_47 hl (by decide) rfl (fun ls hl => ?_)
    refine lv_aload_n hx hb dX11_primes_49 rfl (lv_at hl 1 rfl) ?_
    refine lv_lload_n hx hb dX11_primes_50 rfl (lv_at hl 3 rfl) ?_
    refine lv_lload hx hb dX11_primes_51 (lv_at hl 0 rfl) ?_
    refine lv_lor hx hb dX11_primes_53 ?_
    obtain ⟨z_8, hz_9, hf⟩ := aw_bind_some hf
    refine aw_VI (As := [.long (x3 ||| (((1 : Int64)) <<< ((d.1 q_5 x10.toNatClampNeg).toInt64 &&& 63)))]) (rest := []) X G hl.1 cr_X11_197 (c_X11_read l hz_9) ⟨rfl, rfl⟩ rfl rfl rfl (by decide) hc_4 rfl ⟨Nat.le_of_ble_eq_true rfl, Nat.le_of_ble_eq_true rfl⟩ (Nat.le_of_ble_eq_true rfl) dX11_primes_54 ⟨Nat.zero_le _, Nat.zero_le _⟩ (fun H locs G => ?_)
    refine lv_istore (lv' := [(13, .int z_8.1), (11, .long (((1 : Int64)) <<< ((d.1 q_5 x10.toNatClampNeg).toInt64 &&& 63))), (0, .ref (ad x0)), (2, .int x2), (3, .long x3), (5, .int x5), (6, .int x6), (7, .int x7), (8, .int x8), (9, .int x9), (10, .int x10)]) hx hb dX11_primes_57 hl (by decide) rfl (fun ls hl => ?_)
    refine lv_iconst (v := (0 : Int32)) hx hb dX11_primes_59 (by decide) ?_
    refine lv_istore (lv' := [(14, .int ((0 : Int32))), (13, .int z_8.1), (11, .long (((1 : Int64)) <<< ((d.1 q_5 x10.toNatClampNeg).toInt64 &&& 63))), (0, .ref (ad x0)), (2, .int x2), (3, .long x3), (5, .int x5), (6, .int x6), (7, .int x7), (8, .int x8), (9, .int x9), (10, .int x10)]) hx hb dX11_primes_60 hl (by decide) rfl (fun ls hl => ?_)
    refine lv_iconst (v := (0 : Int32)) hx hb dX11_primes_62 (by decide) ?_
    refine lv_istore (lv' := [(15, .int ((0 : Int32))), (14, .int ((0 : Int32))), (13, .int z_8.1), (11, .long (((1 : Int64)) <<< ((d.1 q_5 x10.toNatClampNeg).toInt64 &&& 63))), (0, .ref (ad x0)), (2, .int x2), (3, .long x3), (5, .int x5), (6, .int x6), (7, .int x7), (8, .int x8), (9, .int x9), (10, .int x10)]) hx hb dX11_primes_63 hl (by decide) rfl (fun ls hl => ?_)
    refine w_X11_primes_L65 X aw_FU hf  (fun x14_17 d_18 hf H locs ls hl G => ?_) (lv_sub hl [4, 5, 6, 7, 8, 9, 10, 11, 12, 3, 2, 1, 0] rfl) G
    refine lv_lload_n hx hb dX11_primes_129 rfl (lv_at hl 2 rfl) ?_
    refine lv_lload hx hb dX11_primes_130 (lv_at hl 9 rfl) ?_
    refine lv_land hx hb dX11_primes_132 ?_
    refine lv_lconst (v := (0 : Int64)) hx hb dX11_primes_133 (by decide) ?_
    refine W.lcmp hx hb dX11_primes_134 ?_
    refine lv_if_ne (tgt := 169) hx hb dX11_primes_135 (by decide) (fun hc => ?_) (fun hc => ?_)
    · have hf := aw_ite_f hc hf
      exact w_X11_primes_J169 X hf hkb32 (lv_sub hl [0, 1, 2, 3, 4, 5, 6, 7, 8, 10, 11] rfl) G
    · have hf := aw_ite_t hc hf
      refine lv_iload hx hb dX11_primes_138 (lv_at hl 5 rfl) ?_
      refine lv_iconst (v := (-1 : Int32)) hx hb dX11_primes_140 (by decide) ?_
      refine lv_icmp_eq (tgt := 165) hx hb dX11_primes_141 (by decide) (fun hc => ?_) (fun hc => ?_)
      · have hf := aw_ite_t hc hf
        exact w_X11_primes_J165 X hf hkb32 (lv_sub hl [0, 1, 2, 3, 4, 5, 6, 7, 8, 10, 11] rfl) G
      · have hf := aw_ite_f hc hf
        refine lv_iload hx hb dX11_primes_144 (lv_at hl 10 rfl) ?_
        refine lv_iload hx hb dX11_primes_146 (lv_at hl 6 rfl) ?_
        refine lv_icmp_gt (tgt := 165) hx hb dX11_primes_148 (by decide) (fun hc => ?_) (fun hc => ?_)
        · have hf := aw_ite_t hc hf
          exact w_X11_primes_J165 X hf hkb32 (lv_sub hl [0, 1, 2, 3, 4, 5, 6, 7, 8, 10, 11] rfl) G
        · have hf := aw_ite_f hc hf
          refine lv_iload hx hb dX11_primes_151 (lv_at hl 10 rfl) ?_
          refine lv_iload hx hb dX11_primes_153 (lv_at hl 6 rfl) ?_
          refine lv_icmp_ne (tgt := 169) hx hb dX11_primes_155 (by decide) (fun hc => ?_) (fun hc => ?_)
          · have hf := aw_ite_f hc hf
            exact w_X11_primes_J169 X hf hkb32 (lv_sub hl [0, 1, 2, 3, 4, 5, 6, 7, 8, 10, 11] rfl) G
          · have hf := aw_ite_t hc hf
            refine lv_iload hx hb dX11_primes_158 (lv_at hl 11 rfl) ?_
            refine lv_iload hx hb dX11_primes_160 (lv_at hl 7 rfl) ?_
            refine lv_icmp_le (tgt := 169) hx hb dX11_primes_162 (by decide) (fun hc => ?_) (fun hc => ?_)
            · have hf := aw_ite_t hc hf
              exact w_X11_primes_J169 X hf hkb32 (lv_sub hl [0, 1, 2, 3, 4, 5, 6, 7, 8, 10, 11] rfl) G
            · have hf := aw_ite_f hc hf
              exact w_X11_primes_J165 X hf hkb32 (lv_sub hl [0, 1, 2, 3, 4, 5, 6, 7, 8, 10, 11] rfl) G
theorem w_X11_primes_L32 {z : Int32 × Dt} (X : aw_X p c cX11_primes 16 s RX11 m meth (some .int)) {k32 : Int32 → Int32 → Dt → Option (Int32 × Dt)} {x0 : Nat} {x2 : Int32} {x3 : Int64} {x5 : Int32} {x6 : Int32} (n : Nat) {x7 : Int32} {x8 : Int32} {x9 : Int32} {x10 : Int32} {d : Dt} (hf : f_X11_primes_L32 σ n k32 x0 x2 x3 x5 x6 x7 x8 x9 x10 d = some z) (hk32 : ∀ (y7 : Int32) (y8 : Int32) (d : Dt), k32 y7 y8 d = some z → ∀ (H : Heap) (locs : List Loc) (ls : Array Slot), lv_has ls 16 [(0, .ref (ad x0)), (2, .int x2), (3, .long x3), (5, .int x5), (6, .int x6), (7, .int y7), (8, .int y8)] → aw_G D cA base ad σ d s H locs → W p l e rm_X11_primes s m args below meth c H locs 0 0 (aw_Ei D cA base ad σ below args s z) (F0 m 225 ls [])) {H : Heap} {locs : List Loc} {ls : Array Slot} (hl : lv_has ls 16 [(0, .ref (ad x0)), (2, .int x2), (3, .long x3), (5, .int x5), (6, .int x6), (7, .int x7), (8, .int x8), (9, .int x9), (10, .int x10)]) (G : aw_G D cA base ad σ d s H locs) : W p l e rm_X11_primes s m args below meth c H locs 0 0 (aw_Ei D cA base ad σ below args s z) (F0 m 32 ls []) := by
  induction n generalizing x7 x8 x9 x10 d H locs ls with
  | zero => exact absurd (show (none : Option (Int32 × Dt)) = some z from hf) (by simp)
  | succ n ih => exact w_X11_primes_B32 X (kb32 := f_X11_primes_L32 σ n k32 x0 x2 x3 x5 x6) hf  (fun x7 x8 x9 x10 d hf H locs ls hl G => ih hf hl G) hk32 hl G
set_option maxHeartbeats 4000000 in
set_option maxRecDepth 100000 in
theorem w_X11_primes_B14 {z : Int32 × Dt} (X : aw_X p c cX11_primes 16 s RX11 m meth (some .int)) {kb14 : Int64 → Int32 → Int32 → Dt → Option (Int32 × Dt)} {k14 : Int32 → Dt → Option (Int32 × Dt)} {x0 : Nat} {x2 : Int32} {x3 : Int64} {x5 : Int32} {x6 : Int32} {d : Dt} (hf : f_X11_primes_B14 σ kb14 k14 x0 x2 x3 x5 x6 d = some z) (hkb14 : ∀ (y3 : Int64) (y5 : Int32) (y6 : Int32) (d : Dt), kb14 y3 y5 y6 d = some z → ∀ (H : Heap) (locs : List Loc) (ls : Array Slot), lv_has ls 16 [(0, .ref (ad x0)), (2, .int x2), (3, .long y3), (5, .int y5), (6, .int y6)] → aw_G D cA base ad σ d s H locs → W p l e rm_X11_primes s m args below meth c H locs 0 0 (aw_Ei D cA base ad σ below args s z) (F0 m 14 ls [])) (hk14 : ∀ (y5 : Int32) (d : Dt), k14 y5 d = some z → ∀ (H : Heap) (locs : List Loc) (ls : Array Slot), lv_has ls 16 [(5, .int y5)] → aw_G D cA base ad σ d s H locs → W p l e rm_X11_primes s m args below meth c H locs 0 0 (aw_Ei D cA base ad σ below args s z) (F0 m 265 ls [])) {H : Heap} {locs : List Loc} {ls : Array Slot} (hl : lv_has ls 16 [(0, .ref (ad x0)), (2, .int x2), (3, .long x3), (5, .int x5), (6, .int x6)]) (G : aw_G D cA base ad σ d s H locs) : W p l e rm_X11_primes s m args below meth c H locs 0 0 (aw_Ei D cA base ad σ below args s z) (F0 m 14 ls []) := by
  have hx := X.1; have hb := X.2.1; have hml := X.2.2.1; have hown := X.2.2.2.1
  unfold f_X11_primes_B14 at hf
  refine lv_iload hx hb dX11_primes_14 (lv_at hl 4 rfl) ?_
  refine lv_iload_n hx hb dX11_primes_16 rfl (lv_at hl 1 rfl) ?_
  refine lv_icmp_ge (tgt := 265) hx hb dX11_primes_17 (by decide) (fun hc => ?_) (fun hc => ?_)
  · have hf := aw_ite_t hc hf
    exact hk14 _ _ hf _ _ _ (lv_sub hl [3] rfl) G
  · have hf := aw_ite_f hc hf
    refine lv_iconst (v := (-1 : Int32)) hx hb dX11_primes_20 (by decide) ?_
    refine lv_istore (lv' := [(7, .int ((-1 : Int32))), (0, .ref (ad x0)), (2, .int x2), (3, .long x3), (5, .int x5), (6, .int x6)]) hx hb dX11_primes_21 hl (by decide) rfl (fun ls hl => ?_)
    refine lv_iconst (v := (0 : Int32)) hx hb dX11_primes_23 (by decide) ?_
    refine lv_istore (lv' := [(8, .int ((0 : Int32))), (7, .int ((-1 : Int32))), (0, .ref (ad x0)), (2, .int x2), (3, .long x3), (5, .int x5), (6, .int x6)]) hx hb dX11_primes_24 hl (by decide) rfl (fun ls hl => ?_)
    refine lv_iconst (v := (0 : Int32)) hx hb dX11_primes_26 (by decide) ?_
    refine lv_istore (lv' := [(9, .int ((0 : Int32))), (8, .int ((0 : Int32))), (7, .int ((-1 : Int32))), (0, .ref (ad x0)), (2, .int x2), (3, .long x3), (5, .int x5), (6, .int x6)]) hx hb dX11_primes_27 hl (by decide) rfl (fun ls hl => ?_)
    refine lv_iconst (v := (0 : Int32)) hx hb dX11_primes_29 (by decide) ?_
    refine lv_istore (lv' := [(10, .int ((0 : Int32))), (9, .int ((0 : Int32))), (8, .int ((0 : Int32))), (7, .int ((-1 : Int32))), (0, .ref (ad x0)), (2, .int x2), (3, .long x3), (5, .int x5), (6, .int x6)]) hx hb dX11_primes_30 hl (by decide) rfl (fun ls hl => ?_)
    refine w_X11_primes_L32 X aw_FU hf  (fun x7_23 x8_24 d_25 hf H locs ls hl G => ?_) (lv_sub hl [4, 5, 6, 7, 8, 3, 2, 1, 0] rfl) G
    refine lv_iload hx hb dX11_primes_225 (lv_at hl 3 rfl) ?_
    refine lv_iload hx hb dX11_primes_227 (lv_at hl 4 rfl) ?_
    refine lv_iconst (v := (1 : Int32)) hx hb dX11_primes_229 (by decide) ?_
    refine lv_iadd hx hb dX11_primes_230 ?_
    refine lv_iload hx hb dX11_primes_231 (lv_at hl 6 rfl) ?_
    refine lv_aload_n hx hb dX11_primes_233 rfl (lv_at hl 0 rfl) ?_
    refine lv_lload_n hx hb dX11_primes_234 rfl (lv_at hl 2 rfl) ?_
    obtain ⟨hc_28, hf⟩ := aw_chk_some hf
    obtain ⟨z_26, hz_27, hf⟩ := aw_bind_some hf
    refine aw_VI (As := [.long x3]) (rest := [.int x8_24, .int (x6 + ((1 : Int32))), .int x5]) X G hl.1 cr_X11_197 (c_X11_read l hz_27) ⟨rfl, rfl⟩ rfl rfl rfl (by decide) hc_28 rfl ⟨Nat.le_of_ble_eq_true rfl, Nat.le_of_ble_eq_true rfl⟩ (Nat.le_of_ble_eq_true rfl) dX11_primes_235 ⟨Nat.zero_le _, Nat.zero_le _⟩ (fun H locs G => ?_)
    refine lv_isub hx hb dX11_primes_238 ?_
    refine lv_imul hx hb dX11_primes_239 ?_
    refine lv_iadd hx hb dX11_primes_240 ?_
    refine lv_istore (lv' := [(5, .int (x5 + ((x6 + ((1 : Int32))) * (x8_24 - z_26.1)))), (0, .ref (ad x0)), (2, .int x2), (3, .long x3), (6, .int x6), (7, .int x7_23), (8, .int x8_24)]) hx hb dX11_primes_241 hl (by decide) rfl (fun ls hl => ?_)
    refine lv_lload_n hx hb dX11_primes_243 rfl (lv_at hl 3 rfl) ?_
    refine lv_lconst (v := (1 : Int64)) hx hb dX11_primes_244 (by decide) ?_
    refine lv_iload hx hb dX11_primes_245 (lv_at hl 5 rfl) ?_
    refine lv_lshl hx hb dX11_primes_247 rfl ?_
    refine lv_lor hx hb dX11_primes_248 ?_
    refine lv_lstore_n (lv' := [(3, .long (x3 ||| (((1 : Int64)) <<< (x7_23.toInt64 &&& 63)))), (5, .int (x5 + ((x6 + ((1 : Int32))) * (x8_24 - z_26.1)))), (0, .ref (ad x0)), (2, .int x2), (6, .int x6), (7, .int x7_23), (8, .int x8_24)]) hx hb dX11_primes_249 rfl hl (by decide) rfl (fun ls hl => ?_)
    refine lv_aload_n hx hb dX11_primes_250 rfl (lv_at hl 2 rfl) ?_
    obtain ⟨q_29, hq_30, hf⟩ := aw_bind_some hf
    refine gf_X11_84 hx hb G hown hc_28 hq_30 dX11_primes_251 ?_
    refine lv_iload hx hb dX11_primes_254 (lv_at hl 4 rfl) ?_
    refine lv_iload hx hb dX11_primes_256 (lv_at hl 5 rfl) ?_
    obtain ⟨hc_31, hf⟩ := aw_chk_some hf
    refine aw_ias hx hb G hc_31 dX11_primes_258 (fun H locs G => ?_)
    refine lv_iinc (v := x6 + 1) (lv' := [(6, .int (x6 + 1)), (3, .long (x3 ||| (((1 : Int64)) <<< (x7_23.toInt64 &&& 63)))), (5, .int (x5 + ((x6 + ((1 : Int32))) * (x8_24 - z_26.1)))), (0, .ref (ad x0)), (2, .int x2), (7, .int x7_23), (8, .int x8_24)]) hx hb dX11_primes_259 hl (k := 4) rfl rfl (by decide) rfl (fun ls hl => ?_)
    refine lv_goto (tgt := 14) hx hb dX11_primes_262 (by decide) ?_
    exact hkb14 _ _ _ _ hf _ _ _ (lv_sub hl [3, 4, 1, 2, 0] rfl) G
theorem w_X11_primes_L14 {z : Int32 × Dt} (X : aw_X p c cX11_primes 16 s RX11 m meth (some .int)) {k14 : Int32 → Dt → Option (Int32 × Dt)} {x0 : Nat} {x2 : Int32} (n : Nat) {x3 : Int64} {x5 : Int32} {x6 : Int32} {d : Dt} (hf : f_X11_primes_L14 σ n k14 x0 x2 x3 x5 x6 d = some z) (hk14 : ∀ (y5 : Int32) (d : Dt), k14 y5 d = some z → ∀ (H : Heap) (locs : List Loc) (ls : Array Slot), lv_has ls 16 [(5, .int y5)] → aw_G D cA base ad σ d s H locs → W p l e rm_X11_primes s m args below meth c H locs 0 0 (aw_Ei D cA base ad σ below args s z) (F0 m 265 ls [])) {H : Heap} {locs : List Loc} {ls : Array Slot} (hl : lv_has ls 16 [(0, .ref (ad x0)), (2, .int x2), (3, .long x3), (5, .int x5), (6, .int x6)]) (G : aw_G D cA base ad σ d s H locs) : W p l e rm_X11_primes s m args below meth c H locs 0 0 (aw_Ei D cA base ad σ below args s z) (F0 m 14 ls []) := by
  induction n generalizing x3 x5 x6 d H locs ls with
  | zero => exact absurd (show (none : Option (Int32 × Dt)) = some z from hf) (by simp)
  | succ n ih => exact w_X11_primes_B14 X (kb14 := f_X11_primes_L14 σ n k14 x0 x2) hf  (fun x3 x5 x6 d hf H locs ls hl G => ih hf hl G) hk14 hl G
end W_X11_primes
set_option maxHeartbeats 4000000 in
set_option maxRecDepth 100000 in
theorem c_X11_primes (l : Launch) {σ : Sg} {x0 : Nat} {x1 : Int32} {d : Dt} {z : Int32 × Dt} (hf : f_X11_primes σ x0 x1 d = some z) : aw_Mi l yX11_primes (Cond.code yX11_primes cX11_primes 16 (some .int)) rm_X11_primes (fun ad => [.ref (ad x0), .int x1]) σ d z := by
  intro D cA base ad
  refine aw_ofW (own := RX11) (cc := cX11_primes) (nL := 16) (ret := some .int) (by decide) rfl rfl ?_
  intro p e s m below meth c X hnm G
  have hx := X.1; have hb := X.2.1; have hml := X.2.2.1; have hown := X.2.2.2.1
  refine aw_ls (lv := [(0, .ref (ad x0)), (1, .int x1)]) (Nat.le_of_ble_eq_true rfl) rfl (fun ls hl => ?_)
  unfold f_X11_primes at hf
  refine lv_aload_n hx hb dX11_primes_0 rfl (lv_at hl 0 rfl) ?_
  refine lv_iload_n hx hb dX11_primes_1 rfl (lv_at hl 1 rfl) ?_
  obtain ⟨hc_3, hf⟩ := aw_chk_some hf
  obtain ⟨z_1, hz_2, hf⟩ := aw_bind_some hf
  refine aw_VI (As := [.int x1]) (rest := []) X G hl.1 cr_X11_194 (c_X11_uses l hz_2) ⟨rfl, rfl⟩ rfl rfl rfl (by decide) hc_3 rfl ⟨Nat.le_of_ble_eq_true rfl, Nat.le_of_ble_eq_true rfl⟩ (Nat.le_of_ble_eq_true rfl) dX11_primes_2 ⟨Nat.zero_le _, Nat.zero_le _⟩ (fun H locs G => ?_)
  refine lv_istore_n (lv' := [(2, .int z_1.1), (0, .ref (ad x0)), (1, .int x1)]) hx hb dX11_primes_5 rfl hl (by decide) rfl (fun ls hl => ?_)
  refine lv_lconst (v := (0 : Int64)) hx hb dX11_primes_6 (by decide) ?_
  refine lv_lstore_n (lv' := [(3, .long ((0 : Int64))), (2, .int z_1.1), (0, .ref (ad x0)), (1, .int x1)]) hx hb dX11_primes_7 rfl hl (by decide) rfl (fun ls hl => ?_)
  refine lv_iconst (v := (0 : Int32)) hx hb dX11_primes_8 (by decide) ?_
  refine lv_istore (lv' := [(5, .int ((0 : Int32))), (3, .long ((0 : Int64))), (2, .int z_1.1), (0, .ref (ad x0)), (1, .int x1)]) hx hb dX11_primes_9 hl (by decide) rfl (fun ls hl => ?_)
  refine lv_iconst (v := (0 : Int32)) hx hb dX11_primes_11 (by decide) ?_
  refine lv_istore (lv' := [(6, .int ((0 : Int32))), (5, .int ((0 : Int32))), (3, .long ((0 : Int64))), (2, .int z_1.1), (0, .ref (ad x0)), (1, .int x1)]) hx hb dX11_primes_12 hl (by decide) rfl (fun ls hl => ?_)
  refine w_X11_primes_L14 X aw_FU hf  (fun x5_32 d_33 hf H locs ls hl G => ?_) (lv_sub hl [4, 3, 2, 1, 0] rfl) G
  refine lv_iload hx hb dX11_primes_265 (lv_at hl 0 rfl) ?_
  exact aw_reti X G hf dX11_primes_267
def rm_X11_primer : Room := { frames := 6, cells := 0, slots := 0, locals := 160 }
def f_X11_primer_J51 (σ : Sg) (t0 : Int32) (d : Dt) : Option (Int32 × Dt) :=
  some (t0, d)
def f_X11_primer_J18 (σ : Sg) (t1 : Int32) (t0 : Nat) (x0 : Nat) (x1 : Int32) (x2 : Int32) (d : Dt) : Option (Int32 × Dt) :=
  aw_chk (aw_O σ 11 32 t0) ((f_X11_fails σ t0 t1 d).bind (fun z_4 => if z_4.1 = 0 then aw_chk (aw_O σ 11 32 x0) ((f_X11_primes σ x0 x1 z_4.2).bind (fun z_7 => (f_X11_uses σ x0 x1 z_7.2).bind (fun z_10 => if z_10.1 ≤ x2 then f_X11_primer_J51 σ ((-1 : Int32)) z_10.2 else (σ.2.2 x0 27).bind (fun q_12 => aw_chk (aw_I σ 20 q_12 x2) (f_X11_primer_J51 σ (z_10.2.1 q_12 x2.toNatClampNeg) z_10.2))))) else some ((0 : Int32), z_4.2)))
def f_X11_primer_J17 (σ : Sg) (t0 : Nat) (x0 : Nat) (x1 : Int32) (x2 : Int32) (d : Dt) : Option (Int32 × Dt) :=
  f_X11_primer_J18 σ ((1 : Int32)) t0 x0 x1 x2 d
def f_X11_primer (σ : Sg) (x0 : Nat) (x1 : Int32) (x2 : Int32) (d : Dt) : Option (Int32 × Dt) :=
  aw_chk (aw_O σ 11 32 x0) ((f_X11_isDesign σ x0 x1 d).bind (fun z_1 => if z_1.1 = 0 then f_X11_primer_J17 σ x0 x0 x1 x2 z_1.2 else if x2 < 0 then f_X11_primer_J17 σ x0 x0 x1 x2 z_1.2 else f_X11_primer_J18 σ ((0 : Int32)) x0 x0 x1 x2 z_1.2))
section W_X11_primer
variable {p : Program} {l : Launch} {e : Env} {s : State} {m : MethodId} {args : Array Value} {below : List Frame} {meth : Method} {c : Code}
variable {D : va_G} {cA : Nat → ClassId} {base : Nat} {ad : Nat → Nat} {σ : Sg}
set_option maxHeartbeats 4000000 in
set_option maxRecDepth 100000 in
theorem w_X11_primer_J51 {z : Int32 × Dt} (X : aw_X p c cX11_primer 4 s RX11 m meth (some .int)) {t0 : Int32} {d : Dt} (hf : f_X11_primer_J51 σ t0 d = some z)  {H : Heap} {locs : List Loc} {ls : Array Slot} (hl : lv_has ls 4 []) (G : aw_G D cA base ad σ d s H locs) : W p l e rm_X11_primer s m args below meth c H locs 0 0 (aw_Ei D cA base ad σ below args s z) (F0 m 51 ls [.int t0]) := by
  have hx := X.1; have hb := X.2.1; have hml := X.2.2.1; have hown := X.2.2.2.1
  unfold f_X11_primer_J51 at hf
  exact aw_reti X G hf dX11_primer_51
set_option maxHeartbeats 4000000 in
set_option maxRecDepth 100000 in
theorem w_X11_primer_J18 {z : Int32 × Dt} (X : aw_X p c cX11_primer 4 s RX11 m meth (some .int)) {t1 : Int32} {t0 : Nat} {x0 : Nat} {x1 : Int32} {x2 : Int32} {d : Dt} (hf : f_X11_primer_J18 σ t1 t0 x0 x1 x2 d = some z)  {H : Heap} {locs : List Loc} {ls : Array Slot} (hl : lv_has ls 4 [(0, .ref (ad x0)), (1, .int x1), (2, .int x2)]) (G : aw_G D cA base ad σ d s H locs) : W p l e rm_X11_primer s m args below meth c H locs 0 0 (aw_Ei D cA base ad σ below args s z) (F0 m 18 ls [.int t1, .ref (ad t0)]) := by
  have hx := X.1; have hb := X.2.1; have hml := X.2.2.1; have hown := X.2.2.2.1
  unfold f_X11_primer_J18 at hf
  obtain ⟨hc_6, hf⟩ := aw_chk_some hf
  obtain ⟨z_4, hz_5, hf⟩ := aw_bind_some hf
  refine aw_VI (As := [.int t1]) (rest := []) X G hl.1 cr_X11_113 (c_X11_fails l hz_5) ⟨rfl, rfl⟩ rfl rfl rfl (by decide) hc_6 rfl ⟨Nat.le_of_ble_eq_true rfl, Nat.le_of_ble_eq_true rfl⟩ (Nat.le_of_ble_eq_true rfl) dX11_primer_18 ⟨Nat.zero_le _, Nat.zero_le _⟩ (fun H locs G => ?_)
  refine lv_if_eq (tgt := 26) hx hb dX11_primer_21 (by decide) (fun hc => ?_) (fun hc => ?_)
  · have hf := aw_ite_t hc hf
    refine lv_aload_n hx hb dX11_primer_26 rfl (lv_at hl 0 rfl) ?_
    refine lv_iload_n hx hb dX11_primer_27 rfl (lv_at hl 1 rfl) ?_
    obtain ⟨hc_9, hf⟩ := aw_chk_some hf
    obtain ⟨z_7, hz_8, hf⟩ := aw_bind_some hf
    refine aw_VI (As := [.int x1]) (rest := []) X G hl.1 cr_X11_201 (c_X11_primes l hz_8) ⟨rfl, rfl⟩ rfl rfl rfl (by decide) hc_9 rfl ⟨Nat.le_of_ble_eq_true rfl, Nat.le_of_ble_eq_true rfl⟩ (Nat.le_of_ble_eq_true rfl) dX11_primer_28 ⟨Nat.zero_le _, Nat.zero_le _⟩ (fun H locs G => ?_)
    refine lv_istore_n (lv' := [(3, .int z_7.1), (0, .ref (ad x0)), (1, .int x1), (2, .int x2)]) hx hb dX11_primer_31 rfl hl (by decide) rfl (fun ls hl => ?_)
    refine lv_iload_n hx hb dX11_primer_32 rfl (lv_at hl 3 rfl) ?_
    refine lv_aload_n hx hb dX11_primer_33 rfl (lv_at hl 1 rfl) ?_
    refine lv_iload_n hx hb dX11_primer_34 rfl (lv_at hl 2 rfl) ?_
    obtain ⟨z_10, hz_11, hf⟩ := aw_bind_some hf
    refine aw_VI (As := [.int x1]) (rest := [.int x2]) X G hl.1 cr_X11_194 (c_X11_uses l hz_11) ⟨rfl, rfl⟩ rfl rfl rfl (by decide) hc_9 rfl ⟨Nat.le_of_ble_eq_true rfl, Nat.le_of_ble_eq_true rfl⟩ (Nat.le_of_ble_eq_true rfl) dX11_primer_35 ⟨Nat.zero_le _, Nat.zero_le _⟩ (fun H locs G => ?_)
    refine lv_icmp_ge (tgt := 50) hx hb dX11_primer_38 (by decide) (fun hc => ?_) (fun hc => ?_)
    · have hf := aw_ite_t hc hf
      refine lv_iconst (v := (-1 : Int32)) hx hb dX11_primer_50 (by decide) ?_
      exact w_X11_primer_J51 X hf  (lv_sub hl [] rfl) G
    · have hf := aw_ite_f hc hf
      refine lv_aload_n hx hb dX11_primer_41 rfl (lv_at hl 1 rfl) ?_
      obtain ⟨q_12, hq_13, hf⟩ := aw_bind_some hf
      refine gf_X11_84 hx hb G hown hc_9 hq_13 dX11_primer_42 ?_
      refine lv_iload_n hx hb dX11_primer_45 rfl (lv_at hl 3 rfl) ?_
      obtain ⟨hc_14, hf⟩ := aw_chk_some hf
      refine aw_ial hx hb G hc_14 dX11_primer_46 ?_
      refine lv_goto (tgt := 51) hx hb dX11_primer_47 (by decide) ?_
      exact w_X11_primer_J51 X hf  (lv_sub hl [] rfl) G
  · have hf := aw_ite_f hc hf
    refine lv_iconst (v := (0 : Int32)) hx hb dX11_primer_24 (by decide) ?_
    exact aw_reti X G hf dX11_primer_25
set_option maxHeartbeats 4000000 in
set_option maxRecDepth 100000 in
theorem w_X11_primer_J17 {z : Int32 × Dt} (X : aw_X p c cX11_primer 4 s RX11 m meth (some .int)) {t0 : Nat} {x0 : Nat} {x1 : Int32} {x2 : Int32} {d : Dt} (hf : f_X11_primer_J17 σ t0 x0 x1 x2 d = some z)  {H : Heap} {locs : List Loc} {ls : Array Slot} (hl : lv_has ls 4 [(0, .ref (ad x0)), (1, .int x1), (2, .int x2)]) (G : aw_G D cA base ad σ d s H locs) : W p l e rm_X11_primer s m args below meth c H locs 0 0 (aw_Ei D cA base ad σ below args s z) (F0 m 17 ls [.ref (ad t0)]) := by
  have hx := X.1; have hb := X.2.1; have hml := X.2.2.1; have hown := X.2.2.2.1
  unfold f_X11_primer_J17 at hf
  refine lv_iconst (v := (1 : Int32)) hx hb dX11_primer_17 (by decide) ?_
  exact w_X11_primer_J18 X hf  (lv_sub hl [0, 1, 2] rfl) G
end W_X11_primer
set_option maxHeartbeats 4000000 in
set_option maxRecDepth 100000 in
theorem c_X11_primer (l : Launch) {σ : Sg} {x0 : Nat} {x1 : Int32} {x2 : Int32} {d : Dt} {z : Int32 × Dt} (hf : f_X11_primer σ x0 x1 x2 d = some z) : aw_Mi l yX11_primer (Cond.code yX11_primer cX11_primer 4 (some .int)) rm_X11_primer (fun ad => [.ref (ad x0), .int x1, .int x2]) σ d z := by
  intro D cA base ad
  refine aw_ofW (own := RX11) (cc := cX11_primer) (nL := 4) (ret := some .int) (by decide) rfl rfl ?_
  intro p e s m below meth c X hnm G
  have hx := X.1; have hb := X.2.1; have hml := X.2.2.1; have hown := X.2.2.2.1
  refine aw_ls (lv := [(0, .ref (ad x0)), (1, .int x1), (2, .int x2)]) (Nat.le_of_ble_eq_true rfl) rfl (fun ls hl => ?_)
  unfold f_X11_primer at hf
  refine lv_aload_n hx hb dX11_primer_0 rfl (lv_at hl 0 rfl) ?_
  refine lv_aload_n hx hb dX11_primer_1 rfl (lv_at hl 0 rfl) ?_
  refine lv_iload_n hx hb dX11_primer_2 rfl (lv_at hl 1 rfl) ?_
  obtain ⟨hc_3, hf⟩ := aw_chk_some hf
  obtain ⟨z_1, hz_2, hf⟩ := aw_bind_some hf
  refine aw_VI (As := [.int x1]) (rest := [.ref (ad x0)]) X G hl.1 cr_X11_146 (c_X11_isDesign l hz_2) ⟨rfl, rfl⟩ rfl rfl rfl (by decide) hc_3 rfl ⟨Nat.le_of_ble_eq_true rfl, Nat.le_of_ble_eq_true rfl⟩ (Nat.le_of_ble_eq_true rfl) dX11_primer_3 ⟨Nat.zero_le _, Nat.zero_le _⟩ (fun H locs G => ?_)
  refine lv_if_eq (tgt := 17) hx hb dX11_primer_6 (by decide) (fun hc => ?_) (fun hc => ?_)
  · have hf := aw_ite_t hc hf
    exact w_X11_primer_J17 X hf  (lv_sub hl [0, 1, 2] rfl) G
  · have hf := aw_ite_f hc hf
    refine lv_iload_n hx hb dX11_primer_9 rfl (lv_at hl 2 rfl) ?_
    refine lv_if_lt (tgt := 17) hx hb dX11_primer_10 (by decide) (fun hc => ?_) (fun hc => ?_)
    · have hf := aw_ite_t hc hf
      exact w_X11_primer_J17 X hf  (lv_sub hl [0, 1, 2] rfl) G
    · have hf := aw_ite_f hc hf
      refine lv_iconst (v := (0 : Int32)) hx hb dX11_primer_13 (by decide) ?_
      refine lv_goto (tgt := 18) hx hb dX11_primer_14 (by decide) ?_
      exact w_X11_primer_J18 X hf  (lv_sub hl [0, 1, 2] rfl) G
def rm_X11_cost : Room := { frames := 6, cells := 0, slots := 0, locals := 160 }
def f_X11_cost_J29 (σ : Sg) (t0 : Int32) (d : Dt) : Option (Int32 × Dt) :=
  some (t0, d)
def f_X11_cost_J14 (σ : Sg) (t1 : Int32) (t0 : Nat) (x0 : Nat) (x1 : Int32) (d : Dt) : Option (Int32 × Dt) :=
  aw_chk (aw_O σ 11 32 t0) ((f_X11_fails σ t0 t1 d).bind (fun z_4 => if z_4.1 = 0 then aw_chk (aw_O σ 11 32 x0) ((f_X11_primes σ x0 x1 z_4.2).bind (fun z_7 => f_X11_cost_J29 σ z_7.1 z_7.2)) else f_X11_cost_J29 σ ((0 : Int32)) z_4.2))
def f_X11_cost (σ : Sg) (x0 : Nat) (x1 : Int32) (d : Dt) : Option (Int32 × Dt) :=
  aw_chk (aw_O σ 11 32 x0) ((f_X11_isDesign σ x0 x1 d).bind (fun z_1 => if z_1.1 = 0 then f_X11_cost_J14 σ ((1 : Int32)) x0 x0 x1 z_1.2 else f_X11_cost_J14 σ ((0 : Int32)) x0 x0 x1 z_1.2))
section W_X11_cost
variable {p : Program} {l : Launch} {e : Env} {s : State} {m : MethodId} {args : Array Value} {below : List Frame} {meth : Method} {c : Code}
variable {D : va_G} {cA : Nat → ClassId} {base : Nat} {ad : Nat → Nat} {σ : Sg}
set_option maxHeartbeats 4000000 in
set_option maxRecDepth 100000 in
theorem w_X11_cost_J29 {z : Int32 × Dt} (X : aw_X p c cX11_cost 2 s RX11 m meth (some .int)) {t0 : Int32} {d : Dt} (hf : f_X11_cost_J29 σ t0 d = some z)  {H : Heap} {locs : List Loc} {ls : Array Slot} (hl : lv_has ls 2 []) (G : aw_G D cA base ad σ d s H locs) : W p l e rm_X11_cost s m args below meth c H locs 0 0 (aw_Ei D cA base ad σ below args s z) (F0 m 29 ls [.int t0]) := by
  have hx := X.1; have hb := X.2.1; have hml := X.2.2.1; have hown := X.2.2.2.1
  unfold f_X11_cost_J29 at hf
  exact aw_reti X G hf dX11_cost_29
set_option maxHeartbeats 4000000 in
set_option maxRecDepth 100000 in
theorem w_X11_cost_J14 {z : Int32 × Dt} (X : aw_X p c cX11_cost 2 s RX11 m meth (some .int)) {t1 : Int32} {t0 : Nat} {x0 : Nat} {x1 : Int32} {d : Dt} (hf : f_X11_cost_J14 σ t1 t0 x0 x1 d = some z)  {H : Heap} {locs : List Loc} {ls : Array Slot} (hl : lv_has ls 2 [(0, .ref (ad x0)), (1, .int x1)]) (G : aw_G D cA base ad σ d s H locs) : W p l e rm_X11_cost s m args below meth c H locs 0 0 (aw_Ei D cA base ad σ below args s z) (F0 m 14 ls [.int t1, .ref (ad t0)]) := by
  have hx := X.1; have hb := X.2.1; have hml := X.2.2.1; have hown := X.2.2.2.1
  unfold f_X11_cost_J14 at hf
  obtain ⟨hc_6, hf⟩ := aw_chk_some hf
  obtain ⟨z_4, hz_5, hf⟩ := aw_bind_some hf
  refine aw_VI (As := [.int t1]) (rest := []) X G hl.1 cr_X11_113 (c_X11_fails l hz_5) ⟨rfl, rfl⟩ rfl rfl rfl (by decide) hc_6 rfl ⟨Nat.le_of_ble_eq_true rfl, Nat.le_of_ble_eq_true rfl⟩ (Nat.le_of_ble_eq_true rfl) dX11_cost_14 ⟨Nat.zero_le _, Nat.zero_le _⟩ (fun H locs G => ?_)
  refine lv_if_eq (tgt := 24) hx hb dX11_cost_17 (by decide) (fun hc => ?_) (fun hc => ?_)
  · have hf := aw_ite_t hc hf
    refine lv_aload_n hx hb dX11_cost_24 rfl (lv_at hl 0 rfl) ?_
    refine lv_iload_n hx hb dX11_cost_25 rfl (lv_at hl 1 rfl) ?_
    obtain ⟨hc_9, hf⟩ := aw_chk_some hf
    obtain ⟨z_7, hz_8, hf⟩ := aw_bind_some hf
    refine aw_VI (As := [.int x1]) (rest := []) X G hl.1 cr_X11_201 (c_X11_primes l hz_8) ⟨rfl, rfl⟩ rfl rfl rfl (by decide) hc_9 rfl ⟨Nat.le_of_ble_eq_true rfl, Nat.le_of_ble_eq_true rfl⟩ (Nat.le_of_ble_eq_true rfl) dX11_cost_26 ⟨Nat.zero_le _, Nat.zero_le _⟩ (fun H locs G => ?_)
    exact w_X11_cost_J29 X hf  (lv_sub hl [] rfl) G
  · have hf := aw_ite_f hc hf
    refine lv_iconst (v := (0 : Int32)) hx hb dX11_cost_20 (by decide) ?_
    refine lv_goto (tgt := 29) hx hb dX11_cost_21 (by decide) ?_
    exact w_X11_cost_J29 X hf  (lv_sub hl [] rfl) G
end W_X11_cost
set_option maxHeartbeats 4000000 in
set_option maxRecDepth 100000 in
theorem c_X11_cost (l : Launch) {σ : Sg} {x0 : Nat} {x1 : Int32} {d : Dt} {z : Int32 × Dt} (hf : f_X11_cost σ x0 x1 d = some z) : aw_Mi l yX11_cost (Cond.code yX11_cost cX11_cost 2 (some .int)) rm_X11_cost (fun ad => [.ref (ad x0), .int x1]) σ d z := by
  intro D cA base ad
  refine aw_ofW (own := RX11) (cc := cX11_cost) (nL := 2) (ret := some .int) (by decide) rfl rfl ?_
  intro p e s m below meth c X hnm G
  have hx := X.1; have hb := X.2.1; have hml := X.2.2.1; have hown := X.2.2.2.1
  refine aw_ls (lv := [(0, .ref (ad x0)), (1, .int x1)]) (Nat.le_of_ble_eq_true rfl) rfl (fun ls hl => ?_)
  unfold f_X11_cost at hf
  refine lv_aload_n hx hb dX11_cost_0 rfl (lv_at hl 0 rfl) ?_
  refine lv_aload_n hx hb dX11_cost_1 rfl (lv_at hl 0 rfl) ?_
  refine lv_iload_n hx hb dX11_cost_2 rfl (lv_at hl 1 rfl) ?_
  obtain ⟨hc_3, hf⟩ := aw_chk_some hf
  obtain ⟨z_1, hz_2, hf⟩ := aw_bind_some hf
  refine aw_VI (As := [.int x1]) (rest := [.ref (ad x0)]) X G hl.1 cr_X11_146 (c_X11_isDesign l hz_2) ⟨rfl, rfl⟩ rfl rfl rfl (by decide) hc_3 rfl ⟨Nat.le_of_ble_eq_true rfl, Nat.le_of_ble_eq_true rfl⟩ (Nat.le_of_ble_eq_true rfl) dX11_cost_3 ⟨Nat.zero_le _, Nat.zero_le _⟩ (fun H locs G => ?_)
  refine lv_if_eq (tgt := 13) hx hb dX11_cost_6 (by decide) (fun hc => ?_) (fun hc => ?_)
  · have hf := aw_ite_t hc hf
    refine lv_iconst (v := (1 : Int32)) hx hb dX11_cost_13 (by decide) ?_
    exact w_X11_cost_J14 X hf  (lv_sub hl [0, 1] rfl) G
  · have hf := aw_ite_f hc hf
    refine lv_iconst (v := (0 : Int32)) hx hb dX11_cost_9 (by decide) ?_
    refine lv_goto (tgt := 14) hx hb dX11_cost_10 (by decide) ?_
    exact w_X11_cost_J14 X hf  (lv_sub hl [0, 1] rfl) G
def rm_X11_leastCost : Room := { frames := 5, cells := 0, slots := 0, locals := 125 }
def f_X11_leastCost_J99 (σ : Sg) (kb68 : Int64 → Int32 → Int32 → Dt → Option (Int32 × Dt)) (t1 : Int64) (t0 : Int64) (x0 : Nat) (x2 : Int32) (x3 : Int32) (x6 : Int32) (x7 : Int32) (d : Dt) : Option (Int32 × Dt) :=
  kb68 (t0 ||| t1) (x6 + ((x3 >>> (x7 &&& 31)) &&& ((1 : Int32)))) (x7 + 1) d
def f_X11_leastCost_B68 (σ : Sg) (kb68 : Int64 → Int32 → Int32 → Dt → Option (Int32 × Dt)) (k68 : Int64 → Int32 → Dt → Option (Int32 × Dt)) (x0 : Nat) (x2 : Int32) (x3 : Int32) (x4 : Int64) (x6 : Int32) (x7 : Int32) (d : Dt) : Option (Int32 × Dt) :=
  if x2 ≤ x7 then k68 x4 x6 d else if ((x3 >>> (x7 &&& 31)) &&& ((1 : Int32))) = ((1 : Int32)) then aw_chk (aw_O σ 11 32 x0) ((σ.2.2 x0 26).bind (fun q_11 => aw_chk (aw_I σ 20 q_11 x7) (f_X11_leastCost_J99 σ kb68 (((1 : Int64)) <<< ((d.1 q_11 x7.toNatClampNeg).toInt64 &&& 63)) x4 x0 x2 x3 x6 x7 d))) else f_X11_leastCost_J99 σ kb68 ((0 : Int64)) x4 x0 x2 x3 x6 x7 d
def f_X11_leastCost_L68 (σ : Sg) (n : Nat) (k68 : Int64 → Int32 → Dt → Option (Int32 × Dt)) (x0 : Nat) (x2 : Int32) (x3 : Int32) : Int64 → Int32 → Int32 → Dt → Option (Int32 × Dt) := match n with
  | 0 => fun _ _ _ _ => none
  | n + 1 => fun x4 x6 x7 d => f_X11_leastCost_B68 σ (f_X11_leastCost_L68 σ n k68 x0 x2 x3) k68 x0 x2 x3 x4 x6 x7 d
def f_X11_leastCost_J241 (σ : Sg) (kb145 : Int32 → Dt → Option (Int32 × Dt)) (x0 : Nat) (x2 : Int32) (x3 : Int32) (x4 : Int64) (x6 : Int32) (x7 : Int32) (x8 : Int32) (d : Dt) : Option (Int32 × Dt) :=
  kb145 (x8 + 1) d
def f_X11_leastCost_J240 (σ : Sg) (kb145 : Int32 → Dt → Option (Int32 × Dt)) (t2 : Int32) (t1 : Int32) (t0 : Nat) (x0 : Nat) (x2 : Int32) (x3 : Int32) (x4 : Int64) (x6 : Int32) (x7 : Int32) (x8 : Int32) (d : Dt) : Option (Int32 × Dt) :=
  aw_chk (aw_I σ 20 t0 t1) (f_X11_leastCost_J241 σ kb145 x0 x2 x3 x4 x6 x7 x8 (aw_sI d t0 t1.toNatClampNeg t2))
def f_X11_leastCost_J229 (σ : Sg) (kb145 : Int32 → Dt → Option (Int32 × Dt)) (t1 : Int32) (t0 : Nat) (x0 : Nat) (x2 : Int32) (x3 : Int32) (x4 : Int64) (x6 : Int32) (x7 : Int32) (x8 : Int32) (x9 : Int32) (d : Dt) : Option (Int32 × Dt) :=
  f_X11_leastCost_J240 σ kb145 x9 t1 t0 x0 x2 x3 x4 x6 x7 x8 d
def f_X11_leastCost_B145 (σ : Sg) (kb145 : Int32 → Dt → Option (Int32 × Dt)) (k145 : Dt → Option (Int32 × Dt)) (x0 : Nat) (x2 : Int32) (x3 : Int32) (x4 : Int64) (x6 : Int32) (x7 : Int32) (x8 : Int32) (d : Dt) : Option (Int32 × Dt) :=
  if x2 ≤ x8 then k145 d else if ((x3 >>> (x8 &&& 31)) &&& ((1 : Int32))) = ((1 : Int32)) then aw_chk (aw_O σ 11 32 x0) ((σ.2.2 x0 29).bind (fun q_24 => aw_chk (aw_I σ 20 q_24 (x3 &&& ((((1 : Int32)) <<< (x8 &&& 31)) ^^^ ((-1 : Int32))))) ((σ.2.2 x0 26).bind (fun q_27 => aw_chk (aw_I σ 20 q_27 x8) ((f_X11_read σ x0 (x4 &&& ((((1 : Int64)) <<< ((d.1 q_27 x8.toNatClampNeg).toInt64 &&& 63)) ^^^ ((-1 : Int64)))) d).bind (fun z_30 => aw_chk (aw_I σ 20 q_24 x3) (if (z_30.2.1 q_24 x3.toNatClampNeg) = ((-1 : Int32)) then f_X11_leastCost_J229 σ kb145 x3 q_24 x0 x2 x3 x4 x6 x7 x8 ((d.1 q_24 (x3 &&& ((((1 : Int32)) <<< (x8 &&& 31)) ^^^ ((-1 : Int32)))).toNatClampNeg) + (x6 * (x7 - z_30.1))) z_30.2 else if (z_30.2.1 q_24 x3.toNatClampNeg) ≤ ((d.1 q_24 (x3 &&& ((((1 : Int32)) <<< (x8 &&& 31)) ^^^ ((-1 : Int32)))).toNatClampNeg) + (x6 * (x7 - z_30.1))) then f_X11_leastCost_J240 σ kb145 (z_30.2.1 q_24 x3.toNatClampNeg) x3 q_24 x0 x2 x3 x4 x6 x7 x8 z_30.2 else f_X11_leastCost_J229 σ kb145 x3 q_24 x0 x2 x3 x4 x6 x7 x8 ((d.1 q_24 (x3 &&& ((((1 : Int32)) <<< (x8 &&& 31)) ^^^ ((-1 : Int32)))).toNatClampNeg) + (x6 * (x7 - z_30.1))) z_30.2))))))) else f_X11_leastCost_J241 σ kb145 x0 x2 x3 x4 x6 x7 x8 d
def f_X11_leastCost_L145 (σ : Sg) (n : Nat) (k145 : Dt → Option (Int32 × Dt)) (x0 : Nat) (x2 : Int32) (x3 : Int32) (x4 : Int64) (x6 : Int32) (x7 : Int32) : Int32 → Dt → Option (Int32 × Dt) := match n with
  | 0 => fun _ _ => none
  | n + 1 => fun x8 d => f_X11_leastCost_B145 σ (f_X11_leastCost_L145 σ n k145 x0 x2 x3 x4 x6 x7) k145 x0 x2 x3 x4 x6 x7 x8 d
def f_X11_leastCost_J141 (σ : Sg) (kb52 : Int32 → Dt → Option (Int32 × Dt)) (t2 : Int32) (t1 : Int32) (t0 : Nat) (x0 : Nat) (x2 : Int32) (x3 : Int32) (x4 : Int64) (x6 : Int32) (x7 : Int32) (d : Dt) : Option (Int32 × Dt) :=
  aw_chk (aw_I σ 20 t0 t1) (f_X11_leastCost_L145 σ aw_FU (fun d_34 => kb52 (x3 + 1) d_34) x0 x2 x3 x4 x6 x7 ((0 : Int32)) (aw_sI d t0 t1.toNatClampNeg t2))
def f_X11_leastCost_B52 (σ : Sg) (kb52 : Int32 → Dt → Option (Int32 × Dt)) (k52 : Dt → Option (Int32 × Dt)) (x0 : Nat) (x2 : Int32) (x3 : Int32) (d : Dt) : Option (Int32 × Dt) :=
  if (((1 : Int32)) <<< (x2 &&& 31)) ≤ x3 then k52 d else f_X11_leastCost_L68 σ aw_FU (fun x4_14 x6_15 d_16 => aw_chk (aw_O σ 11 32 x0) ((f_X11_read σ x0 x4_14 d_16).bind (fun z_17 => (σ.2.2 x0 29).bind (fun q_20 => if x3 = 0 then f_X11_leastCost_J141 σ kb52 ((0 : Int32)) x3 q_20 x0 x2 x3 x4_14 x6_15 z_17.1 z_17.2 else f_X11_leastCost_J141 σ kb52 ((-1 : Int32)) x3 q_20 x0 x2 x3 x4_14 x6_15 z_17.1 z_17.2)))) x0 x2 x3 ((0 : Int64)) ((0 : Int32)) ((0 : Int32)) d
def f_X11_leastCost_L52 (σ : Sg) (n : Nat) (k52 : Dt → Option (Int32 × Dt)) (x0 : Nat) (x2 : Int32) : Int32 → Dt → Option (Int32 × Dt) := match n with
  | 0 => fun _ _ => none
  | n + 1 => fun x3 d => f_X11_leastCost_B52 σ (f_X11_leastCost_L52 σ n k52 x0 x2) k52 x0 x2 x3 d
def f_X11_leastCost_J42 (σ : Sg) (t1 : Int32) (t0 : Nat) (x0 : Nat) (x2 : Int32) (d : Dt) : Option (Int32 × Dt) :=
  aw_chk (aw_O σ 11 32 t0) ((f_X11_fails σ t0 t1 d).bind (fun z_7 => if z_7.1 = 0 then f_X11_leastCost_L52 σ aw_FU (fun d_35 => aw_chk (aw_O σ 11 32 x0) ((σ.2.2 x0 29).bind (fun q_37 => aw_chk (aw_I σ 20 q_37 ((((1 : Int32)) <<< (x2 &&& 31)) - ((1 : Int32)))) (some (d_35.1 q_37 ((((1 : Int32)) <<< (x2 &&& 31)) - ((1 : Int32))).toNatClampNeg, d_35))))) x0 x2 ((0 : Int32)) z_7.2 else some ((0 : Int32), z_7.2)))
def f_X11_leastCost_J17 (σ : Sg) (t0 : Int32) (x0 : Nat) (x1 : Int32) (d : Dt) : Option (Int32 × Dt) :=
  aw_chk (aw_O σ 11 32 x0) ((f_X11_isDesign σ x0 x1 d).bind (fun z_4 => if z_4.1 = 0 then f_X11_leastCost_J42 σ ((1 : Int32)) x0 x0 t0 z_4.2 else if t0 ≤ ((10 : Int32)) then f_X11_leastCost_J42 σ ((0 : Int32)) x0 x0 t0 z_4.2 else f_X11_leastCost_J42 σ ((2 : Int32)) x0 x0 t0 z_4.2))
def f_X11_leastCost (σ : Sg) (x0 : Nat) (x1 : Int32) (d : Dt) : Option (Int32 × Dt) :=
  aw_chk (aw_O σ 11 32 x0) ((f_X11_isDesign σ x0 x1 d).bind (fun z_1 => if z_1.1 = 0 then f_X11_leastCost_J17 σ ((0 : Int32)) x0 x1 z_1.2 else (f_X11_uses σ x0 x1 z_1.2).bind (fun z_40 => f_X11_leastCost_J17 σ z_40.1 x0 x1 z_40.2)))
section W_X11_leastCost
variable {p : Program} {l : Launch} {e : Env} {s : State} {m : MethodId} {args : Array Value} {below : List Frame} {meth : Method} {c : Code}
variable {D : va_G} {cA : Nat → ClassId} {base : Nat} {ad : Nat → Nat} {σ : Sg}
set_option maxHeartbeats 4000000 in
set_option maxRecDepth 100000 in
theorem w_X11_leastCost_J99 {z : Int32 × Dt} (X : aw_X p c cX11_leastCost 10 s RX11 m meth (some .int)) {kb68 : Int64 → Int32 → Int32 → Dt → Option (Int32 × Dt)} {t1 : Int64} {t0 : Int64} {x0 : Nat} {x2 : Int32} {x3 : Int32} {x6 : Int32} {x7 : Int32} {d : Dt} (hf : f_X11_leastCost_J99 σ kb68 t1 t0 x0 x2 x3 x6 x7 d = some z) (hkb68 : ∀ (y4 : Int64) (y6 : Int32) (y7 : Int32) (d : Dt), kb68 y4 y6 y7 d = some z → ∀ (H : Heap) (locs : List Loc) (ls : Array Slot), lv_has ls 10 [(0, .ref (ad x0)), (2, .int x2), (3, .int x3), (4, .long y4), (6, .int y6), (7, .int y7)] → aw_G D cA base ad σ d s H locs → W p l e rm_X11_leastCost s m args below meth c H locs 0 0 (aw_Ei D cA base ad σ below args s z) (F0 m 68 ls [])) {H : Heap} {locs : List Loc} {ls : Array Slot} (hl : lv_has ls 10 [(0, .ref (ad x0)), (2, .int x2), (3, .int x3), (6, .int x6), (7, .int x7)]) (G : aw_G D cA base ad σ d s H locs) : W p l e rm_X11_leastCost s m args below meth c H locs 0 0 (aw_Ei D cA base ad σ below args s z) (F0 m 99 ls [.long t1, .long t0]) := by
  have hx := X.1; have hb := X.2.1; have hml := X.2.2.1; have hown := X.2.2.2.1
  unfold f_X11_leastCost_J99 at hf
  refine lv_lor hx hb dX11_leastCost_99 ?_
  refine lv_lstore (lv' := [(4, .long (t0 ||| t1)), (0, .ref (ad x0)), (2, .int x2), (3, .int x3), (6, .int x6), (7, .int x7)]) hx hb dX11_leastCost_100 hl (by decide) rfl (fun ls hl => ?_)
  refine lv_iload hx hb dX11_leastCost_102 (lv_at hl 4 rfl) ?_
  refine lv_iload_n hx hb dX11_leastCost_104 rfl (lv_at hl 3 rfl) ?_
  refine lv_iload hx hb dX11_leastCost_105 (lv_at hl 5 rfl) ?_
  refine lv_ishr hx hb dX11_leastCost_107 ?_
  refine lv_iconst (v := (1 : Int32)) hx hb dX11_leastCost_108 (by decide) ?_
  refine lv_iand hx hb dX11_leastCost_109 ?_
  refine lv_iadd hx hb dX11_leastCost_110 ?_
  refine lv_istore (lv' := [(6, .int (x6 + ((x3 >>> (x7 &&& 31)) &&& ((1 : Int32))))), (4, .long (t0 ||| t1)), (0, .ref (ad x0)), (2, .int x2), (3, .int x3), (7, .int x7)]) hx hb dX11_leastCost_111 hl (by decide) rfl (fun ls hl => ?_)
  refine lv_iinc (v := x7 + 1) (lv' := [(7, .int (x7 + 1)), (6, .int (x6 + ((x3 >>> (x7 &&& 31)) &&& ((1 : Int32))))), (4, .long (t0 ||| t1)), (0, .ref (ad x0)), (2, .int x2), (3, .int x3)]) hx hb dX11_leastCost_113 hl (k := 5) rfl rfl (by decide) rfl (fun ls hl => ?_)
  refine lv_goto (tgt := 68) hx hb dX11_leastCost_116 (by decide) ?_
  exact hkb68 _ _ _ _ hf _ _ _ (lv_sub hl [3, 4, 5, 2, 1, 0] rfl) G
set_option maxHeartbeats 4000000 in
set_option maxRecDepth 100000 in
theorem w_X11_leastCost_B68 {z : Int32 × Dt} (X : aw_X p c cX11_leastCost 10 s RX11 m meth (some .int)) {kb68 : Int64 → Int32 → Int32 → Dt → Option (Int32 × Dt)} {k68 : Int64 → Int32 → Dt → Option (Int32 × Dt)} {x0 : Nat} {x2 : Int32} {x3 : Int32} {x4 : Int64} {x6 : Int32} {x7 : Int32} {d : Dt} (hf : f_X11_leastCost_B68 σ kb68 k68 x0 x2 x3 x4 x6 x7 d = some z) (hkb68 : ∀ (y4 : Int64) (y6 : Int32) (y7 : Int32) (d : Dt), kb68 y4 y6 y7 d = some z → ∀ (H : Heap) (locs : List Loc) (ls : Array Slot), lv_has ls 10 [(0, .ref (ad x0)), (2, .int x2), (3, .int x3), (4, .long y4), (6, .int y6), (7, .int y7)] → aw_G D cA base ad σ d s H locs → W p l e rm_X11_leastCost s m args below meth c H locs 0 0 (aw_Ei D cA base ad σ below args s z) (F0 m 68 ls [])) (hk68 : ∀ (y4 : Int64) (y6 : Int32) (d : Dt), k68 y4 y6 d = some z → ∀ (H : Heap) (locs : List Loc) (ls : Array Slot), lv_has ls 10 [(0, .ref (ad x0)), (2, .int x2), (3, .int x3), (4, .long y4), (6, .int y6)] → aw_G D cA base ad σ d s H locs → W p l e rm_X11_leastCost s m args below meth c H locs 0 0 (aw_Ei D cA base ad σ below args s z) (F0 m 119 ls [])) {H : Heap} {locs : List Loc} {ls : Array Slot} (hl : lv_has ls 10 [(0, .ref (ad x0)), (2, .int x2), (3, .int x3), (4, .long x4), (6, .int x6), (7, .int x7)]) (G : aw_G D cA base ad σ d s H locs) : W p l e rm_X11_leastCost s m args below meth c H locs 0 0 (aw_Ei D cA base ad σ below args s z) (F0 m 68 ls []) := by
  have hx := X.1; have hb := X.2.1; have hml := X.2.2.1; have hown := X.2.2.2.1
  unfold f_X11_leastCost_B68 at hf
  refine lv_iload hx hb dX11_leastCost_68 (lv_at hl 5 rfl) ?_
  refine lv_iload_n hx hb dX11_leastCost_70 rfl (lv_at hl 1 rfl) ?_
  refine lv_icmp_ge (tgt := 119) hx hb dX11_leastCost_71 (by decide) (fun hc => ?_) (fun hc => ?_)
  · have hf := aw_ite_t hc hf
    exact hk68 _ _ _ hf _ _ _ (lv_sub hl [0, 1, 2, 3, 4] rfl) G
  · have hf := aw_ite_f hc hf
    refine lv_lload hx hb dX11_leastCost_74 (lv_at hl 3 rfl) ?_
    refine lv_iload_n hx hb dX11_leastCost_76 rfl (lv_at hl 2 rfl) ?_
    refine lv_iload hx hb dX11_leastCost_77 (lv_at hl 5 rfl) ?_
    refine lv_ishr hx hb dX11_leastCost_79 ?_
    refine lv_iconst (v := (1 : Int32)) hx hb dX11_leastCost_80 (by decide) ?_
    refine lv_iand hx hb dX11_leastCost_81 ?_
    refine lv_iconst (v := (1 : Int32)) hx hb dX11_leastCost_82 (by decide) ?_
    refine lv_icmp_ne (tgt := 98) hx hb dX11_leastCost_83 (by decide) (fun hc => ?_) (fun hc => ?_)
    · have hf := aw_ite_f hc hf
      refine lv_lconst (v := (0 : Int64)) hx hb dX11_leastCost_98 (by decide) ?_
      exact w_X11_leastCost_J99 X hf hkb68 (lv_sub hl [0, 1, 2, 4, 5] rfl) G
    · have hf := aw_ite_t hc hf
      refine lv_lconst (v := (1 : Int64)) hx hb dX11_leastCost_86 (by decide) ?_
      refine lv_aload_n hx hb dX11_leastCost_87 rfl (lv_at hl 0 rfl) ?_
      obtain ⟨hc_10, hf⟩ := aw_chk_some hf
      obtain ⟨q_11, hq_12, hf⟩ := aw_bind_some hf
      refine gf_X11_81 hx hb G hown hc_10 hq_12 dX11_leastCost_88 ?_
      refine lv_iload hx hb dX11_leastCost_91 (lv_at hl 5 rfl) ?_
      obtain ⟨hc_13, hf⟩ := aw_chk_some hf
      refine aw_ial hx hb G hc_13 dX11_leastCost_93 ?_
      refine lv_lshl hx hb dX11_leastCost_94 rfl ?_
      refine lv_goto (tgt := 99) hx hb dX11_leastCost_95 (by decide) ?_
      exact w_X11_leastCost_J99 X hf hkb68 (lv_sub hl [0, 1, 2, 4, 5] rfl) G
theorem w_X11_leastCost_L68 {z : Int32 × Dt} (X : aw_X p c cX11_leastCost 10 s RX11 m meth (some .int)) {k68 : Int64 → Int32 → Dt → Option (Int32 × Dt)} {x0 : Nat} {x2 : Int32} {x3 : Int32} (n : Nat) {x4 : Int64} {x6 : Int32} {x7 : Int32} {d : Dt} (hf : f_X11_leastCost_L68 σ n k68 x0 x2 x3 x4 x6 x7 d = some z) (hk68 : ∀ (y4 : Int64) (y6 : Int32) (d : Dt), k68 y4 y6 d = some z → ∀ (H : Heap) (locs : List Loc) (ls : Array Slot), lv_has ls 10 [(0, .ref (ad x0)), (2, .int x2), (3, .int x3), (4, .long y4), (6, .int y6)] → aw_G D cA base ad σ d s H locs → W p l e rm_X11_leastCost s m args below meth c H locs 0 0 (aw_Ei D cA base ad σ below args s z) (F0 m 119 ls [])) {H : Heap} {locs : List Loc} {ls : Array Slot} (hl : lv_has ls 10 [(0, .ref (ad x0)), (2, .int x2), (3, .int x3), (4, .long x4), (6, .int x6), (7, .int x7)]) (G : aw_G D cA base ad σ d s H locs) : W p l e rm_X11_leastCost s m args below meth c H locs 0 0 (aw_Ei D cA base ad σ below args s z) (F0 m 68 ls []) := by
  induction n generalizing x4 x6 x7 d H locs ls with
  | zero => exact absurd (show (none : Option (Int32 × Dt)) = some z from hf) (by simp)
  | succ n ih => exact w_X11_leastCost_B68 X (kb68 := f_X11_leastCost_L68 σ n k68 x0 x2 x3) hf  (fun x4 x6 x7 d hf H locs ls hl G => ih hf hl G) hk68 hl G
set_option maxHeartbeats 4000000 in
set_option maxRecDepth 100000 in
theorem w_X11_leastCost_J241 {z : Int32 × Dt} (X : aw_X p c cX11_leastCost 10 s RX11 m meth (some .int)) {kb145 : Int32 → Dt → Option (Int32 × Dt)} {x0 : Nat} {x2 : Int32} {x3 : Int32} {x4 : Int64} {x6 : Int32} {x7 : Int32} {x8 : Int32} {d : Dt} (hf : f_X11_leastCost_J241 σ kb145 x0 x2 x3 x4 x6 x7 x8 d = some z) (hkb145 : ∀ (y8 : Int32) (d : Dt), kb145 y8 d = some z → ∀ (H : Heap) (locs : List Loc) (ls : Array Slot), lv_has ls 10 [(0, .ref (ad x0)), (2, .int x2), (3, .int x3), (4, .long x4), (6, .int x6), (7, .int x7), (8, .int y8)] → aw_G D cA base ad σ d s H locs → W p l e rm_X11_leastCost s m args below meth c H locs 0 0 (aw_Ei D cA base ad σ below args s z) (F0 m 145 ls [])) {H : Heap} {locs : List Loc} {ls : Array Slot} (hl : lv_has ls 10 [(0, .ref (ad x0)), (2, .int x2), (3, .int x3), (4, .long x4), (6, .int x6), (7, .int x7), (8, .int x8)]) (G : aw_G D cA base ad σ d s H locs) : W p l e rm_X11_leastCost s m args below meth c H locs 0 0 (aw_Ei D cA base ad σ below args s z) (F0 m 241 ls []) := by
  have hx := X.1; have hb := X.2.1; have hml := X.2.2.1; have hown := X.2.2.2.1
  unfold f_X11_leastCost_J241 at hf
  refine lv_iinc (v := x8 + 1) (lv' := [(8, .int (x8 + 1)), (0, .ref (ad x0)), (2, .int x2), (3, .int x3), (4, .long x4), (6, .int x6), (7, .int x7)]) hx hb dX11_leastCost_241 hl (k := 6) rfl rfl (by decide) rfl (fun ls hl => ?_)
  refine lv_goto (tgt := 145) hx hb dX11_leastCost_244 (by decide) ?_
  exact hkb145 _ _ hf _ _ _ (lv_sub hl [1, 2, 3, 4, 5, 6, 0] rfl) G
set_option maxHeartbeats 4000000 in
set_option maxRecDepth 100000 in
theorem w_X11_leastCost_J240 {z : Int32 × Dt} (X : aw_X p c cX11_leastCost 10 s RX11 m meth (some .int)) {kb145 : Int32 → Dt → Option (Int32 × Dt)} {t2 : Int32} {t1 : Int32} {t0 : Nat} {x0 : Nat} {x2 : Int32} {x3 : Int32} {x4 : Int64} {x6 : Int32} {x7 : Int32} {x8 : Int32} {d : Dt} (hf : f_X11_leastCost_J240 σ kb145 t2 t1 t0 x0 x2 x3 x4 x6 x7 x8 d = some z) (hkb145 : ∀ (y8 : Int32) (d : Dt), kb145 y8 d = some z → ∀ (H : Heap) (locs : List Loc) (ls : Array Slot), lv_has ls 10 [(0, .ref (ad x0)), (2, .int x2), (3, .int x3), (4, .long x4), (6, .int x6), (7, .int x7), (8, .int y8)] → aw_G D cA base ad σ d s H locs → W p l e rm_X11_leastCost s m args below meth c H locs 0 0 (aw_Ei D cA base ad σ below args s z) (F0 m 145 ls [])) {H : Heap} {locs : List Loc} {ls : Array Slot} (hl : lv_has ls 10 [(0, .ref (ad x0)), (2, .int x2), (3, .int x3), (4, .long x4), (6, .int x6), (7, .int x7), (8, .int x8)]) (G : aw_G D cA base ad σ d s H locs) : W p l e rm_X11_leastCost s m args below meth c H locs 0 0 (aw_Ei D cA base ad σ below args s z) (F0 m 240 ls [.int t2, .int t1, .ref (ad t0)]) := by
  have hx := X.1; have hb := X.2.1; have hml := X.2.2.1; have hown := X.2.2.2.1
  unfold f_X11_leastCost_J240 at hf
  obtain ⟨hc_33, hf⟩ := aw_chk_some hf
  refine aw_ias hx hb G hc_33 dX11_leastCost_240 (fun H locs G => ?_)
  exact w_X11_leastCost_J241 X hf hkb145 (lv_sub hl [0, 1, 2, 3, 4, 5, 6] rfl) G
set_option maxHeartbeats 4000000 in
set_option maxRecDepth 100000 in
theorem w_X11_leastCost_J229 {z : Int32 × Dt} (X : aw_X p c cX11_leastCost 10 s RX11 m meth (some .int)) {kb145 : Int32 → Dt → Option (Int32 × Dt)} {t1 : Int32} {t0 : Nat} {x0 : Nat} {x2 : Int32} {x3 : Int32} {x4 : Int64} {x6 : Int32} {x7 : Int32} {x8 : Int32} {x9 : Int32} {d : Dt} (hf : f_X11_leastCost_J229 σ kb145 t1 t0 x0 x2 x3 x4 x6 x7 x8 x9 d = some z) (hkb145 : ∀ (y8 : Int32) (d : Dt), kb145 y8 d = some z → ∀ (H : Heap) (locs : List Loc) (ls : Array Slot), lv_has ls 10 [(0, .ref (ad x0)), (2, .int x2), (3, .int x3), (4, .long x4), (6, .int x6), (7, .int x7), (8, .int y8)] → aw_G D cA base ad σ d s H locs → W p l e rm_X11_leastCost s m args below meth c H locs 0 0 (aw_Ei D cA base ad σ below args s z) (F0 m 145 ls [])) {H : Heap} {locs : List Loc} {ls : Array Slot} (hl : lv_has ls 10 [(0, .ref (ad x0)), (2, .int x2), (3, .int x3), (4, .long x4), (6, .int x6), (7, .int x7), (8, .int x8), (9, .int x9)]) (G : aw_G D cA base ad σ d s H locs) : W p l e rm_X11_leastCost s m args below meth c H locs 0 0 (aw_Ei D cA base ad σ below args s z) (F0 m 229 ls [.int t1, .ref (ad t0)]) := by
  have hx := X.1; have hb := X.2.1; have hml := X.2.2.1; have hown := X.2.2.2.1
  unfold f_X11_leastCost_J229 at hf
  refine lv_iload hx hb dX11_leastCost_229 (lv_at hl 7 rfl) ?_
  refine lv_goto (tgt := 240) hx hb dX11_leastCost_231 (by decide) ?_
  exact w_X11_leastCost_J240 X hf hkb145 (lv_sub hl [0, 1, 2, 3, 4, 5, 6] rfl) G
set_option maxHeartbeats 4000000 in
set_option maxRecDepth 100000 in
theorem w_X11_leastCost_B145 {z : Int32 × Dt} (X : aw_X p c cX11_leastCost 10 s RX11 m meth (some .int)) {kb145 : Int32 → Dt → Option (Int32 × Dt)} {k145 : Dt → Option (Int32 × Dt)} {x0 : Nat} {x2 : Int32} {x3 : Int32} {x4 : Int64} {x6 : Int32} {x7 : Int32} {x8 : Int32} {d : Dt} (hf : f_X11_leastCost_B145 σ kb145 k145 x0 x2 x3 x4 x6 x7 x8 d = some z) (hkb145 : ∀ (y8 : Int32) (d : Dt), kb145 y8 d = some z → ∀ (H : Heap) (locs : List Loc) (ls : Array Slot), lv_has ls 10 [(0, .ref (ad x0)), (2, .int x2), (3, .int x3), (4, .long x4), (6, .int x6), (7, .int x7), (8, .int y8)] → aw_G D cA base ad σ d s H locs → W p l e rm_X11_leastCost s m args below meth c H locs 0 0 (aw_Ei D cA base ad σ below args s z) (F0 m 145 ls [])) (hk145 : ∀ (d : Dt), k145 d = some z → ∀ (H : Heap) (locs : List Loc) (ls : Array Slot), lv_has ls 10 [(0, .ref (ad x0)), (2, .int x2), (3, .int x3)] → aw_G D cA base ad σ d s H locs → W p l e rm_X11_leastCost s m args below meth c H locs 0 0 (aw_Ei D cA base ad σ below args s z) (F0 m 247 ls [])) {H : Heap} {locs : List Loc} {ls : Array Slot} (hl : lv_has ls 10 [(0, .ref (ad x0)), (2, .int x2), (3, .int x3), (4, .long x4), (6, .int x6), (7, .int x7), (8, .int x8)]) (G : aw_G D cA base ad σ d s H locs) : W p l e rm_X11_leastCost s m args below meth c H locs 0 0 (aw_Ei D cA base ad σ below args s z) (F0 m 145 ls []) := by
  have hx := X.1; have hb := X.2.1; have hml := X.2.2.1; have hown := X.2.2.2.1
  unfold f_X11_leastCost_B145 at hf
  refine lv_iload hx hb dX11_leastCost_145 (lv_at hl 6 rfl) ?_
  refine lv_iload_n hx hb dX11_leastCost_147 rfl (lv_at hl 1 rfl) ?_
  refine lv_icmp_ge (tgt := 247) hx hb dX11_leastCost_148 (by decide) (fun hc => ?_) (fun hc => ?_)
  · have hf := aw_ite_t hc hf
    exact hk145 _ hf _ _ _ (lv_sub hl [0, 1, 2] rfl) G
  · have hf := aw_ite_f hc hf
    refine lv_iload_n hx hb dX11_leastCost_151 rfl (lv_at hl 2 rfl) ?_
    refine lv_iload hx hb dX11_leastCost_152 (lv_at hl 6 rfl) ?_
    refine lv_ishr hx hb dX11_leastCost_154 ?_
    refine lv_iconst (v := (1 : Int32)) hx hb dX11_leastCost_155 (by decide) ?_
    refine lv_iand hx hb dX11_leastCost_156 ?_
    refine lv_iconst (v := (1 : Int32)) hx hb dX11_leastCost_157 (by decide) ?_
    refine lv_icmp_ne (tgt := 241) hx hb dX11_leastCost_158 (by decide) (fun hc => ?_) (fun hc => ?_)
    · have hf := aw_ite_f hc hf
      exact w_X11_leastCost_J241 X hf hkb145 (lv_sub hl [0, 1, 2, 3, 4, 5, 6] rfl) G
    · have hf := aw_ite_t hc hf
      refine lv_aload_n hx hb dX11_leastCost_161 rfl (lv_at hl 0 rfl) ?_
      obtain ⟨hc_23, hf⟩ := aw_chk_some hf
      obtain ⟨q_24, hq_25, hf⟩ := aw_bind_some hf
      refine gf_X11_90 hx hb G hown hc_23 hq_25 dX11_leastCost_162 ?_
      refine lv_iload_n hx hb dX11_leastCost_165 rfl (lv_at hl 2 rfl) ?_
      refine lv_iconst (v := (1 : Int32)) hx hb dX11_leastCost_166 (by decide) ?_
      refine lv_iload hx hb dX11_leastCost_167 (lv_at hl 6 rfl) ?_
      refine lv_ishl hx hb dX11_leastCost_169 ?_
      refine lv_iconst (v := (-1 : Int32)) hx hb dX11_leastCost_170 (by decide) ?_
      refine lv_ixor hx hb dX11_leastCost_171 ?_
      refine lv_iand hx hb dX11_leastCost_172 ?_
      obtain ⟨hc_26, hf⟩ := aw_chk_some hf
      refine aw_ial hx hb G hc_26 dX11_leastCost_173 ?_
      refine lv_iload hx hb dX11_leastCost_174 (lv_at hl 4 rfl) ?_
      refine lv_iload hx hb dX11_leastCost_176 (lv_at hl 5 rfl) ?_
      refine lv_aload_n hx hb dX11_leastCost_178 rfl (lv_at hl 0 rfl) ?_
      refine lv_lload hx hb dX11_leastCost_179 (lv_at hl 3 rfl) ?_
      refine lv_lconst (v := (1 : Int64)) hx hb dX11_leastCost_181 (by decide) ?_
      refine lv_aload_n hx hb dX11_leastCost_182 rfl (lv_at hl 0 rfl) ?_
      obtain ⟨q_27, hq_28, hf⟩ := aw_bind_some hf
      refine gf_X11_81 hx hb G hown hc_23 hq_28 dX11_leastCost_183 ?_
      refine lv_iload hx hb dX11_leastCost_186 (lv_at hl 6 rfl) ?_
      obtain ⟨hc_29, hf⟩ := aw_chk_some hf
      refine aw_ial hx hb G hc_29 dX11_leastCost_188 ?_
      refine lv_lshl hx hb dX11_leastCost_189 rfl ?_
      refine lv_ldc2 (v := (-1 : Int64)) hx hb hown (G.1.hts _ m_1289) dX11_leastCost_190 ?_
      refine lv_lxor hx hb dX11_leastCost_193 ?_
      refine lv_land hx hb dX11_leastCost_194 ?_
      obtain ⟨z_30, hz_31, hf⟩ := aw_bind_some hf
      refine aw_VI (As := [.long (x4 &&& ((((1 : Int64)) <<< ((d.1 q_27 x8.toNatClampNeg).toInt64 &&& 63)) ^^^ ((-1 : Int64))))]) (rest := [.int x7, .int x6, .int (d.1 q_24 (x3 &&& ((((1 : Int32)) <<< (x8 &&& 31)) ^^^ ((-1 : Int32)))).toNatClampNeg)]) X G hl.1 cr_X11_197 (c_X11_read l hz_31) ⟨rfl, rfl⟩ rfl rfl rfl (by decide) hc_23 rfl ⟨Nat.le_of_ble_eq_true rfl, Nat.le_of_ble_eq_true rfl⟩ (Nat.le_of_ble_eq_true rfl) dX11_leastCost_195 ⟨Nat.zero_le _, Nat.zero_le _⟩ (fun H locs G => ?_)
      refine lv_isub hx hb dX11_leastCost_198 ?_
      refine lv_imul hx hb dX11_leastCost_199 ?_
      refine lv_iadd hx hb dX11_leastCost_200 ?_
      refine lv_istore (lv' := [(9, .int ((d.1 q_24 (x3 &&& ((((1 : Int32)) <<< (x8 &&& 31)) ^^^ ((-1 : Int32)))).toNatClampNeg) + (x6 * (x7 - z_30.1)))), (0, .ref (ad x0)), (2, .int x2), (3, .int x3), (4, .long x4), (6, .int x6), (7, .int x7), (8, .int x8)]) hx hb dX11_leastCost_201 hl (by decide) rfl (fun ls hl => ?_)
      refine lv_aload_n hx hb dX11_leastCost_203 rfl (lv_at hl 1 rfl) ?_
      refine gf_X11_90 hx hb G hown hc_23 hq_25 dX11_leastCost_204 ?_
      refine lv_iload_n hx hb dX11_leastCost_207 rfl (lv_at hl 3 rfl) ?_
      refine lv_aload_n hx hb dX11_leastCost_208 rfl (lv_at hl 1 rfl) ?_
      refine gf_X11_90 hx hb G hown hc_23 hq_25 dX11_leastCost_209 ?_
      refine lv_iload_n hx hb dX11_leastCost_212 rfl (lv_at hl 3 rfl) ?_
      obtain ⟨hc_32, hf⟩ := aw_chk_some hf
      refine aw_ial hx hb G hc_32 dX11_leastCost_213 ?_
      refine lv_iconst (v := (-1 : Int32)) hx hb dX11_leastCost_214 (by decide) ?_
      refine lv_icmp_eq (tgt := 229) hx hb dX11_leastCost_215 (by decide) (fun hc => ?_) (fun hc => ?_)
      · have hf := aw_ite_t hc hf
        exact w_X11_leastCost_J229 X hf hkb145 (lv_sub hl [1, 2, 3, 4, 5, 6, 7, 0] rfl) G
      · have hf := aw_ite_f hc hf
        refine lv_iload hx hb dX11_leastCost_218 (lv_at hl 0 rfl) ?_
        refine lv_aload_n hx hb dX11_leastCost_220 rfl (lv_at hl 1 rfl) ?_
        refine gf_X11_90 hx hb G hown hc_23 hq_25 dX11_leastCost_221 ?_
        refine lv_iload_n hx hb dX11_leastCost_224 rfl (lv_at hl 3 rfl) ?_
        refine aw_ial hx hb G hc_32 dX11_leastCost_225 ?_
        refine lv_icmp_ge (tgt := 234) hx hb dX11_leastCost_226 (by decide) (fun hc => ?_) (fun hc => ?_)
        · have hf := aw_ite_t hc hf
          refine lv_aload_n hx hb dX11_leastCost_234 rfl (lv_at hl 1 rfl) ?_
          refine gf_X11_90 hx hb G hown hc_23 hq_25 dX11_leastCost_235 ?_
          refine lv_iload_n hx hb dX11_leastCost_238 rfl (lv_at hl 3 rfl) ?_
          refine aw_ial hx hb G hc_32 dX11_leastCost_239 ?_
          exact w_X11_leastCost_J240 X hf hkb145 (lv_sub hl [1, 2, 3, 4, 5, 6, 7] rfl) G
        · have hf := aw_ite_f hc hf
          exact w_X11_leastCost_J229 X hf hkb145 (lv_sub hl [1, 2, 3, 4, 5, 6, 7, 0] rfl) G
theorem w_X11_leastCost_L145 {z : Int32 × Dt} (X : aw_X p c cX11_leastCost 10 s RX11 m meth (some .int)) {k145 : Dt → Option (Int32 × Dt)} {x0 : Nat} {x2 : Int32} {x3 : Int32} {x4 : Int64} {x6 : Int32} {x7 : Int32} (n : Nat) {x8 : Int32} {d : Dt} (hf : f_X11_leastCost_L145 σ n k145 x0 x2 x3 x4 x6 x7 x8 d = some z) (hk145 : ∀ (d : Dt), k145 d = some z → ∀ (H : Heap) (locs : List Loc) (ls : Array Slot), lv_has ls 10 [(0, .ref (ad x0)), (2, .int x2), (3, .int x3)] → aw_G D cA base ad σ d s H locs → W p l e rm_X11_leastCost s m args below meth c H locs 0 0 (aw_Ei D cA base ad σ below args s z) (F0 m 247 ls [])) {H : Heap} {locs : List Loc} {ls : Array Slot} (hl : lv_has ls 10 [(0, .ref (ad x0)), (2, .int x2), (3, .int x3), (4, .long x4), (6, .int x6), (7, .int x7), (8, .int x8)]) (G : aw_G D cA base ad σ d s H locs) : W p l e rm_X11_leastCost s m args below meth c H locs 0 0 (aw_Ei D cA base ad σ below args s z) (F0 m 145 ls []) := by
  induction n generalizing x8 d H locs ls with
  | zero => exact absurd (show (none : Option (Int32 × Dt)) = some z from hf) (by simp)
  | succ n ih => exact w_X11_leastCost_B145 X (kb145 := f_X11_leastCost_L145 σ n k145 x0 x2 x3 x4 x6 x7) hf  (fun x8 d hf H locs ls hl G => ih hf hl G) hk145 hl G
set_option maxHeartbeats 4000000 in
set_option maxRecDepth 100000 in
theorem w_X11_leastCost_J141 {z : Int32 × Dt} (X : aw_X p c cX11_leastCost 10 s RX11 m meth (some .int)) {kb52 : Int32 → Dt → Option (Int32 × Dt)} {t2 : Int32} {t1 : Int32} {t0 : Nat} {x0 : Nat} {x2 : Int32} {x3 : Int32} {x4 : Int64} {x6 : Int32} {x7 : Int32} {d : Dt} (hf : f_X11_leastCost_J141 σ kb52 t2 t1 t0 x0 x2 x3 x4 x6 x7 d = some z) (hkb52 : ∀ (y3 : Int32) (d : Dt), kb52 y3 d = some z → ∀ (H : Heap) (locs : List Loc) (ls : Array Slot), lv_has ls 10 [(0, .ref (ad x0)), (2, .int x2), (3, .int y3)] → aw_G D cA base ad σ d s H locs → W p l e rm_X11_leastCost s m args below meth c H locs 0 0 (aw_Ei D cA base ad σ below args s z) (F0 m 52 ls [])) {H : Heap} {locs : List Loc} {ls : Array Slot} (hl : lv_has ls 10 [(0, .ref (ad x0)), (2, .int x2), (3, .int x3), (4, .long x4), (6, .int x6), (7, .int x7)]) (G : aw_G D cA base ad σ d s H locs) : W p l e rm_X11_leastCost s m args below meth c H locs 0 0 (aw_Ei D cA base ad σ below args s z) (F0 m 141 ls [.int t2, .int t1, .ref (ad t0)]) := by
  have hx := X.1; have hb := X.2.1; have hml := X.2.2.1; have hown := X.2.2.2.1
  unfold f_X11_leastCost_J141 at hf
  obtain ⟨hc_22, hf⟩ := aw_chk_some hf
  refine aw_ias hx hb G hc_22 dX11_leastCost_141 (fun H locs G => ?_)
  refine lv_iconst (v := (0 : Int32)) hx hb dX11_leastCost_142 (by decide) ?_
  refine lv_istore (lv' := [(8, .int ((0 : Int32))), (0, .ref (ad x0)), (2, .int x2), (3, .int x3), (4, .long x4), (6, .int x6), (7, .int x7)]) hx hb dX11_leastCost_143 hl (by decide) rfl (fun ls hl => ?_)
  refine w_X11_leastCost_L145 X aw_FU hf  (fun d_34 hf H locs ls hl G => ?_) (lv_sub hl [1, 2, 3, 4, 5, 6, 0] rfl) G
  refine lv_iinc (v := x3 + 1) (lv' := [(3, .int (x3 + 1)), (0, .ref (ad x0)), (2, .int x2)]) hx hb dX11_leastCost_247 hl (k := 2) rfl rfl (by decide) rfl (fun ls hl => ?_)
  refine lv_goto (tgt := 52) hx hb dX11_leastCost_250 (by decide) ?_
  exact hkb52 _ _ hf _ _ _ (lv_sub hl [1, 2, 0] rfl) G
set_option maxHeartbeats 4000000 in
set_option maxRecDepth 100000 in
theorem w_X11_leastCost_B52 {z : Int32 × Dt} (X : aw_X p c cX11_leastCost 10 s RX11 m meth (some .int)) {kb52 : Int32 → Dt → Option (Int32 × Dt)} {k52 : Dt → Option (Int32 × Dt)} {x0 : Nat} {x2 : Int32} {x3 : Int32} {d : Dt} (hf : f_X11_leastCost_B52 σ kb52 k52 x0 x2 x3 d = some z) (hkb52 : ∀ (y3 : Int32) (d : Dt), kb52 y3 d = some z → ∀ (H : Heap) (locs : List Loc) (ls : Array Slot), lv_has ls 10 [(0, .ref (ad x0)), (2, .int x2), (3, .int y3)] → aw_G D cA base ad σ d s H locs → W p l e rm_X11_leastCost s m args below meth c H locs 0 0 (aw_Ei D cA base ad σ below args s z) (F0 m 52 ls [])) (hk52 : ∀ (d : Dt), k52 d = some z → ∀ (H : Heap) (locs : List Loc) (ls : Array Slot), lv_has ls 10 [(0, .ref (ad x0)), (2, .int x2)] → aw_G D cA base ad σ d s H locs → W p l e rm_X11_leastCost s m args below meth c H locs 0 0 (aw_Ei D cA base ad σ below args s z) (F0 m 253 ls [])) {H : Heap} {locs : List Loc} {ls : Array Slot} (hl : lv_has ls 10 [(0, .ref (ad x0)), (2, .int x2), (3, .int x3)]) (G : aw_G D cA base ad σ d s H locs) : W p l e rm_X11_leastCost s m args below meth c H locs 0 0 (aw_Ei D cA base ad σ below args s z) (F0 m 52 ls []) := by
  have hx := X.1; have hb := X.2.1; have hml := X.2.2.1; have hown := X.2.2.2.1
  unfold f_X11_leastCost_B52 at hf
  refine lv_iload_n hx hb dX11_leastCost_52 rfl (lv_at hl 2 rfl) ?_
  refine lv_iconst (v := (1 : Int32)) hx hb dX11_leastCost_53 (by decide) ?_
  refine lv_iload_n hx hb dX11_leastCost_54 rfl (lv_at hl 1 rfl) ?_
  refine lv_ishl hx hb dX11_leastCost_55 ?_
  refine lv_icmp_ge (tgt := 253) hx hb dX11_leastCost_56 (by decide) (fun hc => ?_) (fun hc => ?_)
  · have hf := aw_ite_t hc hf
    exact hk52 _ hf _ _ _ (lv_sub hl [0, 1] rfl) G
  · have hf := aw_ite_f hc hf
    refine lv_lconst (v := (0 : Int64)) hx hb dX11_leastCost_59 (by decide) ?_
    refine lv_lstore (lv' := [(4, .long ((0 : Int64))), (0, .ref (ad x0)), (2, .int x2), (3, .int x3)]) hx hb dX11_leastCost_60 hl (by decide) rfl (fun ls hl => ?_)
    refine lv_iconst (v := (0 : Int32)) hx hb dX11_leastCost_62 (by decide) ?_
    refine lv_istore (lv' := [(6, .int ((0 : Int32))), (4, .long ((0 : Int64))), (0, .ref (ad x0)), (2, .int x2), (3, .int x3)]) hx hb dX11_leastCost_63 hl (by decide) rfl (fun ls hl => ?_)
    refine lv_iconst (v := (0 : Int32)) hx hb dX11_leastCost_65 (by decide) ?_
    refine lv_istore (lv' := [(7, .int ((0 : Int32))), (6, .int ((0 : Int32))), (4, .long ((0 : Int64))), (0, .ref (ad x0)), (2, .int x2), (3, .int x3)]) hx hb dX11_leastCost_66 hl (by decide) rfl (fun ls hl => ?_)
    refine w_X11_leastCost_L68 X aw_FU hf  (fun x4_14 x6_15 d_16 hf H locs ls hl G => ?_) (lv_sub hl [3, 4, 5, 2, 1, 0] rfl) G
    refine lv_aload_n hx hb dX11_leastCost_119 rfl (lv_at hl 0 rfl) ?_
    refine lv_lload hx hb dX11_leastCost_120 (lv_at hl 3 rfl) ?_
    obtain ⟨hc_19, hf⟩ := aw_chk_some hf
    obtain ⟨z_17, hz_18, hf⟩ := aw_bind_some hf
    refine aw_VI (As := [.long x4_14]) (rest := []) X G hl.1 cr_X11_197 (c_X11_read l hz_18) ⟨rfl, rfl⟩ rfl rfl rfl (by decide) hc_19 rfl ⟨Nat.le_of_ble_eq_true rfl, Nat.le_of_ble_eq_true rfl⟩ (Nat.le_of_ble_eq_true rfl) dX11_leastCost_122 ⟨Nat.zero_le _, Nat.zero_le _⟩ (fun H locs G => ?_)
    refine lv_istore (lv' := [(7, .int z_17.1), (0, .ref (ad x0)), (2, .int x2), (3, .int x3), (4, .long x4_14), (6, .int x6_15)]) hx hb dX11_leastCost_125 hl (by decide) rfl (fun ls hl => ?_)
    refine lv_aload_n hx hb dX11_leastCost_127 rfl (lv_at hl 1 rfl) ?_
    obtain ⟨q_20, hq_21, hf⟩ := aw_bind_some hf
    refine gf_X11_90 hx hb G hown hc_19 hq_21 dX11_leastCost_128 ?_
    refine lv_iload_n hx hb dX11_leastCost_131 rfl (lv_at hl 3 rfl) ?_
    refine lv_iload_n hx hb dX11_leastCost_132 rfl (lv_at hl 3 rfl) ?_
    refine lv_if_ne (tgt := 140) hx hb dX11_leastCost_133 (by decide) (fun hc => ?_) (fun hc => ?_)
    · have hf := aw_ite_f hc hf
      refine lv_iconst (v := (-1 : Int32)) hx hb dX11_leastCost_140 (by decide) ?_
      exact w_X11_leastCost_J141 X hf hkb52 (lv_sub hl [1, 2, 3, 4, 5, 0] rfl) G
    · have hf := aw_ite_t hc hf
      refine lv_iconst (v := (0 : Int32)) hx hb dX11_leastCost_136 (by decide) ?_
      refine lv_goto (tgt := 141) hx hb dX11_leastCost_137 (by decide) ?_
      exact w_X11_leastCost_J141 X hf hkb52 (lv_sub hl [1, 2, 3, 4, 5, 0] rfl) G
theorem w_X11_leastCost_L52 {z : Int32 × Dt} (X : aw_X p c cX11_leastCost 10 s RX11 m meth (some .int)) {k52 : Dt → Option (Int32 × Dt)} {x0 : Nat} {x2 : Int32} (n : Nat) {x3 : Int32} {d : Dt} (hf : f_X11_leastCost_L52 σ n k52 x0 x2 x3 d = some z) (hk52 : ∀ (d : Dt), k52 d = some z → ∀ (H : Heap) (locs : List Loc) (ls : Array Slot), lv_has ls 10 [(0, .ref (ad x0)), (2, .int x2)] → aw_G D cA base ad σ d s H locs → W p l e rm_X11_leastCost s m args below meth c H locs 0 0 (aw_Ei D cA base ad σ below args s z) (F0 m 253 ls [])) {H : Heap} {locs : List Loc} {ls : Array Slot} (hl : lv_has ls 10 [(0, .ref (ad x0)), (2, .int x2), (3, .int x3)]) (G : aw_G D cA base ad σ d s H locs) : W p l e rm_X11_leastCost s m args below meth c H locs 0 0 (aw_Ei D cA base ad σ below args s z) (F0 m 52 ls []) := by
  induction n generalizing x3 d H locs ls with
  | zero => exact absurd (show (none : Option (Int32 × Dt)) = some z from hf) (by simp)
  | succ n ih => exact w_X11_leastCost_B52 X (kb52 := f_X11_leastCost_L52 σ n k52 x0 x2) hf  (fun x3 d hf H locs ls hl G => ih hf hl G) hk52 hl G
set_option maxHeartbeats 4000000 in
set_option maxRecDepth 100000 in
theorem w_X11_leastCost_J42 {z : Int32 × Dt} (X : aw_X p c cX11_leastCost 10 s RX11 m meth (some .int)) {t1 : Int32} {t0 : Nat} {x0 : Nat} {x2 : Int32} {d : Dt} (hf : f_X11_leastCost_J42 σ t1 t0 x0 x2 d = some z)  {H : Heap} {locs : List Loc} {ls : Array Slot} (hl : lv_has ls 10 [(0, .ref (ad x0)), (2, .int x2)]) (G : aw_G D cA base ad σ d s H locs) : W p l e rm_X11_leastCost s m args below meth c H locs 0 0 (aw_Ei D cA base ad σ below args s z) (F0 m 42 ls [.int t1, .ref (ad t0)]) := by
  have hx := X.1; have hb := X.2.1; have hml := X.2.2.1; have hown := X.2.2.2.1
  unfold f_X11_leastCost_J42 at hf
  obtain ⟨hc_9, hf⟩ := aw_chk_some hf
  obtain ⟨z_7, hz_8, hf⟩ := aw_bind_some hf
  refine aw_VI (As := [.int t1]) (rest := []) X G hl.1 cr_X11_113 (c_X11_fails l hz_8) ⟨rfl, rfl⟩ rfl rfl rfl (by decide) hc_9 rfl ⟨Nat.le_of_ble_eq_true rfl, Nat.le_of_ble_eq_true rfl⟩ (Nat.le_of_ble_eq_true rfl) dX11_leastCost_42 ⟨Nat.zero_le _, Nat.zero_le _⟩ (fun H locs G => ?_)
  refine lv_if_eq (tgt := 50) hx hb dX11_leastCost_45 (by decide) (fun hc => ?_) (fun hc => ?_)
  · have hf := aw_ite_t hc hf
    refine lv_iconst (v := (0 : Int32)) hx hb dX11_leastCost_50 (by decide) ?_
    refine lv_istore_n (lv' := [(3, .int ((0 : Int32))), (0, .ref (ad x0)), (2, .int x2)]) hx hb dX11_leastCost_51 rfl hl (by decide) rfl (fun ls hl => ?_)
    refine w_X11_leastCost_L52 X aw_FU hf  (fun d_35 hf H locs ls hl G => ?_) (lv_sub hl [1, 2, 0] rfl) G
    refine lv_aload_n hx hb dX11_leastCost_253 rfl (lv_at hl 0 rfl) ?_
    obtain ⟨hc_36, hf⟩ := aw_chk_some hf
    obtain ⟨q_37, hq_38, hf⟩ := aw_bind_some hf
    refine gf_X11_90 hx hb G hown hc_36 hq_38 dX11_leastCost_254 ?_
    refine lv_iconst (v := (1 : Int32)) hx hb dX11_leastCost_257 (by decide) ?_
    refine lv_iload_n hx hb dX11_leastCost_258 rfl (lv_at hl 1 rfl) ?_
    refine lv_ishl hx hb dX11_leastCost_259 ?_
    refine lv_iconst (v := (1 : Int32)) hx hb dX11_leastCost_260 (by decide) ?_
    refine lv_isub hx hb dX11_leastCost_261 ?_
    obtain ⟨hc_39, hf⟩ := aw_chk_some hf
    refine aw_ial hx hb G hc_39 dX11_leastCost_262 ?_
    exact aw_reti X G hf dX11_leastCost_263
  · have hf := aw_ite_f hc hf
    refine lv_iconst (v := (0 : Int32)) hx hb dX11_leastCost_48 (by decide) ?_
    exact aw_reti X G hf dX11_leastCost_49
set_option maxHeartbeats 4000000 in
set_option maxRecDepth 100000 in
theorem w_X11_leastCost_J17 {z : Int32 × Dt} (X : aw_X p c cX11_leastCost 10 s RX11 m meth (some .int)) {t0 : Int32} {x0 : Nat} {x1 : Int32} {d : Dt} (hf : f_X11_leastCost_J17 σ t0 x0 x1 d = some z)  {H : Heap} {locs : List Loc} {ls : Array Slot} (hl : lv_has ls 10 [(0, .ref (ad x0)), (1, .int x1)]) (G : aw_G D cA base ad σ d s H locs) : W p l e rm_X11_leastCost s m args below meth c H locs 0 0 (aw_Ei D cA base ad σ below args s z) (F0 m 17 ls [.int t0]) := by
  have hx := X.1; have hb := X.2.1; have hml := X.2.2.1; have hown := X.2.2.2.1
  unfold f_X11_leastCost_J17 at hf
  refine lv_istore_n (lv' := [(2, .int t0), (0, .ref (ad x0)), (1, .int x1)]) hx hb dX11_leastCost_17 rfl hl (by decide) rfl (fun ls hl => ?_)
  refine lv_aload_n hx hb dX11_leastCost_18 rfl (lv_at hl 1 rfl) ?_
  refine lv_aload_n hx hb dX11_leastCost_19 rfl (lv_at hl 1 rfl) ?_
  refine lv_iload_n hx hb dX11_leastCost_20 rfl (lv_at hl 2 rfl) ?_
  obtain ⟨hc_6, hf⟩ := aw_chk_some hf
  obtain ⟨z_4, hz_5, hf⟩ := aw_bind_some hf
  refine aw_VI (As := [.int x1]) (rest := [.ref (ad x0)]) X G hl.1 cr_X11_146 (c_X11_isDesign l hz_5) ⟨rfl, rfl⟩ rfl rfl rfl (by decide) hc_6 rfl ⟨Nat.le_of_ble_eq_true rfl, Nat.le_of_ble_eq_true rfl⟩ (Nat.le_of_ble_eq_true rfl) dX11_leastCost_21 ⟨Nat.zero_le _, Nat.zero_le _⟩ (fun H locs G => ?_)
  refine lv_if_ne (tgt := 31) hx hb dX11_leastCost_24 (by decide) (fun hc => ?_) (fun hc => ?_)
  · have hf := aw_ite_f hc hf
    refine lv_iload_n hx hb dX11_leastCost_31 rfl (lv_at hl 0 rfl) ?_
    refine lv_bipush (v := (10 : Int32)) hx hb dX11_leastCost_32 (by decide) ?_
    refine lv_icmp_le (tgt := 41) hx hb dX11_leastCost_34 (by decide) (fun hc => ?_) (fun hc => ?_)
    · have hf := aw_ite_t hc hf
      refine lv_iconst (v := (0 : Int32)) hx hb dX11_leastCost_41 (by decide) ?_
      exact w_X11_leastCost_J42 X hf  (lv_sub hl [1, 0] rfl) G
    · have hf := aw_ite_f hc hf
      refine lv_iconst (v := (2 : Int32)) hx hb dX11_leastCost_37 (by decide) ?_
      refine lv_goto (tgt := 42) hx hb dX11_leastCost_38 (by decide) ?_
      exact w_X11_leastCost_J42 X hf  (lv_sub hl [1, 0] rfl) G
  · have hf := aw_ite_t hc hf
    refine lv_iconst (v := (1 : Int32)) hx hb dX11_leastCost_27 (by decide) ?_
    refine lv_goto (tgt := 42) hx hb dX11_leastCost_28 (by decide) ?_
    exact w_X11_leastCost_J42 X hf  (lv_sub hl [1, 0] rfl) G
end W_X11_leastCost
set_option maxHeartbeats 4000000 in
set_option maxRecDepth 100000 in
theorem c_X11_leastCost (l : Launch) {σ : Sg} {x0 : Nat} {x1 : Int32} {d : Dt} {z : Int32 × Dt} (hf : f_X11_leastCost σ x0 x1 d = some z) : aw_Mi l yX11_leastCost (Cond.code yX11_leastCost cX11_leastCost 10 (some .int)) rm_X11_leastCost (fun ad => [.ref (ad x0), .int x1]) σ d z := by
  intro D cA base ad
  refine aw_ofW (own := RX11) (cc := cX11_leastCost) (nL := 10) (ret := some .int) (by decide) rfl rfl ?_
  intro p e s m below meth c X hnm G
  have hx := X.1; have hb := X.2.1; have hml := X.2.2.1; have hown := X.2.2.2.1
  refine aw_ls (lv := [(0, .ref (ad x0)), (1, .int x1)]) (Nat.le_of_ble_eq_true rfl) rfl (fun ls hl => ?_)
  unfold f_X11_leastCost at hf
  refine lv_aload_n hx hb dX11_leastCost_0 rfl (lv_at hl 0 rfl) ?_
  refine lv_iload_n hx hb dX11_leastCost_1 rfl (lv_at hl 1 rfl) ?_
  obtain ⟨hc_3, hf⟩ := aw_chk_some hf
  obtain ⟨z_1, hz_2, hf⟩ := aw_bind_some hf
  refine aw_VI (As := [.int x1]) (rest := []) X G hl.1 cr_X11_146 (c_X11_isDesign l hz_2) ⟨rfl, rfl⟩ rfl rfl rfl (by decide) hc_3 rfl ⟨Nat.le_of_ble_eq_true rfl, Nat.le_of_ble_eq_true rfl⟩ (Nat.le_of_ble_eq_true rfl) dX11_leastCost_2 ⟨Nat.zero_le _, Nat.zero_le _⟩ (fun H locs G => ?_)
  refine lv_if_eq (tgt := 16) hx hb dX11_leastCost_5 (by decide) (fun hc => ?_) (fun hc => ?_)
  · have hf := aw_ite_t hc hf
    refine lv_iconst (v := (0 : Int32)) hx hb dX11_leastCost_16 (by decide) ?_
    exact w_X11_leastCost_J17 X hf  (lv_sub hl [0, 1] rfl) G
  · have hf := aw_ite_f hc hf
    refine lv_aload_n hx hb dX11_leastCost_8 rfl (lv_at hl 0 rfl) ?_
    refine lv_iload_n hx hb dX11_leastCost_9 rfl (lv_at hl 1 rfl) ?_
    obtain ⟨z_40, hz_41, hf⟩ := aw_bind_some hf
    refine aw_VI (As := [.int x1]) (rest := []) X G hl.1 cr_X11_194 (c_X11_uses l hz_41) ⟨rfl, rfl⟩ rfl rfl rfl (by decide) hc_3 rfl ⟨Nat.le_of_ble_eq_true rfl, Nat.le_of_ble_eq_true rfl⟩ (Nat.le_of_ble_eq_true rfl) dX11_leastCost_10 ⟨Nat.zero_le _, Nat.zero_le _⟩ (fun H locs G => ?_)
    refine lv_goto (tgt := 17) hx hb dX11_leastCost_13 (by decide) ?_
    exact w_X11_leastCost_J17 X hf  (lv_sub hl [0, 1] rfl) G
def rm_X11_key : Room := { frames := 2, cells := 0, slots := 0, locals := 43 }
def f_X11_key_J96 (σ : Sg) (kb55 : Int32 → Dt → Option (Int32 × Dt)) (t2 : Int32) (t1 : Int32) (t0 : Nat) (x0 : Nat) (x1 : Int32) (x2 : Int32) (x3 : Int32) (x4 : Int32) (x5 : Int32) (d : Dt) : Option (Int32 × Dt) :=
  aw_chk (aw_I σ 20 t0 t1) (kb55 (x5 + 1) (aw_sI d t0 t1.toNatClampNeg t2))
def f_X11_key_B55 (σ : Sg) (kb55 : Int32 → Dt → Option (Int32 × Dt)) (k55 : Dt → Option (Int32 × Dt)) (x0 : Nat) (x1 : Int32) (x2 : Int32) (x3 : Int32) (x4 : Int32) (x5 : Int32) (d : Dt) : Option (Int32 × Dt) :=
  if ((((50 : Int32)) * x1) + ((50 : Int32))) ≤ x5 then k55 d else aw_chk (aw_O σ 11 32 x0) ((σ.2.2 x0 16).bind (fun q_12 => aw_chk (aw_I σ 20 q_12 x5) (if (d.1 q_12 x5.toNatClampNeg) = x3 then f_X11_key_J96 σ kb55 x4 x5 q_12 x0 x1 x2 x3 x4 x5 d else f_X11_key_J96 σ kb55 (d.1 q_12 x5.toNatClampNeg) x5 q_12 x0 x1 x2 x3 x4 x5 d)))
def f_X11_key_L55 (σ : Sg) (n : Nat) (k55 : Dt → Option (Int32 × Dt)) (x0 : Nat) (x1 : Int32) (x2 : Int32) (x3 : Int32) (x4 : Int32) : Int32 → Dt → Option (Int32 × Dt) := match n with
  | 0 => fun _ _ => none
  | n + 1 => fun x5 d => f_X11_key_B55 σ (f_X11_key_L55 σ n k55 x0 x1 x2 x3 x4) k55 x0 x1 x2 x3 x4 x5 d
def f_X11_key_J28 (σ : Sg) (t1 : Int32) (t0 : Nat) (x0 : Nat) (x1 : Int32) (x2 : Int32) (x3 : Int32) (d : Dt) : Option (Int32 × Dt) :=
  aw_chk (aw_O σ 11 32 t0) ((f_X11_fails σ t0 t1 d).bind (fun z_4 => if z_4.1 = 0 then aw_chk (aw_O σ 11 32 x0) ((σ.2.2 x0 16).bind (fun q_8 => aw_chk (aw_I σ 20 q_8 ((((50 : Int32)) * x1) + x2)) (f_X11_key_L55 σ aw_FU (fun d_16 => some (z_4.2.1 q_8 ((((50 : Int32)) * x1) + x2).toNatClampNeg, aw_sI d_16 q_8 ((((50 : Int32)) * x1) + x2).toNatClampNeg x3)) x0 x1 x2 x3 (z_4.2.1 q_8 ((((50 : Int32)) * x1) + x2).toNatClampNeg) (((50 : Int32)) * x1) z_4.2))) else some ((0 : Int32), z_4.2)))
def f_X11_key_J27 (σ : Sg) (t0 : Nat) (x0 : Nat) (x1 : Int32) (x2 : Int32) (x3 : Int32) (d : Dt) : Option (Int32 × Dt) :=
  f_X11_key_J28 σ ((1 : Int32)) t0 x0 x1 x2 x3 d
def f_X11_key (σ : Sg) (x0 : Nat) (x1 : Int32) (x2 : Int32) (x3 : Int32) (d : Dt) : Option (Int32 × Dt) :=
  aw_chk (aw_O σ 11 32 x0) ((f_X11_isDesign σ x0 x1 d).bind (fun z_1 => if z_1.1 = 0 then f_X11_key_J27 σ x0 x0 x1 x2 x3 z_1.2 else (f_X11_isSign σ x2 z_1.2).bind (fun z_17 => if z_17.1 = 0 then f_X11_key_J27 σ x0 x0 x1 x2 x3 z_17.2 else (f_X11_isSign σ x3 z_17.2).bind (fun z_19 => if z_19.1 = 0 then f_X11_key_J27 σ x0 x0 x1 x2 x3 z_19.2 else f_X11_key_J28 σ ((0 : Int32)) x0 x0 x1 x2 x3 z_19.2))))
section W_X11_key
variable {p : Program} {l : Launch} {e : Env} {s : State} {m : MethodId} {args : Array Value} {below : List Frame} {meth : Method} {c : Code}
variable {D : va_G} {cA : Nat → ClassId} {base : Nat} {ad : Nat → Nat} {σ : Sg}
set_option maxHeartbeats 4000000 in
set_option maxRecDepth 100000 in
theorem w_X11_key_J96 {z : Int32 × Dt} (X : aw_X p c cX11_key 6 s RX11 m meth (some .int)) {kb55 : Int32 → Dt → Option (Int32 × Dt)} {t2 : Int32} {t1 : Int32} {t0 : Nat} {x0 : Nat} {x1 : Int32} {x2 : Int32} {x3 : Int32} {x4 : Int32} {x5 : Int32} {d : Dt} (hf : f_X11_key_J96 σ kb55 t2 t1 t0 x0 x1 x2 x3 x4 x5 d = some z) (hkb55 : ∀ (y5 : Int32) (d : Dt), kb55 y5 d = some z → ∀ (H : Heap) (locs : List Loc) (ls : Array Slot), lv_has ls 6 [(0, .ref (ad x0)), (1, .int x1), (2, .int x2), (3, .int x3), (4, .int x4), (5, .int y5)] → aw_G D cA base ad σ d s H locs → W p l e rm_X11_key s m args below meth c H locs 0 0 (aw_Ei D cA base ad σ below args s z) (F0 m 55 ls [])) {H : Heap} {locs : List Loc} {ls : Array Slot} (hl : lv_has ls 6 [(0, .ref (ad x0)), (1, .int x1), (2, .int x2), (3, .int x3), (4, .int x4), (5, .int x5)]) (G : aw_G D cA base ad σ d s H locs) : W p l e rm_X11_key s m args below meth c H locs 0 0 (aw_Ei D cA base ad σ below args s z) (F0 m 96 ls [.int t2, .int t1, .ref (ad t0)]) := by
  have hx := X.1; have hb := X.2.1; have hml := X.2.2.1; have hown := X.2.2.2.1
  unfold f_X11_key_J96 at hf
  obtain ⟨hc_15, hf⟩ := aw_chk_some hf
  refine aw_ias hx hb G hc_15 dX11_key_96 (fun H locs G => ?_)
  refine lv_iinc (v := x5 + 1) (lv' := [(5, .int (x5 + 1)), (0, .ref (ad x0)), (1, .int x1), (2, .int x2), (3, .int x3), (4, .int x4)]) hx hb dX11_key_97 hl (k := 5) rfl rfl (by decide) rfl (fun ls hl => ?_)
  refine lv_goto (tgt := 55) hx hb dX11_key_100 (by decide) ?_
  exact hkb55 _ _ hf _ _ _ (lv_sub hl [1, 2, 3, 4, 5, 0] rfl) G
set_option maxHeartbeats 4000000 in
set_option maxRecDepth 100000 in
theorem w_X11_key_B55 {z : Int32 × Dt} (X : aw_X p c cX11_key 6 s RX11 m meth (some .int)) {kb55 : Int32 → Dt → Option (Int32 × Dt)} {k55 : Dt → Option (Int32 × Dt)} {x0 : Nat} {x1 : Int32} {x2 : Int32} {x3 : Int32} {x4 : Int32} {x5 : Int32} {d : Dt} (hf : f_X11_key_B55 σ kb55 k55 x0 x1 x2 x3 x4 x5 d = some z) (hkb55 : ∀ (y5 : Int32) (d : Dt), kb55 y5 d = some z → ∀ (H : Heap) (locs : List Loc) (ls : Array Slot), lv_has ls 6 [(0, .ref (ad x0)), (1, .int x1), (2, .int x2), (3, .int x3), (4, .int x4), (5, .int y5)] → aw_G D cA base ad σ d s H locs → W p l e rm_X11_key s m args below meth c H locs 0 0 (aw_Ei D cA base ad σ below args s z) (F0 m 55 ls [])) (hk55 : ∀ (d : Dt), k55 d = some z → ∀ (H : Heap) (locs : List Loc) (ls : Array Slot), lv_has ls 6 [(0, .ref (ad x0)), (1, .int x1), (2, .int x2), (3, .int x3), (4, .int x4)] → aw_G D cA base ad σ d s H locs → W p l e rm_X11_key s m args below meth c H locs 0 0 (aw_Ei D cA base ad σ below args s z) (F0 m 103 ls [])) {H : Heap} {locs : List Loc} {ls : Array Slot} (hl : lv_has ls 6 [(0, .ref (ad x0)), (1, .int x1), (2, .int x2), (3, .int x3), (4, .int x4), (5, .int x5)]) (G : aw_G D cA base ad σ d s H locs) : W p l e rm_X11_key s m args below meth c H locs 0 0 (aw_Ei D cA base ad σ below args s z) (F0 m 55 ls []) := by
  have hx := X.1; have hb := X.2.1; have hml := X.2.2.1; have hown := X.2.2.2.1
  unfold f_X11_key_B55 at hf
  refine lv_iload hx hb dX11_key_55 (lv_at hl 5 rfl) ?_
  refine lv_bipush (v := (50 : Int32)) hx hb dX11_key_57 (by decide) ?_
  refine lv_iload_n hx hb dX11_key_59 rfl (lv_at hl 1 rfl) ?_
  refine lv_imul hx hb dX11_key_60 ?_
  refine lv_bipush (v := (50 : Int32)) hx hb dX11_key_61 (by decide) ?_
  refine lv_iadd hx hb dX11_key_63 ?_
  refine lv_icmp_ge (tgt := 103) hx hb dX11_key_64 (by decide) (fun hc => ?_) (fun hc => ?_)
  · have hf := aw_ite_t hc hf
    exact hk55 _ hf _ _ _ (lv_sub hl [0, 1, 2, 3, 4] rfl) G
  · have hf := aw_ite_f hc hf
    refine lv_aload_n hx hb dX11_key_67 rfl (lv_at hl 0 rfl) ?_
    obtain ⟨hc_11, hf⟩ := aw_chk_some hf
    obtain ⟨q_12, hq_13, hf⟩ := aw_bind_some hf
    refine gf_X11_50 hx hb G hown hc_11 hq_13 dX11_key_68 ?_
    refine lv_iload hx hb dX11_key_71 (lv_at hl 5 rfl) ?_
    refine lv_aload_n hx hb dX11_key_73 rfl (lv_at hl 0 rfl) ?_
    refine gf_X11_50 hx hb G hown hc_11 hq_13 dX11_key_74 ?_
    refine lv_iload hx hb dX11_key_77 (lv_at hl 5 rfl) ?_
    obtain ⟨hc_14, hf⟩ := aw_chk_some hf
    refine aw_ial hx hb G hc_14 dX11_key_79 ?_
    refine lv_iload_n hx hb dX11_key_80 rfl (lv_at hl 3 rfl) ?_
    refine lv_icmp_ne (tgt := 89) hx hb dX11_key_81 (by decide) (fun hc => ?_) (fun hc => ?_)
    · have hf := aw_ite_f hc hf
      refine lv_aload_n hx hb dX11_key_89 rfl (lv_at hl 0 rfl) ?_
      refine gf_X11_50 hx hb G hown hc_11 hq_13 dX11_key_90 ?_
      refine lv_iload hx hb dX11_key_93 (lv_at hl 5 rfl) ?_
      refine aw_ial hx hb G hc_14 dX11_key_95 ?_
      exact w_X11_key_J96 X hf hkb55 (lv_sub hl [0, 1, 2, 3, 4, 5] rfl) G
    · have hf := aw_ite_t hc hf
      refine lv_iload hx hb dX11_key_84 (lv_at hl 4 rfl) ?_
      refine lv_goto (tgt := 96) hx hb dX11_key_86 (by decide) ?_
      exact w_X11_key_J96 X hf hkb55 (lv_sub hl [0, 1, 2, 3, 4, 5] rfl) G
theorem w_X11_key_L55 {z : Int32 × Dt} (X : aw_X p c cX11_key 6 s RX11 m meth (some .int)) {k55 : Dt → Option (Int32 × Dt)} {x0 : Nat} {x1 : Int32} {x2 : Int32} {x3 : Int32} {x4 : Int32} (n : Nat) {x5 : Int32} {d : Dt} (hf : f_X11_key_L55 σ n k55 x0 x1 x2 x3 x4 x5 d = some z) (hk55 : ∀ (d : Dt), k55 d = some z → ∀ (H : Heap) (locs : List Loc) (ls : Array Slot), lv_has ls 6 [(0, .ref (ad x0)), (1, .int x1), (2, .int x2), (3, .int x3), (4, .int x4)] → aw_G D cA base ad σ d s H locs → W p l e rm_X11_key s m args below meth c H locs 0 0 (aw_Ei D cA base ad σ below args s z) (F0 m 103 ls [])) {H : Heap} {locs : List Loc} {ls : Array Slot} (hl : lv_has ls 6 [(0, .ref (ad x0)), (1, .int x1), (2, .int x2), (3, .int x3), (4, .int x4), (5, .int x5)]) (G : aw_G D cA base ad σ d s H locs) : W p l e rm_X11_key s m args below meth c H locs 0 0 (aw_Ei D cA base ad σ below args s z) (F0 m 55 ls []) := by
  induction n generalizing x5 d H locs ls with
  | zero => exact absurd (show (none : Option (Int32 × Dt)) = some z from hf) (by simp)
  | succ n ih => exact w_X11_key_B55 X (kb55 := f_X11_key_L55 σ n k55 x0 x1 x2 x3 x4) hf  (fun x5 d hf H locs ls hl G => ih hf hl G) hk55 hl G
set_option maxHeartbeats 4000000 in
set_option maxRecDepth 100000 in
theorem w_X11_key_J28 {z : Int32 × Dt} (X : aw_X p c cX11_key 6 s RX11 m meth (some .int)) {t1 : Int32} {t0 : Nat} {x0 : Nat} {x1 : Int32} {x2 : Int32} {x3 : Int32} {d : Dt} (hf : f_X11_key_J28 σ t1 t0 x0 x1 x2 x3 d = some z)  {H : Heap} {locs : List Loc} {ls : Array Slot} (hl : lv_has ls 6 [(0, .ref (ad x0)), (1, .int x1), (2, .int x2), (3, .int x3)]) (G : aw_G D cA base ad σ d s H locs) : W p l e rm_X11_key s m args below meth c H locs 0 0 (aw_Ei D cA base ad σ below args s z) (F0 m 28 ls [.int t1, .ref (ad t0)]) := by
  have hx := X.1; have hb := X.2.1; have hml := X.2.2.1; have hown := X.2.2.2.1
  unfold f_X11_key_J28 at hf
  obtain ⟨hc_6, hf⟩ := aw_chk_some hf
  obtain ⟨z_4, hz_5, hf⟩ := aw_bind_some hf
  refine aw_VI (As := [.int t1]) (rest := []) X G hl.1 cr_X11_113 (c_X11_fails l hz_5) ⟨rfl, rfl⟩ rfl rfl rfl (by decide) hc_6 rfl ⟨Nat.le_of_ble_eq_true rfl, Nat.le_of_ble_eq_true rfl⟩ (Nat.le_of_ble_eq_true rfl) dX11_key_28 ⟨Nat.zero_le _, Nat.zero_le _⟩ (fun H locs G => ?_)
  refine lv_if_eq (tgt := 36) hx hb dX11_key_31 (by decide) (fun hc => ?_) (fun hc => ?_)
  · have hf := aw_ite_t hc hf
    refine lv_aload_n hx hb dX11_key_36 rfl (lv_at hl 0 rfl) ?_
    obtain ⟨hc_7, hf⟩ := aw_chk_some hf
    obtain ⟨q_8, hq_9, hf⟩ := aw_bind_some hf
    refine gf_X11_50 hx hb G hown hc_7 hq_9 dX11_key_37 ?_
    refine lv_bipush (v := (50 : Int32)) hx hb dX11_key_40 (by decide) ?_
    refine lv_iload_n hx hb dX11_key_42 rfl (lv_at hl 1 rfl) ?_
    refine lv_imul hx hb dX11_key_43 ?_
    refine lv_iload_n hx hb dX11_key_44 rfl (lv_at hl 2 rfl) ?_
    refine lv_iadd hx hb dX11_key_45 ?_
    obtain ⟨hc_10, hf⟩ := aw_chk_some hf
    refine aw_ial hx hb G hc_10 dX11_key_46 ?_
    refine lv_istore (lv' := [(4, .int (z_4.2.1 q_8 ((((50 : Int32)) * x1) + x2).toNatClampNeg)), (0, .ref (ad x0)), (1, .int x1), (2, .int x2), (3, .int x3)]) hx hb dX11_key_47 hl (by decide) rfl (fun ls hl => ?_)
    refine lv_bipush (v := (50 : Int32)) hx hb dX11_key_49 (by decide) ?_
    refine lv_iload_n hx hb dX11_key_51 rfl (lv_at hl 2 rfl) ?_
    refine lv_imul hx hb dX11_key_52 ?_
    refine lv_istore (lv' := [(5, .int (((50 : Int32)) * x1)), (4, .int (z_4.2.1 q_8 ((((50 : Int32)) * x1) + x2).toNatClampNeg)), (0, .ref (ad x0)), (1, .int x1), (2, .int x2), (3, .int x3)]) hx hb dX11_key_53 hl (by decide) rfl (fun ls hl => ?_)
    refine w_X11_key_L55 X aw_FU hf  (fun d_16 hf H locs ls hl G => ?_) (lv_sub hl [2, 3, 4, 5, 1, 0] rfl) G
    refine lv_aload_n hx hb dX11_key_103 rfl (lv_at hl 0 rfl) ?_
    refine gf_X11_50 hx hb G hown hc_7 hq_9 dX11_key_104 ?_
    refine lv_bipush (v := (50 : Int32)) hx hb dX11_key_107 (by decide) ?_
    refine lv_iload_n hx hb dX11_key_109 rfl (lv_at hl 1 rfl) ?_
    refine lv_imul hx hb dX11_key_110 ?_
    refine lv_iload_n hx hb dX11_key_111 rfl (lv_at hl 2 rfl) ?_
    refine lv_iadd hx hb dX11_key_112 ?_
    refine lv_iload_n hx hb dX11_key_113 rfl (lv_at hl 3 rfl) ?_
    refine aw_ias hx hb G hc_10 dX11_key_114 (fun H locs G => ?_)
    refine lv_iload hx hb dX11_key_115 (lv_at hl 4 rfl) ?_
    exact aw_reti X G hf dX11_key_117
  · have hf := aw_ite_f hc hf
    refine lv_iconst (v := (0 : Int32)) hx hb dX11_key_34 (by decide) ?_
    exact aw_reti X G hf dX11_key_35
set_option maxHeartbeats 4000000 in
set_option maxRecDepth 100000 in
theorem w_X11_key_J27 {z : Int32 × Dt} (X : aw_X p c cX11_key 6 s RX11 m meth (some .int)) {t0 : Nat} {x0 : Nat} {x1 : Int32} {x2 : Int32} {x3 : Int32} {d : Dt} (hf : f_X11_key_J27 σ t0 x0 x1 x2 x3 d = some z)  {H : Heap} {locs : List Loc} {ls : Array Slot} (hl : lv_has ls 6 [(0, .ref (ad x0)), (1, .int x1), (2, .int x2), (3, .int x3)]) (G : aw_G D cA base ad σ d s H locs) : W p l e rm_X11_key s m args below meth c H locs 0 0 (aw_Ei D cA base ad σ below args s z) (F0 m 27 ls [.ref (ad t0)]) := by
  have hx := X.1; have hb := X.2.1; have hml := X.2.2.1; have hown := X.2.2.2.1
  unfold f_X11_key_J27 at hf
  refine lv_iconst (v := (1 : Int32)) hx hb dX11_key_27 (by decide) ?_
  exact w_X11_key_J28 X hf  (lv_sub hl [0, 1, 2, 3] rfl) G
end W_X11_key
set_option maxHeartbeats 4000000 in
set_option maxRecDepth 100000 in
theorem c_X11_key (l : Launch) {σ : Sg} {x0 : Nat} {x1 : Int32} {x2 : Int32} {x3 : Int32} {d : Dt} {z : Int32 × Dt} (hf : f_X11_key σ x0 x1 x2 x3 d = some z) : aw_Mi l yX11_key (Cond.code yX11_key cX11_key 6 (some .int)) rm_X11_key (fun ad => [.ref (ad x0), .int x1, .int x2, .int x3]) σ d z := by
  intro D cA base ad
  refine aw_ofW (own := RX11) (cc := cX11_key) (nL := 6) (ret := some .int) (by decide) rfl rfl ?_
  intro p e s m below meth c X hnm G
  have hx := X.1; have hb := X.2.1; have hml := X.2.2.1; have hown := X.2.2.2.1
  refine aw_ls (lv := [(0, .ref (ad x0)), (1, .int x1), (2, .int x2), (3, .int x3)]) (Nat.le_of_ble_eq_true rfl) rfl (fun ls hl => ?_)
  unfold f_X11_key at hf
  refine lv_aload_n hx hb dX11_key_0 rfl (lv_at hl 0 rfl) ?_
  refine lv_aload_n hx hb dX11_key_1 rfl (lv_at hl 0 rfl) ?_
  refine lv_iload_n hx hb dX11_key_2 rfl (lv_at hl 1 rfl) ?_
  obtain ⟨hc_3, hf⟩ := aw_chk_some hf
  obtain ⟨z_1, hz_2, hf⟩ := aw_bind_some hf
  refine aw_VI (As := [.int x1]) (rest := [.ref (ad x0)]) X G hl.1 cr_X11_146 (c_X11_isDesign l hz_2) ⟨rfl, rfl⟩ rfl rfl rfl (by decide) hc_3 rfl ⟨Nat.le_of_ble_eq_true rfl, Nat.le_of_ble_eq_true rfl⟩ (Nat.le_of_ble_eq_true rfl) dX11_key_3 ⟨Nat.zero_le _, Nat.zero_le _⟩ (fun H locs G => ?_)
  refine lv_if_eq (tgt := 27) hx hb dX11_key_6 (by decide) (fun hc => ?_) (fun hc => ?_)
  · have hf := aw_ite_t hc hf
    exact w_X11_key_J27 X hf  (lv_sub hl [0, 1, 2, 3] rfl) G
  · have hf := aw_ite_f hc hf
    refine lv_iload_n hx hb dX11_key_9 rfl (lv_at hl 2 rfl) ?_
    obtain ⟨z_17, hz_18, hf⟩ := aw_bind_some hf
    refine aw_SI (As := [.int x2]) (rest := [.ref (ad x0)]) X G hl.1 cr_X11_149 (c_X11_isSign l hz_18) ⟨rfl, rfl⟩ rfl rfl rfl ⟨Nat.le_of_ble_eq_true rfl, Nat.le_of_ble_eq_true rfl⟩ (Nat.le_of_ble_eq_true rfl) dX11_key_10 ⟨Nat.zero_le _, Nat.zero_le _⟩ (fun H locs G => ?_)
    refine lv_if_eq (tgt := 27) hx hb dX11_key_13 (by decide) (fun hc => ?_) (fun hc => ?_)
    · have hf := aw_ite_t hc hf
      exact w_X11_key_J27 X hf  (lv_sub hl [0, 1, 2, 3] rfl) G
    · have hf := aw_ite_f hc hf
      refine lv_iload_n hx hb dX11_key_16 rfl (lv_at hl 3 rfl) ?_
      obtain ⟨z_19, hz_20, hf⟩ := aw_bind_some hf
      refine aw_SI (As := [.int x3]) (rest := [.ref (ad x0)]) X G hl.1 cr_X11_149 (c_X11_isSign l hz_20) ⟨rfl, rfl⟩ rfl rfl rfl ⟨Nat.le_of_ble_eq_true rfl, Nat.le_of_ble_eq_true rfl⟩ (Nat.le_of_ble_eq_true rfl) dX11_key_17 ⟨Nat.zero_le _, Nat.zero_le _⟩ (fun H locs G => ?_)
      refine lv_if_eq (tgt := 27) hx hb dX11_key_20 (by decide) (fun hc => ?_) (fun hc => ?_)
      · have hf := aw_ite_t hc hf
        exact w_X11_key_J27 X hf  (lv_sub hl [0, 1, 2, 3] rfl) G
      · have hf := aw_ite_f hc hf
        refine lv_iconst (v := (0 : Int32)) hx hb dX11_key_23 (by decide) ?_
        refine lv_goto (tgt := 28) hx hb dX11_key_24 (by decide) ?_
        exact w_X11_key_J28 X hf  (lv_sub hl [0, 1, 2, 3] rfl) G
