/-! X11_way X11_reform X11_lost -/
def rm_X11_way : Room := { frames := 1, cells := 0, slots := 0, locals := 21 }
def f_X11_way_B2 (σ : Sg) (kb2 : Int32 → Dt → Option (Int32 × Dt)) (k2 : Dt → Option (Int32 × Dt)) (x0 : Nat) (x1 : Int32) (x2 : Int32) (x3 : Int32) (d : Dt) : Option (Int32 × Dt) :=
  aw_chk (aw_O σ 11 32 x0) ((σ.2.2 x0 22).bind (fun q_2 => aw_chk (aw_I σ 20 q_2 x2) (if (d.1 q_2 x2.toNatClampNeg) < x3 then k2 d else (σ.2.2 x0 30).bind (fun q_5 => aw_chk (aw_I σ 20 q_5 x3) (kb2 (x3 + 1) (aw_sI d q_5 x3.toNatClampNeg x3))))))
def f_X11_way_L2 (σ : Sg) (n : Nat) (k2 : Dt → Option (Int32 × Dt)) (x0 : Nat) (x1 : Int32) (x2 : Int32) : Int32 → Dt → Option (Int32 × Dt) := match n with
  | 0 => fun _ _ => none
  | n + 1 => fun x3 d => f_X11_way_B2 σ (f_X11_way_L2 σ n k2 x0 x1 x2) k2 x0 x1 x2 x3 d
def f_X11_way_J112 (σ : Sg) (kb57 : Int32 → Int32 → Dt → Option (Int32 × Dt)) (t1 : Int32) (t0 : Int32) (x0 : Nat) (x1 : Int32) (x2 : Int32) (x3 : Int32) (x5 : Int32) (x6 : Int32) (d : Dt) : Option (Int32 × Dt) :=
  aw_chk (aw_O σ 11 32 x0) ((σ.2.2 x0 30).bind (fun q_28 => aw_chk (aw_I σ 20 q_28 (x5 - ((1 : Int32)))) ((f_X11_lesser σ x6 (d.1 q_28 (x5 - ((1 : Int32))).toNatClampNeg) d).bind (fun z_31 => (f_X11_lesser σ (t0 + t1) (z_31.1 + ((1 : Int32))) z_31.2).bind (fun z_33 => aw_chk (aw_I σ 20 q_28 x5) (kb57 x6 (x5 + 1) (aw_sI z_33.2 q_28 x5.toNatClampNeg z_33.1)))))))
def f_X11_way_B57 (σ : Sg) (kb57 : Int32 → Int32 → Dt → Option (Int32 × Dt)) (k57 : Dt → Option (Int32 × Dt)) (x0 : Nat) (x1 : Int32) (x2 : Int32) (x3 : Int32) (x4 : Int32) (x5 : Int32) (d : Dt) : Option (Int32 × Dt) :=
  aw_chk (aw_O σ 11 32 x0) ((σ.2.2 x0 22).bind (fun q_17 => aw_chk (aw_I σ 20 q_17 x2) (if (d.1 q_17 x2.toNatClampNeg) < x5 then k57 d else (σ.2.2 x0 30).bind (fun q_20 => aw_chk (aw_I σ 20 q_20 x5) ((σ.2.2 x0 21).bind (fun q_23 => aw_chk (aw_I σ 20 q_23 ((((16 : Int32)) * x1) + x3)) (aw_chk (aw_I σ 20 q_23 (((((16 : Int32)) * x2) + x5) - ((1 : Int32)))) (if (d.1 q_23 ((((16 : Int32)) * x1) + x3).toNatClampNeg) = (d.1 q_23 (((((16 : Int32)) * x2) + x5) - ((1 : Int32))).toNatClampNeg) then f_X11_way_J112 σ kb57 ((0 : Int32)) x4 x0 x1 x2 x3 x5 (d.1 q_20 x5.toNatClampNeg) d else f_X11_way_J112 σ kb57 ((1 : Int32)) x4 x0 x1 x2 x3 x5 (d.1 q_20 x5.toNatClampNeg) d))))))))
def f_X11_way_L57 (σ : Sg) (n : Nat) (k57 : Dt → Option (Int32 × Dt)) (x0 : Nat) (x1 : Int32) (x2 : Int32) (x3 : Int32) : Int32 → Int32 → Dt → Option (Int32 × Dt) := match n with
  | 0 => fun _ _ _ => none
  | n + 1 => fun x4 x5 d => f_X11_way_B57 σ (f_X11_way_L57 σ n k57 x0 x1 x2 x3) k57 x0 x1 x2 x3 x4 x5 d
def f_X11_way_B27 (σ : Sg) (kb27 : Int32 → Dt → Option (Int32 × Dt)) (k27 : Dt → Option (Int32 × Dt)) (x0 : Nat) (x1 : Int32) (x2 : Int32) (x3 : Int32) (d : Dt) : Option (Int32 × Dt) :=
  aw_chk (aw_O σ 11 32 x0) ((σ.2.2 x0 22).bind (fun q_10 => aw_chk (aw_I σ 20 q_10 x1) (if (d.1 q_10 x1.toNatClampNeg) ≤ x3 then k27 d else (σ.2.2 x0 30).bind (fun q_13 => aw_chk (aw_I σ 20 q_13 ((0 : Int32))) (f_X11_way_L57 σ aw_FU (fun d_36 => kb27 (x3 + 1) d_36) x0 x1 x2 x3 (d.1 q_13 ((0 : Int32)).toNatClampNeg) ((1 : Int32)) (aw_sI d q_13 ((0 : Int32)).toNatClampNeg (x3 + ((1 : Int32)))))))))
def f_X11_way_L27 (σ : Sg) (n : Nat) (k27 : Dt → Option (Int32 × Dt)) (x0 : Nat) (x1 : Int32) (x2 : Int32) : Int32 → Dt → Option (Int32 × Dt) := match n with
  | 0 => fun _ _ => none
  | n + 1 => fun x3 d => f_X11_way_B27 σ (f_X11_way_L27 σ n k27 x0 x1 x2) k27 x0 x1 x2 x3 d
def f_X11_way (σ : Sg) (x0 : Nat) (x1 : Int32) (x2 : Int32) (d : Dt) : Option (Int32 × Dt) :=
  f_X11_way_L2 σ aw_FU (fun d_8 => f_X11_way_L27 σ aw_FU (fun d_37 => aw_chk (aw_O σ 11 32 x0) ((σ.2.2 x0 30).bind (fun q_39 => (σ.2.2 x0 22).bind (fun q_41 => aw_chk (aw_I σ 20 q_41 x2) (aw_chk (aw_I σ 20 q_39 (d_37.1 q_41 x2.toNatClampNeg)) (some (d_37.1 q_39 (d_37.1 q_41 x2.toNatClampNeg).toNatClampNeg, d_37))))))) x0 x1 x2 ((0 : Int32)) d_8) x0 x1 x2 ((0 : Int32)) d
section W_X11_way
variable {p : Program} {l : Launch} {e : Env} {s : State} {m : MethodId} {args : Array Value} {below : List Frame} {meth : Method} {c : Code}
variable {D : va_G} {cA : Nat → ClassId} {base : Nat} {ad : Nat → Nat} {σ : Sg}
set_option maxHeartbeats 4000000 in
set_option maxRecDepth 100000 in
theorem w_X11_way_B2 {z : Int32 × Dt} (X : aw_X p c cX11_way 8 s RX11 m meth (some .int)) {kb2 : Int32 → Dt → Option (Int32 × Dt)} {k2 : Dt → Option (Int32 × Dt)} {x0 : Nat} {x1 : Int32} {x2 : Int32} {x3 : Int32} {d : Dt} (hf : f_X11_way_B2 σ kb2 k2 x0 x1 x2 x3 d = some z) (hkb2 : ∀ (y3 : Int32) (d : Dt), kb2 y3 d = some z → ∀ (H : Heap) (locs : List Loc) (ls : Array Slot), lv_has ls 8 [(0, .ref (ad x0)), (1, .int x1), (2, .int x2), (3, .int y3)] → aw_G D cA base ad σ d s H locs → W p l e rm_X11_way s m args below meth c H locs 0 0 (aw_Ei D cA base ad σ below args s z) (F0 m 2 ls [])) (hk2 : ∀ (d : Dt), k2 d = some z → ∀ (H : Heap) (locs : List Loc) (ls : Array Slot), lv_has ls 8 [(0, .ref (ad x0)), (1, .int x1), (2, .int x2)] → aw_G D cA base ad σ d s H locs → W p l e rm_X11_way s m args below meth c H locs 0 0 (aw_Ei D cA base ad σ below args s z) (F0 m 25 ls [])) {H : Heap} {locs : List Loc} {ls : Array Slot} (hl : lv_has ls 8 [(0, .ref (ad x0)), (1, .int x1), (2, .int x2), (3, .int x3)]) (G : aw_G D cA base ad σ d s H locs) : W p l e rm_X11_way s m args below meth c H locs 0 0 (aw_Ei D cA base ad σ below args s z) (F0 m 2 ls []) := by
  have hx := X.1; have hb := X.2.1; have hml := X.2.2.1; have hown := X.2.2.2.1
  unfold f_X11_way_B2 at hf
  refine lv_iload_n hx hb dX11_way_2 rfl (lv_at hl 3 rfl) ?_
  refine lv_aload_n hx hb dX11_way_3 rfl (lv_at hl 0 rfl) ?_
  obtain ⟨hc_1, hf⟩ := aw_chk_some hf
  obtain ⟨q_2, hq_3, hf⟩ := aw_bind_some hf
  refine gf_X11_68 hx hb G hown hc_1 hq_3 dX11_way_4 ?_
  refine lv_iload_n hx hb dX11_way_7 rfl (lv_at hl 2 rfl) ?_
  obtain ⟨hc_4, hf⟩ := aw_chk_some hf
  refine aw_ial hx hb G hc_4 dX11_way_8 ?_
  refine lv_icmp_gt (tgt := 25) hx hb dX11_way_9 (by decide) (fun hc => ?_) (fun hc => ?_)
  · have hf := aw_ite_t hc hf
    exact hk2 _ hf _ _ _ (lv_sub hl [0, 1, 2] rfl) G
  · have hf := aw_ite_f hc hf
    refine lv_aload_n hx hb dX11_way_12 rfl (lv_at hl 0 rfl) ?_
    obtain ⟨q_5, hq_6, hf⟩ := aw_bind_some hf
    refine gf_X11_93 hx hb G hown hc_1 hq_6 dX11_way_13 ?_
    refine lv_iload_n hx hb dX11_way_16 rfl (lv_at hl 3 rfl) ?_
    refine lv_iload_n hx hb dX11_way_17 rfl (lv_at hl 3 rfl) ?_
    obtain ⟨hc_7, hf⟩ := aw_chk_some hf
    refine aw_ias hx hb G hc_7 dX11_way_18 (fun H locs G => ?_)
    refine lv_iinc (v := x3 + 1) (lv' := [(3, .int (x3 + 1)), (0, .ref (ad x0)), (1, .int x1), (2, .int x2)]) hx hb dX11_way_19 hl (k := 3) rfl rfl (by decide) rfl (fun ls hl => ?_)
    refine lv_goto (tgt := 2) hx hb dX11_way_22 (by decide) ?_
    exact hkb2 _ _ hf _ _ _ (lv_sub hl [1, 2, 3, 0] rfl) G
theorem w_X11_way_L2 {z : Int32 × Dt} (X : aw_X p c cX11_way 8 s RX11 m meth (some .int)) {k2 : Dt → Option (Int32 × Dt)} {x0 : Nat} {x1 : Int32} {x2 : Int32} (n : Nat) {x3 : Int32} {d : Dt} (hf : f_X11_way_L2 σ n k2 x0 x1 x2 x3 d = some z) (hk2 : ∀ (d : Dt), k2 d = some z → ∀ (H : Heap) (locs : List Loc) (ls : Array Slot), lv_has ls 8 [(0, .ref (ad x0)), (1, .int x1), (2, .int x2)] → aw_G D cA base ad σ d s H locs → W p l e rm_X11_way s m args below meth c H locs 0 0 (aw_Ei D cA base ad σ below args s z) (F0 m 25 ls [])) {H : Heap} {locs : List Loc} {ls : Array Slot} (hl : lv_has ls 8 [(0, .ref (ad x0)), (1, .int x1), (2, .int x2), (3, .int x3)]) (G : aw_G D cA base ad σ d s H locs) : W p l e rm_X11_way s m args below meth c H locs 0 0 (aw_Ei D cA base ad σ below args s z) (F0 m 2 ls []) := by
  induction n generalizing x3 d H locs ls with
  | zero => exact absurd (show (none : Option (Int32 × Dt)) = some z from hf) (by simp)
  | succ n ih => exact w_X11_way_B2 X (kb2 := f_X11_way_L2 σ n k2 x0 x1 x2) hf  (fun x3 d hf H locs ls hl G => ih hf hl G) hk2 hl G
set_option maxHeartbeats 4000000 in
set_option maxRecDepth 100000 in
theorem w_X11_way_J112 {z : Int32 × Dt} (X : aw_X p c cX11_way 8 s RX11 m meth (some .int)) {kb57 : Int32 → Int32 → Dt → Option (Int32 × Dt)} {t1 : Int32} {t0 : Int32} {x0 : Nat} {x1 : Int32} {x2 : Int32} {x3 : Int32} {x5 : Int32} {x6 : Int32} {d : Dt} (hf : f_X11_way_J112 σ kb57 t1 t0 x0 x1 x2 x3 x5 x6 d = some z) (hkb57 : ∀ (y4 : Int32) (y5 : Int32) (d : Dt), kb57 y4 y5 d = some z → ∀ (H : Heap) (locs : List Loc) (ls : Array Slot), lv_has ls 8 [(0, .ref (ad x0)), (1, .int x1), (2, .int x2), (3, .int x3), (4, .int y4), (5, .int y5)] → aw_G D cA base ad σ d s H locs → W p l e rm_X11_way s m args below meth c H locs 0 0 (aw_Ei D cA base ad σ below args s z) (F0 m 57 ls [])) {H : Heap} {locs : List Loc} {ls : Array Slot} (hl : lv_has ls 8 [(0, .ref (ad x0)), (1, .int x1), (2, .int x2), (3, .int x3), (5, .int x5), (6, .int x6)]) (G : aw_G D cA base ad σ d s H locs) : W p l e rm_X11_way s m args below meth c H locs 0 0 (aw_Ei D cA base ad σ below args s z) (F0 m 112 ls [.int t1, .int t0]) := by
  have hx := X.1; have hb := X.2.1; have hml := X.2.2.1; have hown := X.2.2.2.1
  unfold f_X11_way_J112 at hf
  refine lv_iadd hx hb dX11_way_112 ?_
  refine lv_istore (lv' := [(7, .int (t0 + t1)), (0, .ref (ad x0)), (1, .int x1), (2, .int x2), (3, .int x3), (5, .int x5), (6, .int x6)]) hx hb dX11_way_113 hl (by decide) rfl (fun ls hl => ?_)
  refine lv_aload_n hx hb dX11_way_115 rfl (lv_at hl 1 rfl) ?_
  obtain ⟨hc_27, hf⟩ := aw_chk_some hf
  obtain ⟨q_28, hq_29, hf⟩ := aw_bind_some hf
  refine gf_X11_93 hx hb G hown hc_27 hq_29 dX11_way_116 ?_
  refine lv_iload hx hb dX11_way_119 (lv_at hl 5 rfl) ?_
  refine lv_iload hx hb dX11_way_121 (lv_at hl 0 rfl) ?_
  refine lv_iload hx hb dX11_way_123 (lv_at hl 6 rfl) ?_
  refine lv_aload_n hx hb dX11_way_125 rfl (lv_at hl 1 rfl) ?_
  refine gf_X11_93 hx hb G hown hc_27 hq_29 dX11_way_126 ?_
  refine lv_iload hx hb dX11_way_129 (lv_at hl 5 rfl) ?_
  refine lv_iconst (v := (1 : Int32)) hx hb dX11_way_131 (by decide) ?_
  refine lv_isub hx hb dX11_way_132 ?_
  obtain ⟨hc_30, hf⟩ := aw_chk_some hf
  refine aw_ial hx hb G hc_30 dX11_way_133 ?_
  obtain ⟨z_31, hz_32, hf⟩ := aw_bind_some hf
  refine aw_SI (As := [.int x6, .int (d.1 q_28 (x5 - ((1 : Int32))).toNatClampNeg)]) (rest := [.int (t0 + t1), .int x5, .ref (ad q_28)]) X G hl.1 cr_X11_183 (c_X11_lesser l hz_32) ⟨rfl, rfl⟩ rfl rfl rfl ⟨Nat.le_of_ble_eq_true rfl, Nat.le_of_ble_eq_true rfl⟩ (Nat.le_of_ble_eq_true rfl) dX11_way_134 ⟨Nat.zero_le _, Nat.zero_le _⟩ (fun H locs G => ?_)
  refine lv_iconst (v := (1 : Int32)) hx hb dX11_way_137 (by decide) ?_
  refine lv_iadd hx hb dX11_way_138 ?_
  obtain ⟨z_33, hz_34, hf⟩ := aw_bind_some hf
  refine aw_SI (As := [.int (t0 + t1), .int (z_31.1 + ((1 : Int32)))]) (rest := [.int x5, .ref (ad q_28)]) X G hl.1 cr_X11_183 (c_X11_lesser l hz_34) ⟨rfl, rfl⟩ rfl rfl rfl ⟨Nat.le_of_ble_eq_true rfl, Nat.le_of_ble_eq_true rfl⟩ (Nat.le_of_ble_eq_true rfl) dX11_way_139 ⟨Nat.zero_le _, Nat.zero_le _⟩ (fun H locs G => ?_)
  obtain ⟨hc_35, hf⟩ := aw_chk_some hf
  refine aw_ias hx hb G hc_35 dX11_way_142 (fun H locs G => ?_)
  refine lv_iload hx hb dX11_way_143 (lv_at hl 6 rfl) ?_
  refine lv_istore (lv' := [(4, .int x6), (7, .int (t0 + t1)), (0, .ref (ad x0)), (1, .int x1), (2, .int x2), (3, .int x3), (5, .int x5), (6, .int x6)]) hx hb dX11_way_145 hl (by decide) rfl (fun ls hl => ?_)
  refine lv_iinc (v := x5 + 1) (lv' := [(5, .int (x5 + 1)), (4, .int x6), (7, .int (t0 + t1)), (0, .ref (ad x0)), (1, .int x1), (2, .int x2), (3, .int x3), (6, .int x6)]) hx hb dX11_way_147 hl (k := 6) rfl rfl (by decide) rfl (fun ls hl => ?_)
  refine lv_goto (tgt := 57) hx hb dX11_way_150 (by decide) ?_
  exact hkb57 _ _ _ hf _ _ _ (lv_sub hl [3, 4, 5, 6, 1, 0] rfl) G
set_option maxHeartbeats 4000000 in
set_option maxRecDepth 100000 in
theorem w_X11_way_B57 {z : Int32 × Dt} (X : aw_X p c cX11_way 8 s RX11 m meth (some .int)) {kb57 : Int32 → Int32 → Dt → Option (Int32 × Dt)} {k57 : Dt → Option (Int32 × Dt)} {x0 : Nat} {x1 : Int32} {x2 : Int32} {x3 : Int32} {x4 : Int32} {x5 : Int32} {d : Dt} (hf : f_X11_way_B57 σ kb57 k57 x0 x1 x2 x3 x4 x5 d = some z) (hkb57 : ∀ (y4 : Int32) (y5 : Int32) (d : Dt), kb57 y4 y5 d = some z → ∀ (H : Heap) (locs : List Loc) (ls : Array Slot), lv_has ls 8 [(0, .ref (ad x0)), (1, .int x1), (2, .int x2), (3, .int x3), (4, .int y4), (5, .int y5)] → aw_G D cA base ad σ d s H locs → W p l e rm_X11_way s m args below meth c H locs 0 0 (aw_Ei D cA base ad σ below args s z) (F0 m 57 ls [])) (hk57 : ∀ (d : Dt), k57 d = some z → ∀ (H : Heap) (locs : List Loc) (ls : Array Slot), lv_has ls 8 [(0, .ref (ad x0)), (1, .int x1), (2, .int x2), (3, .int x3)] → aw_G D cA base ad σ d s H locs → W p l e rm_X11_way s m args below meth c H locs 0 0 (aw_Ei D cA base ad σ below args s z) (F0 m 153 ls [])) {H : Heap} {locs : List Loc} {ls : Array Slot} (hl : lv_has ls 8 [(0, .ref (ad x0)), (1, .int x1), (2, .int x2), (3, .int x3), (4, .int x4), (5, .int x5)]) (G : aw_G D cA base ad σ d s H locs) : W p l e rm_X11_way s m args below meth c H locs 0 0 (aw_Ei D cA base ad σ below args s z) (F0 m 57 ls []) := by
  have hx := X.1; have hb := X.2.1; have hml := X.2.2.1; have hown := X.2.2.2.1
  unfold f_X11_way_B57 at hf
  refine lv_iload hx hb dX11_way_57 (lv_at hl 5 rfl) ?_
  refine lv_aload_n hx hb dX11_way_59 rfl (lv_at hl 0 rfl) ?_
  obtain ⟨hc_16, hf⟩ := aw_chk_some hf
  obtain ⟨q_17, hq_18, hf⟩ := aw_bind_some hf
  refine gf_X11_68 hx hb G hown hc_16 hq_18 dX11_way_60 ?_
  refine lv_iload_n hx hb dX11_way_63 rfl (lv_at hl 2 rfl) ?_
  obtain ⟨hc_19, hf⟩ := aw_chk_some hf
  refine aw_ial hx hb G hc_19 dX11_way_64 ?_
  refine lv_icmp_gt (tgt := 153) hx hb dX11_way_65 (by decide) (fun hc => ?_) (fun hc => ?_)
  · have hf := aw_ite_t hc hf
    exact hk57 _ hf _ _ _ (lv_sub hl [0, 1, 2, 3] rfl) G
  · have hf := aw_ite_f hc hf
    refine lv_aload_n hx hb dX11_way_68 rfl (lv_at hl 0 rfl) ?_
    obtain ⟨q_20, hq_21, hf⟩ := aw_bind_some hf
    refine gf_X11_93 hx hb G hown hc_16 hq_21 dX11_way_69 ?_
    refine lv_iload hx hb dX11_way_72 (lv_at hl 5 rfl) ?_
    obtain ⟨hc_22, hf⟩ := aw_chk_some hf
    refine aw_ial hx hb G hc_22 dX11_way_74 ?_
    refine lv_istore (lv' := [(6, .int (d.1 q_20 x5.toNatClampNeg)), (0, .ref (ad x0)), (1, .int x1), (2, .int x2), (3, .int x3), (4, .int x4), (5, .int x5)]) hx hb dX11_way_75 hl (by decide) rfl (fun ls hl => ?_)
    refine lv_iload hx hb dX11_way_77 (lv_at hl 5 rfl) ?_
    refine lv_aload_n hx hb dX11_way_79 rfl (lv_at hl 1 rfl) ?_
    obtain ⟨q_23, hq_24, hf⟩ := aw_bind_some hf
    refine gf_X11_65 hx hb G hown hc_16 hq_24 dX11_way_80 ?_
    refine lv_bipush (v := (16 : Int32)) hx hb dX11_way_83 (by decide) ?_
    refine lv_iload_n hx hb dX11_way_85 rfl (lv_at hl 2 rfl) ?_
    refine lv_imul hx hb dX11_way_86 ?_
    refine lv_iload_n hx hb dX11_way_87 rfl (lv_at hl 4 rfl) ?_
    refine lv_iadd hx hb dX11_way_88 ?_
    obtain ⟨hc_25, hf⟩ := aw_chk_some hf
    refine aw_ial hx hb G hc_25 dX11_way_89 ?_
    refine lv_aload_n hx hb dX11_way_90 rfl (lv_at hl 1 rfl) ?_
    refine gf_X11_65 hx hb G hown hc_16 hq_24 dX11_way_91 ?_
    refine lv_bipush (v := (16 : Int32)) hx hb dX11_way_94 (by decide) ?_
    refine lv_iload_n hx hb dX11_way_96 rfl (lv_at hl 3 rfl) ?_
    refine lv_imul hx hb dX11_way_97 ?_
    refine lv_iload hx hb dX11_way_98 (lv_at hl 6 rfl) ?_
    refine lv_iadd hx hb dX11_way_100 ?_
    refine lv_iconst (v := (1 : Int32)) hx hb dX11_way_101 (by decide) ?_
    refine lv_isub hx hb dX11_way_102 ?_
    obtain ⟨hc_26, hf⟩ := aw_chk_some hf
    refine aw_ial hx hb G hc_26 dX11_way_103 ?_
    refine lv_icmp_ne (tgt := 111) hx hb dX11_way_104 (by decide) (fun hc => ?_) (fun hc => ?_)
    · have hf := aw_ite_f hc hf
      refine lv_iconst (v := (1 : Int32)) hx hb dX11_way_111 (by decide) ?_
      exact w_X11_way_J112 X hf hkb57 (lv_sub hl [1, 2, 3, 4, 6, 0] rfl) G
    · have hf := aw_ite_t hc hf
      refine lv_iconst (v := (0 : Int32)) hx hb dX11_way_107 (by decide) ?_
      refine lv_goto (tgt := 112) hx hb dX11_way_108 (by decide) ?_
      exact w_X11_way_J112 X hf hkb57 (lv_sub hl [1, 2, 3, 4, 6, 0] rfl) G
theorem w_X11_way_L57 {z : Int32 × Dt} (X : aw_X p c cX11_way 8 s RX11 m meth (some .int)) {k57 : Dt → Option (Int32 × Dt)} {x0 : Nat} {x1 : Int32} {x2 : Int32} {x3 : Int32} (n : Nat) {x4 : Int32} {x5 : Int32} {d : Dt} (hf : f_X11_way_L57 σ n k57 x0 x1 x2 x3 x4 x5 d = some z) (hk57 : ∀ (d : Dt), k57 d = some z → ∀ (H : Heap) (locs : List Loc) (ls : Array Slot), lv_has ls 8 [(0, .ref (ad x0)), (1, .int x1), (2, .int x2), (3, .int x3)] → aw_G D cA base ad σ d s H locs → W p l e rm_X11_way s m args below meth c H locs 0 0 (aw_Ei D cA base ad σ below args s z) (F0 m 153 ls [])) {H : Heap} {locs : List Loc} {ls : Array Slot} (hl : lv_has ls 8 [(0, .ref (ad x0)), (1, .int x1), (2, .int x2), (3, .int x3), (4, .int x4), (5, .int x5)]) (G : aw_G D cA base ad σ d s H locs) : W p l e rm_X11_way s m args below meth c H locs 0 0 (aw_Ei D cA base ad σ below args s z) (F0 m 57 ls []) := by
  induction n generalizing x4 x5 d H locs ls with
  | zero => exact absurd (show (none : Option (Int32 × Dt)) = some z from hf) (by simp)
  | succ n ih => exact w_X11_way_B57 X (kb57 := f_X11_way_L57 σ n k57 x0 x1 x2 x3) hf  (fun x4 x5 d hf H locs ls hl G => ih hf hl G) hk57 hl G
set_option maxHeartbeats 4000000 in
set_option maxRecDepth 100000 in
theorem w_X11_way_B27 {z : Int32 × Dt} (X : aw_X p c cX11_way 8 s RX11 m meth (some .int)) {kb27 : Int32 → Dt → Option (Int32 × Dt)} {k27 : Dt → Option (Int32 × Dt)} {x0 : Nat} {x1 : Int32} {x2 : Int32} {x3 : Int32} {d : Dt} (hf : f_X11_way_B27 σ kb27 k27 x0 x1 x2 x3 d = some z) (hkb27 : ∀ (y3 : Int32) (d : Dt), kb27 y3 d = some z → ∀ (H : Heap) (locs : List Loc) (ls : Array Slot), lv_has ls 8 [(0, .ref (ad x0)), (1, .int x1), (2, .int x2), (3, .int y3)] → aw_G D cA base ad σ d s H locs → W p l e rm_X11_way s m args below meth c H locs 0 0 (aw_Ei D cA base ad σ below args s z) (F0 m 27 ls [])) (hk27 : ∀ (d : Dt), k27 d = some z → ∀ (H : Heap) (locs : List Loc) (ls : Array Slot), lv_has ls 8 [(0, .ref (ad x0)), (2, .int x2)] → aw_G D cA base ad σ d s H locs → W p l e rm_X11_way s m args below meth c H locs 0 0 (aw_Ei D cA base ad σ below args s z) (F0 m 159 ls [])) {H : Heap} {locs : List Loc} {ls : Array Slot} (hl : lv_has ls 8 [(0, .ref (ad x0)), (1, .int x1), (2, .int x2), (3, .int x3)]) (G : aw_G D cA base ad σ d s H locs) : W p l e rm_X11_way s m args below meth c H locs 0 0 (aw_Ei D cA base ad σ below args s z) (F0 m 27 ls []) := by
  have hx := X.1; have hb := X.2.1; have hml := X.2.2.1; have hown := X.2.2.2.1
  unfold f_X11_way_B27 at hf
  refine lv_iload_n hx hb dX11_way_27 rfl (lv_at hl 3 rfl) ?_
  refine lv_aload_n hx hb dX11_way_28 rfl (lv_at hl 0 rfl) ?_
  obtain ⟨hc_9, hf⟩ := aw_chk_some hf
  obtain ⟨q_10, hq_11, hf⟩ := aw_bind_some hf
  refine gf_X11_68 hx hb G hown hc_9 hq_11 dX11_way_29 ?_
  refine lv_iload_n hx hb dX11_way_32 rfl (lv_at hl 1 rfl) ?_
  obtain ⟨hc_12, hf⟩ := aw_chk_some hf
  refine aw_ial hx hb G hc_12 dX11_way_33 ?_
  refine lv_icmp_ge (tgt := 159) hx hb dX11_way_34 (by decide) (fun hc => ?_) (fun hc => ?_)
  · have hf := aw_ite_t hc hf
    exact hk27 _ hf _ _ _ (lv_sub hl [0, 2] rfl) G
  · have hf := aw_ite_f hc hf
    refine lv_aload_n hx hb dX11_way_37 rfl (lv_at hl 0 rfl) ?_
    obtain ⟨q_13, hq_14, hf⟩ := aw_bind_some hf
    refine gf_X11_93 hx hb G hown hc_9 hq_14 dX11_way_38 ?_
    refine lv_iconst (v := (0 : Int32)) hx hb dX11_way_41 (by decide) ?_
    obtain ⟨hc_15, hf⟩ := aw_chk_some hf
    refine aw_ial hx hb G hc_15 dX11_way_42 ?_
    refine lv_istore (lv' := [(4, .int (d.1 q_13 ((0 : Int32)).toNatClampNeg)), (0, .ref (ad x0)), (1, .int x1), (2, .int x2), (3, .int x3)]) hx hb dX11_way_43 hl (by decide) rfl (fun ls hl => ?_)
    refine lv_aload_n hx hb dX11_way_45 rfl (lv_at hl 1 rfl) ?_
    refine gf_X11_93 hx hb G hown hc_9 hq_14 dX11_way_46 ?_
    refine lv_iconst (v := (0 : Int32)) hx hb dX11_way_49 (by decide) ?_
    refine lv_iload_n hx hb dX11_way_50 rfl (lv_at hl 4 rfl) ?_
    refine lv_iconst (v := (1 : Int32)) hx hb dX11_way_51 (by decide) ?_
    refine lv_iadd hx hb dX11_way_52 ?_
    refine aw_ias hx hb G hc_15 dX11_way_53 (fun H locs G => ?_)
    refine lv_iconst (v := (1 : Int32)) hx hb dX11_way_54 (by decide) ?_
    refine lv_istore (lv' := [(5, .int ((1 : Int32))), (4, .int (d.1 q_13 ((0 : Int32)).toNatClampNeg)), (0, .ref (ad x0)), (1, .int x1), (2, .int x2), (3, .int x3)]) hx hb dX11_way_55 hl (by decide) rfl (fun ls hl => ?_)
    refine w_X11_way_L57 X aw_FU hf  (fun d_36 hf H locs ls hl G => ?_) (lv_sub hl [2, 3, 4, 5, 1, 0] rfl) G
    refine lv_iinc (v := x3 + 1) (lv' := [(3, .int (x3 + 1)), (0, .ref (ad x0)), (1, .int x1), (2, .int x2)]) hx hb dX11_way_153 hl (k := 3) rfl rfl (by decide) rfl (fun ls hl => ?_)
    refine lv_goto (tgt := 27) hx hb dX11_way_156 (by decide) ?_
    exact hkb27 _ _ hf _ _ _ (lv_sub hl [1, 2, 3, 0] rfl) G
theorem w_X11_way_L27 {z : Int32 × Dt} (X : aw_X p c cX11_way 8 s RX11 m meth (some .int)) {k27 : Dt → Option (Int32 × Dt)} {x0 : Nat} {x1 : Int32} {x2 : Int32} (n : Nat) {x3 : Int32} {d : Dt} (hf : f_X11_way_L27 σ n k27 x0 x1 x2 x3 d = some z) (hk27 : ∀ (d : Dt), k27 d = some z → ∀ (H : Heap) (locs : List Loc) (ls : Array Slot), lv_has ls 8 [(0, .ref (ad x0)), (2, .int x2)] → aw_G D cA base ad σ d s H locs → W p l e rm_X11_way s m args below meth c H locs 0 0 (aw_Ei D cA base ad σ below args s z) (F0 m 159 ls [])) {H : Heap} {locs : List Loc} {ls : Array Slot} (hl : lv_has ls 8 [(0, .ref (ad x0)), (1, .int x1), (2, .int x2), (3, .int x3)]) (G : aw_G D cA base ad σ d s H locs) : W p l e rm_X11_way s m args below meth c H locs 0 0 (aw_Ei D cA base ad σ below args s z) (F0 m 27 ls []) := by
  induction n generalizing x3 d H locs ls with
  | zero => exact absurd (show (none : Option (Int32 × Dt)) = some z from hf) (by simp)
  | succ n ih => exact w_X11_way_B27 X (kb27 := f_X11_way_L27 σ n k27 x0 x1 x2) hf  (fun x3 d hf H locs ls hl G => ih hf hl G) hk27 hl G
end W_X11_way
set_option maxHeartbeats 4000000 in
set_option maxRecDepth 100000 in
theorem c_X11_way (l : Launch) {σ : Sg} {x0 : Nat} {x1 : Int32} {x2 : Int32} {d : Dt} {z : Int32 × Dt} (hf : f_X11_way σ x0 x1 x2 d = some z) : aw_Mi l yX11_way (Cond.code yX11_way cX11_way 8 (some .int)) rm_X11_way (fun ad => [.ref (ad x0), .int x1, .int x2]) σ d z := by
  intro D cA base ad
  refine aw_ofW (own := RX11) (cc := cX11_way) (nL := 8) (ret := some .int) (by decide) rfl rfl ?_
  intro p e s m below meth c X hnm G
  have hx := X.1; have hb := X.2.1; have hml := X.2.2.1; have hown := X.2.2.2.1
  refine aw_ls (lv := [(0, .ref (ad x0)), (1, .int x1), (2, .int x2)]) (Nat.le_of_ble_eq_true rfl) rfl (fun ls hl => ?_)
  unfold f_X11_way at hf
  refine lv_iconst (v := (0 : Int32)) hx hb dX11_way_0 (by decide) ?_
  refine lv_istore_n (lv' := [(3, .int ((0 : Int32))), (0, .ref (ad x0)), (1, .int x1), (2, .int x2)]) hx hb dX11_way_1 rfl hl (by decide) rfl (fun ls hl => ?_)
  refine w_X11_way_L2 X aw_FU hf  (fun d_8 hf H locs ls hl G => ?_) (lv_sub hl [1, 2, 3, 0] rfl) G
  refine lv_iconst (v := (0 : Int32)) hx hb dX11_way_25 (by decide) ?_
  refine lv_istore_n (lv' := [(3, .int ((0 : Int32))), (0, .ref (ad x0)), (1, .int x1), (2, .int x2)]) hx hb dX11_way_26 rfl hl (by decide) rfl (fun ls hl => ?_)
  refine w_X11_way_L27 X aw_FU hf  (fun d_37 hf H locs ls hl G => ?_) (lv_sub hl [1, 2, 3, 0] rfl) G
  refine lv_aload_n hx hb dX11_way_159 rfl (lv_at hl 0 rfl) ?_
  obtain ⟨hc_38, hf⟩ := aw_chk_some hf
  obtain ⟨q_39, hq_40, hf⟩ := aw_bind_some hf
  refine gf_X11_93 hx hb G hown hc_38 hq_40 dX11_way_160 ?_
  refine lv_aload_n hx hb dX11_way_163 rfl (lv_at hl 0 rfl) ?_
  obtain ⟨q_41, hq_42, hf⟩ := aw_bind_some hf
  refine gf_X11_68 hx hb G hown hc_38 hq_42 dX11_way_164 ?_
  refine lv_iload_n hx hb dX11_way_167 rfl (lv_at hl 1 rfl) ?_
  obtain ⟨hc_43, hf⟩ := aw_chk_some hf
  refine aw_ial hx hb G hc_43 dX11_way_168 ?_
  obtain ⟨hc_44, hf⟩ := aw_chk_some hf
  refine aw_ial hx hb G hc_44 dX11_way_169 ?_
  exact aw_reti X G hf dX11_way_170
def rm_X11_reform : Room := { frames := 4, cells := 0, slots := 0, locals := 100 }
def f_X11_reform_B60 (σ : Sg) (kb60 : Int32 → Int32 → Dt → Option (Int32 × Dt)) (k60 : Int32 → Dt → Option (Int32 × Dt)) (x0 : Nat) (x3 : Int32) (x4 : Int32) (d : Dt) : Option (Int32 × Dt) :=
  aw_chk (aw_O σ 11 32 x0) (if (d.1 x0 2) ≤ x4 then k60 x3 d else (σ.2.2 x0 5).bind (fun q_17 => aw_chk (aw_I σ 20 q_17 x4) ((f_X11_way σ x0 x4 (((20 : Int32)) + x4) d).bind (fun z_20 => kb60 (x3 + ((d.1 q_17 x4.toNatClampNeg) * z_20.1)) (x4 + 1) z_20.2))))
def f_X11_reform_L60 (σ : Sg) (n : Nat) (k60 : Int32 → Dt → Option (Int32 × Dt)) (x0 : Nat) : Int32 → Int32 → Dt → Option (Int32 × Dt) := match n with
  | 0 => fun _ _ _ => none
  | n + 1 => fun x3 x4 d => f_X11_reform_B60 σ (f_X11_reform_L60 σ n k60 x0) k60 x0 x3 x4 d
def f_X11_reform_J22 (σ : Sg) (t1 : Int32) (t0 : Nat) (x0 : Nat) (x1 : Int32) (x2 : Int32) (d : Dt) : Option (Int32 × Dt) :=
  aw_chk (aw_O σ 11 32 t0) ((f_X11_fails σ t0 t1 d).bind (fun z_4 => if z_4.1 = 0 then aw_chk (aw_O σ 11 32 x0) ((σ.2.2 x0 13).bind (fun q_8 => aw_chk (aw_I σ 20 q_8 x1) ((f_X11_spellsAll σ x0 x1 (z_4.2.1 q_8 x1.toNatClampNeg) ((0 : Int32)) z_4.2).bind (fun z_11 => aw_chk (aw_I σ 20 q_8 x2) ((f_X11_spellsAll σ x0 x2 (z_11.2.1 q_8 x2.toNatClampNeg) ((20 : Int32)) z_11.2).bind (fun z_14 => f_X11_reform_L60 σ aw_FU (fun x3_22 d_23 => some (x3_22, d_23)) x0 ((0 : Int32)) ((0 : Int32)) z_14.2)))))) else some ((0 : Int32), z_4.2)))
def f_X11_reform_J21 (σ : Sg) (t0 : Nat) (x0 : Nat) (x1 : Int32) (x2 : Int32) (d : Dt) : Option (Int32 × Dt) :=
  f_X11_reform_J22 σ ((1 : Int32)) t0 x0 x1 x2 d
def f_X11_reform (σ : Sg) (x0 : Nat) (x1 : Int32) (x2 : Int32) (d : Dt) : Option (Int32 × Dt) :=
  aw_chk (aw_O σ 11 32 x0) ((f_X11_isDesign σ x0 x1 d).bind (fun z_1 => if z_1.1 = 0 then f_X11_reform_J21 σ x0 x0 x1 x2 z_1.2 else (f_X11_isDesign σ x0 x2 z_1.2).bind (fun z_24 => if z_24.1 = 0 then f_X11_reform_J21 σ x0 x0 x1 x2 z_24.2 else f_X11_reform_J22 σ ((0 : Int32)) x0 x0 x1 x2 z_24.2)))
section W_X11_reform
variable {p : Program} {l : Launch} {e : Env} {s : State} {m : MethodId} {args : Array Value} {below : List Frame} {meth : Method} {c : Code}
variable {D : va_G} {cA : Nat → ClassId} {base : Nat} {ad : Nat → Nat} {σ : Sg}
set_option maxHeartbeats 4000000 in
set_option maxRecDepth 100000 in
theorem w_X11_reform_B60 {z : Int32 × Dt} (X : aw_X p c cX11_reform 5 s RX11 m meth (some .int)) {kb60 : Int32 → Int32 → Dt → Option (Int32 × Dt)} {k60 : Int32 → Dt → Option (Int32 × Dt)} {x0 : Nat} {x3 : Int32} {x4 : Int32} {d : Dt} (hf : f_X11_reform_B60 σ kb60 k60 x0 x3 x4 d = some z) (hkb60 : ∀ (y3 : Int32) (y4 : Int32) (d : Dt), kb60 y3 y4 d = some z → ∀ (H : Heap) (locs : List Loc) (ls : Array Slot), lv_has ls 5 [(0, .ref (ad x0)), (3, .int y3), (4, .int y4)] → aw_G D cA base ad σ d s H locs → W p l e rm_X11_reform s m args below meth c H locs 0 0 (aw_Ei D cA base ad σ below args s z) (F0 m 60 ls [])) (hk60 : ∀ (y3 : Int32) (d : Dt), k60 y3 d = some z → ∀ (H : Heap) (locs : List Loc) (ls : Array Slot), lv_has ls 5 [(3, .int y3)] → aw_G D cA base ad σ d s H locs → W p l e rm_X11_reform s m args below meth c H locs 0 0 (aw_Ei D cA base ad σ below args s z) (F0 m 97 ls [])) {H : Heap} {locs : List Loc} {ls : Array Slot} (hl : lv_has ls 5 [(0, .ref (ad x0)), (3, .int x3), (4, .int x4)]) (G : aw_G D cA base ad σ d s H locs) : W p l e rm_X11_reform s m args below meth c H locs 0 0 (aw_Ei D cA base ad σ below args s z) (F0 m 60 ls []) := by
  have hx := X.1; have hb := X.2.1; have hml := X.2.2.1; have hown := X.2.2.2.1
  unfold f_X11_reform_B60 at hf
  refine lv_iload hx hb dX11_reform_60 (lv_at hl 2 rfl) ?_
  refine lv_aload_n hx hb dX11_reform_62 rfl (lv_at hl 0 rfl) ?_
  obtain ⟨hc_16, hf⟩ := aw_chk_some hf
  refine gf_X11_100 hx hb G hown hc_16 dX11_reform_63 ?_
  refine lv_icmp_ge (tgt := 97) hx hb dX11_reform_66 (by decide) (fun hc => ?_) (fun hc => ?_)
  · have hf := aw_ite_t hc hf
    exact hk60 _ _ hf _ _ _ (lv_sub hl [1] rfl) G
  · have hf := aw_ite_f hc hf
    refine lv_iload_n hx hb dX11_reform_69 rfl (lv_at hl 1 rfl) ?_
    refine lv_aload_n hx hb dX11_reform_70 rfl (lv_at hl 0 rfl) ?_
    obtain ⟨q_17, hq_18, hf⟩ := aw_bind_some hf
    refine gf_X11_19 hx hb G hown hc_16 hq_18 dX11_reform_71 ?_
    refine lv_iload hx hb dX11_reform_74 (lv_at hl 2 rfl) ?_
    obtain ⟨hc_19, hf⟩ := aw_chk_some hf
    refine aw_ial hx hb G hc_19 dX11_reform_76 ?_
    refine lv_aload_n hx hb dX11_reform_77 rfl (lv_at hl 0 rfl) ?_
    refine lv_iload hx hb dX11_reform_78 (lv_at hl 2 rfl) ?_
    refine lv_bipush (v := (20 : Int32)) hx hb dX11_reform_80 (by decide) ?_
    refine lv_iload hx hb dX11_reform_82 (lv_at hl 2 rfl) ?_
    refine lv_iadd hx hb dX11_reform_84 ?_
    obtain ⟨z_20, hz_21, hf⟩ := aw_bind_some hf
    refine aw_VI (As := [.int x4, .int (((20 : Int32)) + x4)]) (rest := [.int (d.1 q_17 x4.toNatClampNeg), .int x3]) X G hl.1 cr_X11_216 (c_X11_way l hz_21) ⟨rfl, rfl⟩ rfl rfl rfl (by decide) hc_16 rfl ⟨Nat.le_of_ble_eq_true rfl, Nat.le_of_ble_eq_true rfl⟩ (Nat.le_of_ble_eq_true rfl) dX11_reform_85 ⟨Nat.zero_le _, Nat.zero_le _⟩ (fun H locs G => ?_)
    refine lv_imul hx hb dX11_reform_88 ?_
    refine lv_iadd hx hb dX11_reform_89 ?_
    refine lv_istore_n (lv' := [(3, .int (x3 + ((d.1 q_17 x4.toNatClampNeg) * z_20.1))), (0, .ref (ad x0)), (4, .int x4)]) hx hb dX11_reform_90 rfl hl (by decide) rfl (fun ls hl => ?_)
    refine lv_iinc (v := x4 + 1) (lv' := [(4, .int (x4 + 1)), (3, .int (x3 + ((d.1 q_17 x4.toNatClampNeg) * z_20.1))), (0, .ref (ad x0))]) hx hb dX11_reform_91 hl (k := 2) rfl rfl (by decide) rfl (fun ls hl => ?_)
    refine lv_goto (tgt := 60) hx hb dX11_reform_94 (by decide) ?_
    exact hkb60 _ _ _ hf _ _ _ (lv_sub hl [2, 1, 0] rfl) G
theorem w_X11_reform_L60 {z : Int32 × Dt} (X : aw_X p c cX11_reform 5 s RX11 m meth (some .int)) {k60 : Int32 → Dt → Option (Int32 × Dt)} {x0 : Nat} (n : Nat) {x3 : Int32} {x4 : Int32} {d : Dt} (hf : f_X11_reform_L60 σ n k60 x0 x3 x4 d = some z) (hk60 : ∀ (y3 : Int32) (d : Dt), k60 y3 d = some z → ∀ (H : Heap) (locs : List Loc) (ls : Array Slot), lv_has ls 5 [(3, .int y3)] → aw_G D cA base ad σ d s H locs → W p l e rm_X11_reform s m args below meth c H locs 0 0 (aw_Ei D cA base ad σ below args s z) (F0 m 97 ls [])) {H : Heap} {locs : List Loc} {ls : Array Slot} (hl : lv_has ls 5 [(0, .ref (ad x0)), (3, .int x3), (4, .int x4)]) (G : aw_G D cA base ad σ d s H locs) : W p l e rm_X11_reform s m args below meth c H locs 0 0 (aw_Ei D cA base ad σ below args s z) (F0 m 60 ls []) := by
  induction n generalizing x3 x4 d H locs ls with
  | zero => exact absurd (show (none : Option (Int32 × Dt)) = some z from hf) (by simp)
  | succ n ih => exact w_X11_reform_B60 X (kb60 := f_X11_reform_L60 σ n k60 x0) hf  (fun x3 x4 d hf H locs ls hl G => ih hf hl G) hk60 hl G
set_option maxHeartbeats 4000000 in
set_option maxRecDepth 100000 in
theorem w_X11_reform_J22 {z : Int32 × Dt} (X : aw_X p c cX11_reform 5 s RX11 m meth (some .int)) {t1 : Int32} {t0 : Nat} {x0 : Nat} {x1 : Int32} {x2 : Int32} {d : Dt} (hf : f_X11_reform_J22 σ t1 t0 x0 x1 x2 d = some z)  {H : Heap} {locs : List Loc} {ls : Array Slot} (hl : lv_has ls 5 [(0, .ref (ad x0)), (1, .int x1), (2, .int x2)]) (G : aw_G D cA base ad σ d s H locs) : W p l e rm_X11_reform s m args below meth c H locs 0 0 (aw_Ei D cA base ad σ below args s z) (F0 m 22 ls [.int t1, .ref (ad t0)]) := by
  have hx := X.1; have hb := X.2.1; have hml := X.2.2.1; have hown := X.2.2.2.1
  unfold f_X11_reform_J22 at hf
  obtain ⟨hc_6, hf⟩ := aw_chk_some hf
  obtain ⟨z_4, hz_5, hf⟩ := aw_bind_some hf
  refine aw_VI (As := [.int t1]) (rest := []) X G hl.1 cr_X11_113 (c_X11_fails l hz_5) ⟨rfl, rfl⟩ rfl rfl rfl (by decide) hc_6 rfl ⟨Nat.le_of_ble_eq_true rfl, Nat.le_of_ble_eq_true rfl⟩ (Nat.le_of_ble_eq_true rfl) dX11_reform_22 ⟨Nat.zero_le _, Nat.zero_le _⟩ (fun H locs G => ?_)
  refine lv_if_eq (tgt := 30) hx hb dX11_reform_25 (by decide) (fun hc => ?_) (fun hc => ?_)
  · have hf := aw_ite_t hc hf
    refine lv_aload_n hx hb dX11_reform_30 rfl (lv_at hl 0 rfl) ?_
    refine lv_iload_n hx hb dX11_reform_31 rfl (lv_at hl 1 rfl) ?_
    refine lv_aload_n hx hb dX11_reform_32 rfl (lv_at hl 0 rfl) ?_
    obtain ⟨hc_7, hf⟩ := aw_chk_some hf
    obtain ⟨q_8, hq_9, hf⟩ := aw_bind_some hf
    refine gf_X11_41 hx hb G hown hc_7 hq_9 dX11_reform_33 ?_
    refine lv_iload_n hx hb dX11_reform_36 rfl (lv_at hl 1 rfl) ?_
    obtain ⟨hc_10, hf⟩ := aw_chk_some hf
    refine aw_ial hx hb G hc_10 dX11_reform_37 ?_
    refine lv_iconst (v := (0 : Int32)) hx hb dX11_reform_38 (by decide) ?_
    obtain ⟨z_11, hz_12, hf⟩ := aw_bind_some hf
    refine aw_VV (As := [.int x1, .int (z_4.2.1 q_8 x1.toNatClampNeg), .int ((0 : Int32))]) (rest := []) X G hl.1 cr_X11_156 (c_X11_spellsAll l hz_12) ⟨rfl, rfl⟩ rfl rfl rfl (by decide) hc_7 rfl ⟨Nat.le_of_ble_eq_true rfl, Nat.le_of_ble_eq_true rfl⟩ (Nat.le_of_ble_eq_true rfl) dX11_reform_39 ⟨Nat.zero_le _, Nat.zero_le _⟩ (fun H locs G => ?_)
    refine lv_aload_n hx hb dX11_reform_42 rfl (lv_at hl 0 rfl) ?_
    refine lv_iload_n hx hb dX11_reform_43 rfl (lv_at hl 2 rfl) ?_
    refine lv_aload_n hx hb dX11_reform_44 rfl (lv_at hl 0 rfl) ?_
    refine gf_X11_41 hx hb G hown hc_7 hq_9 dX11_reform_45 ?_
    refine lv_iload_n hx hb dX11_reform_48 rfl (lv_at hl 2 rfl) ?_
    obtain ⟨hc_13, hf⟩ := aw_chk_some hf
    refine aw_ial hx hb G hc_13 dX11_reform_49 ?_
    refine lv_bipush (v := (20 : Int32)) hx hb dX11_reform_50 (by decide) ?_
    obtain ⟨z_14, hz_15, hf⟩ := aw_bind_some hf
    refine aw_VV (As := [.int x2, .int (z_11.2.1 q_8 x2.toNatClampNeg), .int ((20 : Int32))]) (rest := []) X G hl.1 cr_X11_156 (c_X11_spellsAll l hz_15) ⟨rfl, rfl⟩ rfl rfl rfl (by decide) hc_7 rfl ⟨Nat.le_of_ble_eq_true rfl, Nat.le_of_ble_eq_true rfl⟩ (Nat.le_of_ble_eq_true rfl) dX11_reform_52 ⟨Nat.zero_le _, Nat.zero_le _⟩ (fun H locs G => ?_)
    refine lv_iconst (v := (0 : Int32)) hx hb dX11_reform_55 (by decide) ?_
    refine lv_istore_n (lv' := [(3, .int ((0 : Int32))), (0, .ref (ad x0)), (1, .int x1), (2, .int x2)]) hx hb dX11_reform_56 rfl hl (by decide) rfl (fun ls hl => ?_)
    refine lv_iconst (v := (0 : Int32)) hx hb dX11_reform_57 (by decide) ?_
    refine lv_istore (lv' := [(4, .int ((0 : Int32))), (3, .int ((0 : Int32))), (0, .ref (ad x0)), (1, .int x1), (2, .int x2)]) hx hb dX11_reform_58 hl (by decide) rfl (fun ls hl => ?_)
    refine w_X11_reform_L60 X aw_FU hf  (fun x3_22 d_23 hf H locs ls hl G => ?_) (lv_sub hl [2, 1, 0] rfl) G
    refine lv_iload_n hx hb dX11_reform_97 rfl (lv_at hl 0 rfl) ?_
    exact aw_reti X G hf dX11_reform_98
  · have hf := aw_ite_f hc hf
    refine lv_iconst (v := (0 : Int32)) hx hb dX11_reform_28 (by decide) ?_
    exact aw_reti X G hf dX11_reform_29
set_option maxHeartbeats 4000000 in
set_option maxRecDepth 100000 in
theorem w_X11_reform_J21 {z : Int32 × Dt} (X : aw_X p c cX11_reform 5 s RX11 m meth (some .int)) {t0 : Nat} {x0 : Nat} {x1 : Int32} {x2 : Int32} {d : Dt} (hf : f_X11_reform_J21 σ t0 x0 x1 x2 d = some z)  {H : Heap} {locs : List Loc} {ls : Array Slot} (hl : lv_has ls 5 [(0, .ref (ad x0)), (1, .int x1), (2, .int x2)]) (G : aw_G D cA base ad σ d s H locs) : W p l e rm_X11_reform s m args below meth c H locs 0 0 (aw_Ei D cA base ad σ below args s z) (F0 m 21 ls [.ref (ad t0)]) := by
  have hx := X.1; have hb := X.2.1; have hml := X.2.2.1; have hown := X.2.2.2.1
  unfold f_X11_reform_J21 at hf
  refine lv_iconst (v := (1 : Int32)) hx hb dX11_reform_21 (by decide) ?_
  exact w_X11_reform_J22 X hf  (lv_sub hl [0, 1, 2] rfl) G
end W_X11_reform
set_option maxHeartbeats 4000000 in
set_option maxRecDepth 100000 in
theorem c_X11_reform (l : Launch) {σ : Sg} {x0 : Nat} {x1 : Int32} {x2 : Int32} {d : Dt} {z : Int32 × Dt} (hf : f_X11_reform σ x0 x1 x2 d = some z) : aw_Mi l yX11_reform (Cond.code yX11_reform cX11_reform 5 (some .int)) rm_X11_reform (fun ad => [.ref (ad x0), .int x1, .int x2]) σ d z := by
  intro D cA base ad
  refine aw_ofW (own := RX11) (cc := cX11_reform) (nL := 5) (ret := some .int) (by decide) rfl rfl ?_
  intro p e s m below meth c X hnm G
  have hx := X.1; have hb := X.2.1; have hml := X.2.2.1; have hown := X.2.2.2.1
  refine aw_ls (lv := [(0, .ref (ad x0)), (1, .int x1), (2, .int x2)]) (Nat.le_of_ble_eq_true rfl) rfl (fun ls hl => ?_)
  unfold f_X11_reform at hf
  refine lv_aload_n hx hb dX11_reform_0 rfl (lv_at hl 0 rfl) ?_
  refine lv_aload_n hx hb dX11_reform_1 rfl (lv_at hl 0 rfl) ?_
  refine lv_iload_n hx hb dX11_reform_2 rfl (lv_at hl 1 rfl) ?_
  obtain ⟨hc_3, hf⟩ := aw_chk_some hf
  obtain ⟨z_1, hz_2, hf⟩ := aw_bind_some hf
  refine aw_VI (As := [.int x1]) (rest := [.ref (ad x0)]) X G hl.1 cr_X11_146 (c_X11_isDesign l hz_2) ⟨rfl, rfl⟩ rfl rfl rfl (by decide) hc_3 rfl ⟨Nat.le_of_ble_eq_true rfl, Nat.le_of_ble_eq_true rfl⟩ (Nat.le_of_ble_eq_true rfl) dX11_reform_3 ⟨Nat.zero_le _, Nat.zero_le _⟩ (fun H locs G => ?_)
  refine lv_if_eq (tgt := 21) hx hb dX11_reform_6 (by decide) (fun hc => ?_) (fun hc => ?_)
  · have hf := aw_ite_t hc hf
    exact w_X11_reform_J21 X hf  (lv_sub hl [0, 1, 2] rfl) G
  · have hf := aw_ite_f hc hf
    refine lv_aload_n hx hb dX11_reform_9 rfl (lv_at hl 0 rfl) ?_
    refine lv_iload_n hx hb dX11_reform_10 rfl (lv_at hl 2 rfl) ?_
    obtain ⟨z_24, hz_25, hf⟩ := aw_bind_some hf
    refine aw_VI (As := [.int x2]) (rest := [.ref (ad x0)]) X G hl.1 cr_X11_146 (c_X11_isDesign l hz_25) ⟨rfl, rfl⟩ rfl rfl rfl (by decide) hc_3 rfl ⟨Nat.le_of_ble_eq_true rfl, Nat.le_of_ble_eq_true rfl⟩ (Nat.le_of_ble_eq_true rfl) dX11_reform_11 ⟨Nat.zero_le _, Nat.zero_le _⟩ (fun H locs G => ?_)
    refine lv_if_eq (tgt := 21) hx hb dX11_reform_14 (by decide) (fun hc => ?_) (fun hc => ?_)
    · have hf := aw_ite_t hc hf
      exact w_X11_reform_J21 X hf  (lv_sub hl [0, 1, 2] rfl) G
    · have hf := aw_ite_f hc hf
      refine lv_iconst (v := (0 : Int32)) hx hb dX11_reform_17 (by decide) ?_
      refine lv_goto (tgt := 22) hx hb dX11_reform_18 (by decide) ?_
      exact w_X11_reform_J22 X hf  (lv_sub hl [0, 1, 2] rfl) G
def rm_X11_lost : Room := { frames := 4, cells := 0, slots := 0, locals := 100 }
def f_X11_lost_J122 (σ : Sg) (kb75 : Int32 → Int32 → Dt → Option (Int32 × Dt)) (t0 : Int32) (x0 : Nat) (x3 : Int32) (x4 : Int32) (x6 : Int32) (d : Dt) : Option (Int32 × Dt) :=
  kb75 t0 (x6 + 1) d
def f_X11_lost_J117 (σ : Sg) (kb75 : Int32 → Int32 → Dt → Option (Int32 × Dt)) (x0 : Nat) (x3 : Int32) (x4 : Int32) (x6 : Int32) (d : Dt) : Option (Int32 × Dt) :=
  f_X11_lost_J122 σ kb75 ((1 : Int32)) x0 x3 x4 x6 d
def f_X11_lost_J121 (σ : Sg) (kb75 : Int32 → Int32 → Dt → Option (Int32 × Dt)) (x0 : Nat) (x3 : Int32) (x4 : Int32) (x6 : Int32) (d : Dt) : Option (Int32 × Dt) :=
  f_X11_lost_J122 σ kb75 ((0 : Int32)) x0 x3 x4 x6 d
def f_X11_lost_B75 (σ : Sg) (kb75 : Int32 → Int32 → Dt → Option (Int32 × Dt)) (k75 : Int32 → Dt → Option (Int32 × Dt)) (x0 : Nat) (x3 : Int32) (x4 : Int32) (x5 : Int32) (x6 : Int32) (d : Dt) : Option (Int32 × Dt) :=
  aw_chk (aw_O σ 11 32 x0) (if (d.1 x0 2) ≤ x6 then k75 x5 d else if x5 = 0 then (f_X11_areAlike σ x0 x4 x6 d).bind (fun z_18 => if z_18.1 = 0 then f_X11_lost_J121 σ kb75 x0 x3 x4 x6 z_18.2 else (f_X11_areAlike σ x0 (((20 : Int32)) + x4) (((20 : Int32)) + x6) z_18.2).bind (fun z_20 => if z_20.1 = 0 then f_X11_lost_J117 σ kb75 x0 x3 x4 x6 z_20.2 else f_X11_lost_J121 σ kb75 x0 x3 x4 x6 z_20.2)) else f_X11_lost_J117 σ kb75 x0 x3 x4 x6 d)
def f_X11_lost_L75 (σ : Sg) (n : Nat) (k75 : Int32 → Dt → Option (Int32 × Dt)) (x0 : Nat) (x3 : Int32) (x4 : Int32) : Int32 → Int32 → Dt → Option (Int32 × Dt) := match n with
  | 0 => fun _ _ _ => none
  | n + 1 => fun x5 x6 d => f_X11_lost_B75 σ (f_X11_lost_L75 σ n k75 x0 x3 x4) k75 x0 x3 x4 x5 x6 d
def f_X11_lost_J147 (σ : Sg) (kb60 : Int32 → Int32 → Dt → Option (Int32 × Dt)) (t1 : Int32) (t0 : Int32) (x0 : Nat) (x4 : Int32) (d : Dt) : Option (Int32 × Dt) :=
  kb60 (t0 + t1) (x4 + 1) d
def f_X11_lost_B60 (σ : Sg) (kb60 : Int32 → Int32 → Dt → Option (Int32 × Dt)) (k60 : Int32 → Dt → Option (Int32 × Dt)) (x0 : Nat) (x3 : Int32) (x4 : Int32) (d : Dt) : Option (Int32 × Dt) :=
  aw_chk (aw_O σ 11 32 x0) (if (d.1 x0 2) ≤ x4 then k60 x3 d else f_X11_lost_L75 σ aw_FU (fun x5_22 d_23 => if x5_22 = 0 then f_X11_lost_J147 σ kb60 ((0 : Int32)) x3 x0 x4 d_23 else (σ.2.2 x0 5).bind (fun q_24 => aw_chk (aw_I σ 20 q_24 x4) (f_X11_lost_J147 σ kb60 (d_23.1 q_24 x4.toNatClampNeg) x3 x0 x4 d_23))) x0 x3 x4 ((0 : Int32)) ((0 : Int32)) d)
def f_X11_lost_L60 (σ : Sg) (n : Nat) (k60 : Int32 → Dt → Option (Int32 × Dt)) (x0 : Nat) : Int32 → Int32 → Dt → Option (Int32 × Dt) := match n with
  | 0 => fun _ _ _ => none
  | n + 1 => fun x3 x4 d => f_X11_lost_B60 σ (f_X11_lost_L60 σ n k60 x0) k60 x0 x3 x4 d
def f_X11_lost_J22 (σ : Sg) (t1 : Int32) (t0 : Nat) (x0 : Nat) (x1 : Int32) (x2 : Int32) (d : Dt) : Option (Int32 × Dt) :=
  aw_chk (aw_O σ 11 32 t0) ((f_X11_fails σ t0 t1 d).bind (fun z_4 => if z_4.1 = 0 then aw_chk (aw_O σ 11 32 x0) ((σ.2.2 x0 13).bind (fun q_8 => aw_chk (aw_I σ 20 q_8 x1) ((f_X11_spellsAll σ x0 x1 (z_4.2.1 q_8 x1.toNatClampNeg) ((0 : Int32)) z_4.2).bind (fun z_11 => aw_chk (aw_I σ 20 q_8 x2) ((f_X11_spellsAll σ x0 x2 (z_11.2.1 q_8 x2.toNatClampNeg) ((20 : Int32)) z_11.2).bind (fun z_14 => f_X11_lost_L60 σ aw_FU (fun x3_27 d_28 => some (x3_27, d_28)) x0 ((0 : Int32)) ((0 : Int32)) z_14.2)))))) else some ((0 : Int32), z_4.2)))
def f_X11_lost_J21 (σ : Sg) (t0 : Nat) (x0 : Nat) (x1 : Int32) (x2 : Int32) (d : Dt) : Option (Int32 × Dt) :=
  f_X11_lost_J22 σ ((1 : Int32)) t0 x0 x1 x2 d
def f_X11_lost (σ : Sg) (x0 : Nat) (x1 : Int32) (x2 : Int32) (d : Dt) : Option (Int32 × Dt) :=
  aw_chk (aw_O σ 11 32 x0) ((f_X11_isDesign σ x0 x1 d).bind (fun z_1 => if z_1.1 = 0 then f_X11_lost_J21 σ x0 x0 x1 x2 z_1.2 else (f_X11_isDesign σ x0 x2 z_1.2).bind (fun z_29 => if z_29.1 = 0 then f_X11_lost_J21 σ x0 x0 x1 x2 z_29.2 else f_X11_lost_J22 σ ((0 : Int32)) x0 x0 x1 x2 z_29.2)))
section W_X11_lost
variable {p : Program} {l : Launch} {e : Env} {s : State} {m : MethodId} {args : Array Value} {below : List Frame} {meth : Method} {c : Code}
variable {D : va_G} {cA : Nat → ClassId} {base : Nat} {ad : Nat → Nat} {σ : Sg}
set_option maxHeartbeats 4000000 in
set_option maxRecDepth 100000 in
theorem w_X11_lost_J122 {z : Int32 × Dt} (X : aw_X p c cX11_lost 7 s RX11 m meth (some .int)) {kb75 : Int32 → Int32 → Dt → Option (Int32 × Dt)} {t0 : Int32} {x0 : Nat} {x3 : Int32} {x4 : Int32} {x6 : Int32} {d : Dt} (hf : f_X11_lost_J122 σ kb75 t0 x0 x3 x4 x6 d = some z) (hkb75 : ∀ (y5 : Int32) (y6 : Int32) (d : Dt), kb75 y5 y6 d = some z → ∀ (H : Heap) (locs : List Loc) (ls : Array Slot), lv_has ls 7 [(0, .ref (ad x0)), (3, .int x3), (4, .int x4), (5, .int y5), (6, .int y6)] → aw_G D cA base ad σ d s H locs → W p l e rm_X11_lost s m args below meth c H locs 0 0 (aw_Ei D cA base ad σ below args s z) (F0 m 75 ls [])) {H : Heap} {locs : List Loc} {ls : Array Slot} (hl : lv_has ls 7 [(0, .ref (ad x0)), (3, .int x3), (4, .int x4), (6, .int x6)]) (G : aw_G D cA base ad σ d s H locs) : W p l e rm_X11_lost s m args below meth c H locs 0 0 (aw_Ei D cA base ad σ below args s z) (F0 m 122 ls [.int t0]) := by
  have hx := X.1; have hb := X.2.1; have hml := X.2.2.1; have hown := X.2.2.2.1
  unfold f_X11_lost_J122 at hf
  refine lv_istore (lv' := [(5, .int t0), (0, .ref (ad x0)), (3, .int x3), (4, .int x4), (6, .int x6)]) hx hb dX11_lost_122 hl (by decide) rfl (fun ls hl => ?_)
  refine lv_iinc (v := x6 + 1) (lv' := [(6, .int (x6 + 1)), (5, .int t0), (0, .ref (ad x0)), (3, .int x3), (4, .int x4)]) hx hb dX11_lost_124 hl (k := 4) rfl rfl (by decide) rfl (fun ls hl => ?_)
  refine lv_goto (tgt := 75) hx hb dX11_lost_127 (by decide) ?_
  exact hkb75 _ _ _ hf _ _ _ (lv_sub hl [2, 3, 4, 1, 0] rfl) G
set_option maxHeartbeats 4000000 in
set_option maxRecDepth 100000 in
theorem w_X11_lost_J117 {z : Int32 × Dt} (X : aw_X p c cX11_lost 7 s RX11 m meth (some .int)) {kb75 : Int32 → Int32 → Dt → Option (Int32 × Dt)} {x0 : Nat} {x3 : Int32} {x4 : Int32} {x6 : Int32} {d : Dt} (hf : f_X11_lost_J117 σ kb75 x0 x3 x4 x6 d = some z) (hkb75 : ∀ (y5 : Int32) (y6 : Int32) (d : Dt), kb75 y5 y6 d = some z → ∀ (H : Heap) (locs : List Loc) (ls : Array Slot), lv_has ls 7 [(0, .ref (ad x0)), (3, .int x3), (4, .int x4), (5, .int y5), (6, .int y6)] → aw_G D cA base ad σ d s H locs → W p l e rm_X11_lost s m args below meth c H locs 0 0 (aw_Ei D cA base ad σ below args s z) (F0 m 75 ls [])) {H : Heap} {locs : List Loc} {ls : Array Slot} (hl : lv_has ls 7 [(0, .ref (ad x0)), (3, .int x3), (4, .int x4), (6, .int x6)]) (G : aw_G D cA base ad σ d s H locs) : W p l e rm_X11_lost s m args below meth c H locs 0 0 (aw_Ei D cA base ad σ below args s z) (F0 m 117 ls []) := by
  have hx := X.1; have hb := X.2.1; have hml := X.2.2.1; have hown := X.2.2.2.1
  unfold f_X11_lost_J117 at hf
  refine lv_iconst (v := (1 : Int32)) hx hb dX11_lost_117 (by decide) ?_
  refine lv_goto (tgt := 122) hx hb dX11_lost_118 (by decide) ?_
  exact w_X11_lost_J122 X hf hkb75 (lv_sub hl [0, 1, 2, 3] rfl) G
set_option maxHeartbeats 4000000 in
set_option maxRecDepth 100000 in
theorem w_X11_lost_J121 {z : Int32 × Dt} (X : aw_X p c cX11_lost 7 s RX11 m meth (some .int)) {kb75 : Int32 → Int32 → Dt → Option (Int32 × Dt)} {x0 : Nat} {x3 : Int32} {x4 : Int32} {x6 : Int32} {d : Dt} (hf : f_X11_lost_J121 σ kb75 x0 x3 x4 x6 d = some z) (hkb75 : ∀ (y5 : Int32) (y6 : Int32) (d : Dt), kb75 y5 y6 d = some z → ∀ (H : Heap) (locs : List Loc) (ls : Array Slot), lv_has ls 7 [(0, .ref (ad x0)), (3, .int x3), (4, .int x4), (5, .int y5), (6, .int y6)] → aw_G D cA base ad σ d s H locs → W p l e rm_X11_lost s m args below meth c H locs 0 0 (aw_Ei D cA base ad σ below args s z) (F0 m 75 ls [])) {H : Heap} {locs : List Loc} {ls : Array Slot} (hl : lv_has ls 7 [(0, .ref (ad x0)), (3, .int x3), (4, .int x4), (6, .int x6)]) (G : aw_G D cA base ad σ d s H locs) : W p l e rm_X11_lost s m args below meth c H locs 0 0 (aw_Ei D cA base ad σ below args s z) (F0 m 121 ls []) := by
  have hx := X.1; have hb := X.2.1; have hml := X.2.2.1; have hown := X.2.2.2.1
  unfold f_X11_lost_J121 at hf
  refine lv_iconst (v := (0 : Int32)) hx hb dX11_lost_121 (by decide) ?_
  exact w_X11_lost_J122 X hf hkb75 (lv_sub hl [0, 1, 2, 3] rfl) G
set_option maxHeartbeats 4000000 in
set_option maxRecDepth 100000 in
theorem w_X11_lost_B75 {z : Int32 × Dt} (X : aw_X p c cX11_lost 7 s RX11 m meth (some .int)) {kb75 : Int32 → Int32 → Dt → Option (Int32 × Dt)} {k75 : Int32 → Dt → Option (Int32 × Dt)} {x0 : Nat} {x3 : Int32} {x4 : Int32} {x5 : Int32} {x6 : Int32} {d : Dt} (hf : f_X11_lost_B75 σ kb75 k75 x0 x3 x4 x5 x6 d = some z) (hkb75 : ∀ (y5 : Int32) (y6 : Int32) (d : Dt), kb75 y5 y6 d = some z → ∀ (H : Heap) (locs : List Loc) (ls : Array Slot), lv_has ls 7 [(0, .ref (ad x0)), (3, .int x3), (4, .int x4), (5, .int y5), (6, .int y6)] → aw_G D cA base ad σ d s H locs → W p l e rm_X11_lost s m args below meth c H locs 0 0 (aw_Ei D cA base ad σ below args s z) (F0 m 75 ls [])) (hk75 : ∀ (y5 : Int32) (d : Dt), k75 y5 d = some z → ∀ (H : Heap) (locs : List Loc) (ls : Array Slot), lv_has ls 7 [(0, .ref (ad x0)), (3, .int x3), (4, .int x4), (5, .int y5)] → aw_G D cA base ad σ d s H locs → W p l e rm_X11_lost s m args below meth c H locs 0 0 (aw_Ei D cA base ad σ below args s z) (F0 m 130 ls [])) {H : Heap} {locs : List Loc} {ls : Array Slot} (hl : lv_has ls 7 [(0, .ref (ad x0)), (3, .int x3), (4, .int x4), (5, .int x5), (6, .int x6)]) (G : aw_G D cA base ad σ d s H locs) : W p l e rm_X11_lost s m args below meth c H locs 0 0 (aw_Ei D cA base ad σ below args s z) (F0 m 75 ls []) := by
  have hx := X.1; have hb := X.2.1; have hml := X.2.2.1; have hown := X.2.2.2.1
  unfold f_X11_lost_B75 at hf
  refine lv_iload hx hb dX11_lost_75 (lv_at hl 4 rfl) ?_
  refine lv_aload_n hx hb dX11_lost_77 rfl (lv_at hl 0 rfl) ?_
  obtain ⟨hc_17, hf⟩ := aw_chk_some hf
  refine gf_X11_100 hx hb G hown hc_17 dX11_lost_78 ?_
  refine lv_icmp_ge (tgt := 130) hx hb dX11_lost_81 (by decide) (fun hc => ?_) (fun hc => ?_)
  · have hf := aw_ite_t hc hf
    exact hk75 _ _ hf _ _ _ (lv_sub hl [0, 1, 2, 3] rfl) G
  · have hf := aw_ite_f hc hf
    refine lv_iload hx hb dX11_lost_84 (lv_at hl 3 rfl) ?_
    refine lv_if_ne (tgt := 117) hx hb dX11_lost_86 (by decide) (fun hc => ?_) (fun hc => ?_)
    · have hf := aw_ite_f hc hf
      exact w_X11_lost_J117 X hf hkb75 (lv_sub hl [0, 1, 2, 4] rfl) G
    · have hf := aw_ite_t hc hf
      refine lv_aload_n hx hb dX11_lost_89 rfl (lv_at hl 0 rfl) ?_
      refine lv_iload hx hb dX11_lost_90 (lv_at hl 2 rfl) ?_
      refine lv_iload hx hb dX11_lost_92 (lv_at hl 4 rfl) ?_
      obtain ⟨z_18, hz_19, hf⟩ := aw_bind_some hf
      refine aw_VI (As := [.int x4, .int x6]) (rest := []) X G hl.1 cr_X11_160 (c_X11_areAlike l hz_19) ⟨rfl, rfl⟩ rfl rfl rfl (by decide) hc_17 rfl ⟨Nat.le_of_ble_eq_true rfl, Nat.le_of_ble_eq_true rfl⟩ (Nat.le_of_ble_eq_true rfl) dX11_lost_94 ⟨Nat.zero_le _, Nat.zero_le _⟩ (fun H locs G => ?_)
      refine lv_if_eq (tgt := 121) hx hb dX11_lost_97 (by decide) (fun hc => ?_) (fun hc => ?_)
      · have hf := aw_ite_t hc hf
        exact w_X11_lost_J121 X hf hkb75 (lv_sub hl [0, 1, 2, 4] rfl) G
      · have hf := aw_ite_f hc hf
        refine lv_aload_n hx hb dX11_lost_100 rfl (lv_at hl 0 rfl) ?_
        refine lv_bipush (v := (20 : Int32)) hx hb dX11_lost_101 (by decide) ?_
        refine lv_iload hx hb dX11_lost_103 (lv_at hl 2 rfl) ?_
        refine lv_iadd hx hb dX11_lost_105 ?_
        refine lv_bipush (v := (20 : Int32)) hx hb dX11_lost_106 (by decide) ?_
        refine lv_iload hx hb dX11_lost_108 (lv_at hl 4 rfl) ?_
        refine lv_iadd hx hb dX11_lost_110 ?_
        obtain ⟨z_20, hz_21, hf⟩ := aw_bind_some hf
        refine aw_VI (As := [.int (((20 : Int32)) + x4), .int (((20 : Int32)) + x6)]) (rest := []) X G hl.1 cr_X11_160 (c_X11_areAlike l hz_21) ⟨rfl, rfl⟩ rfl rfl rfl (by decide) hc_17 rfl ⟨Nat.le_of_ble_eq_true rfl, Nat.le_of_ble_eq_true rfl⟩ (Nat.le_of_ble_eq_true rfl) dX11_lost_111 ⟨Nat.zero_le _, Nat.zero_le _⟩ (fun H locs G => ?_)
        refine lv_if_ne (tgt := 121) hx hb dX11_lost_114 (by decide) (fun hc => ?_) (fun hc => ?_)
        · have hf := aw_ite_f hc hf
          exact w_X11_lost_J121 X hf hkb75 (lv_sub hl [0, 1, 2, 4] rfl) G
        · have hf := aw_ite_t hc hf
          exact w_X11_lost_J117 X hf hkb75 (lv_sub hl [0, 1, 2, 4] rfl) G
theorem w_X11_lost_L75 {z : Int32 × Dt} (X : aw_X p c cX11_lost 7 s RX11 m meth (some .int)) {k75 : Int32 → Dt → Option (Int32 × Dt)} {x0 : Nat} {x3 : Int32} {x4 : Int32} (n : Nat) {x5 : Int32} {x6 : Int32} {d : Dt} (hf : f_X11_lost_L75 σ n k75 x0 x3 x4 x5 x6 d = some z) (hk75 : ∀ (y5 : Int32) (d : Dt), k75 y5 d = some z → ∀ (H : Heap) (locs : List Loc) (ls : Array Slot), lv_has ls 7 [(0, .ref (ad x0)), (3, .int x3), (4, .int x4), (5, .int y5)] → aw_G D cA base ad σ d s H locs → W p l e rm_X11_lost s m args below meth c H locs 0 0 (aw_Ei D cA base ad σ below args s z) (F0 m 130 ls [])) {H : Heap} {locs : List Loc} {ls : Array Slot} (hl : lv_has ls 7 [(0, .ref (ad x0)), (3, .int x3), (4, .int x4), (5, .int x5), (6, .int x6)]) (G : aw_G D cA base ad σ d s H locs) : W p l e rm_X11_lost s m args below meth c H locs 0 0 (aw_Ei D cA base ad σ below args s z) (F0 m 75 ls []) := by
  induction n generalizing x5 x6 d H locs ls with
  | zero => exact absurd (show (none : Option (Int32 × Dt)) = some z from hf) (by simp)
  | succ n ih => exact w_X11_lost_B75 X (kb75 := f_X11_lost_L75 σ n k75 x0 x3 x4) hf  (fun x5 x6 d hf H locs ls hl G => ih hf hl G) hk75 hl G
set_option maxHeartbeats 4000000 in
set_option maxRecDepth 100000 in
theorem w_X11_lost_J147 {z : Int32 × Dt} (X : aw_X p c cX11_lost 7 s RX11 m meth (some .int)) {kb60 : Int32 → Int32 → Dt → Option (Int32 × Dt)} {t1 : Int32} {t0 : Int32} {x0 : Nat} {x4 : Int32} {d : Dt} (hf : f_X11_lost_J147 σ kb60 t1 t0 x0 x4 d = some z) (hkb60 : ∀ (y3 : Int32) (y4 : Int32) (d : Dt), kb60 y3 y4 d = some z → ∀ (H : Heap) (locs : List Loc) (ls : Array Slot), lv_has ls 7 [(0, .ref (ad x0)), (3, .int y3), (4, .int y4)] → aw_G D cA base ad σ d s H locs → W p l e rm_X11_lost s m args below meth c H locs 0 0 (aw_Ei D cA base ad σ below args s z) (F0 m 60 ls [])) {H : Heap} {locs : List Loc} {ls : Array Slot} (hl : lv_has ls 7 [(0, .ref (ad x0)), (4, .int x4)]) (G : aw_G D cA base ad σ d s H locs) : W p l e rm_X11_lost s m args below meth c H locs 0 0 (aw_Ei D cA base ad σ below args s z) (F0 m 147 ls [.int t1, .int t0]) := by
  have hx := X.1; have hb := X.2.1; have hml := X.2.2.1; have hown := X.2.2.2.1
  unfold f_X11_lost_J147 at hf
  refine lv_iadd hx hb dX11_lost_147 ?_
  refine lv_istore_n (lv' := [(3, .int (t0 + t1)), (0, .ref (ad x0)), (4, .int x4)]) hx hb dX11_lost_148 rfl hl (by decide) rfl (fun ls hl => ?_)
  refine lv_iinc (v := x4 + 1) (lv' := [(4, .int (x4 + 1)), (3, .int (t0 + t1)), (0, .ref (ad x0))]) hx hb dX11_lost_149 hl (k := 2) rfl rfl (by decide) rfl (fun ls hl => ?_)
  refine lv_goto (tgt := 60) hx hb dX11_lost_152 (by decide) ?_
  exact hkb60 _ _ _ hf _ _ _ (lv_sub hl [2, 1, 0] rfl) G
set_option maxHeartbeats 4000000 in
set_option maxRecDepth 100000 in
theorem w_X11_lost_B60 {z : Int32 × Dt} (X : aw_X p c cX11_lost 7 s RX11 m meth (some .int)) {kb60 : Int32 → Int32 → Dt → Option (Int32 × Dt)} {k60 : Int32 → Dt → Option (Int32 × Dt)} {x0 : Nat} {x3 : Int32} {x4 : Int32} {d : Dt} (hf : f_X11_lost_B60 σ kb60 k60 x0 x3 x4 d = some z) (hkb60 : ∀ (y3 : Int32) (y4 : Int32) (d : Dt), kb60 y3 y4 d = some z → ∀ (H : Heap) (locs : List Loc) (ls : Array Slot), lv_has ls 7 [(0, .ref (ad x0)), (3, .int y3), (4, .int y4)] → aw_G D cA base ad σ d s H locs → W p l e rm_X11_lost s m args below meth c H locs 0 0 (aw_Ei D cA base ad σ below args s z) (F0 m 60 ls [])) (hk60 : ∀ (y3 : Int32) (d : Dt), k60 y3 d = some z → ∀ (H : Heap) (locs : List Loc) (ls : Array Slot), lv_has ls 7 [(3, .int y3)] → aw_G D cA base ad σ d s H locs → W p l e rm_X11_lost s m args below meth c H locs 0 0 (aw_Ei D cA base ad σ below args s z) (F0 m 155 ls [])) {H : Heap} {locs : List Loc} {ls : Array Slot} (hl : lv_has ls 7 [(0, .ref (ad x0)), (3, .int x3), (4, .int x4)]) (G : aw_G D cA base ad σ d s H locs) : W p l e rm_X11_lost s m args below meth c H locs 0 0 (aw_Ei D cA base ad σ below args s z) (F0 m 60 ls []) := by
  have hx := X.1; have hb := X.2.1; have hml := X.2.2.1; have hown := X.2.2.2.1
  unfold f_X11_lost_B60 at hf
  refine lv_iload hx hb dX11_lost_60 (lv_at hl 2 rfl) ?_
  refine lv_aload_n hx hb dX11_lost_62 rfl (lv_at hl 0 rfl) ?_
  obtain ⟨hc_16, hf⟩ := aw_chk_some hf
  refine gf_X11_100 hx hb G hown hc_16 dX11_lost_63 ?_
  refine lv_icmp_ge (tgt := 155) hx hb dX11_lost_66 (by decide) (fun hc => ?_) (fun hc => ?_)
  · have hf := aw_ite_t hc hf
    exact hk60 _ _ hf _ _ _ (lv_sub hl [1] rfl) G
  · have hf := aw_ite_f hc hf
    refine lv_iconst (v := (0 : Int32)) hx hb dX11_lost_69 (by decide) ?_
    refine lv_istore (lv' := [(5, .int ((0 : Int32))), (0, .ref (ad x0)), (3, .int x3), (4, .int x4)]) hx hb dX11_lost_70 hl (by decide) rfl (fun ls hl => ?_)
    refine lv_iconst (v := (0 : Int32)) hx hb dX11_lost_72 (by decide) ?_
    refine lv_istore (lv' := [(6, .int ((0 : Int32))), (5, .int ((0 : Int32))), (0, .ref (ad x0)), (3, .int x3), (4, .int x4)]) hx hb dX11_lost_73 hl (by decide) rfl (fun ls hl => ?_)
    refine w_X11_lost_L75 X aw_FU hf  (fun x5_22 d_23 hf H locs ls hl G => ?_) (lv_sub hl [2, 3, 4, 1, 0] rfl) G
    refine lv_iload_n hx hb dX11_lost_130 rfl (lv_at hl 1 rfl) ?_
    refine lv_iload hx hb dX11_lost_131 (lv_at hl 3 rfl) ?_
    refine lv_if_eq (tgt := 146) hx hb dX11_lost_133 (by decide) (fun hc => ?_) (fun hc => ?_)
    · have hf := aw_ite_t hc hf
      refine lv_iconst (v := (0 : Int32)) hx hb dX11_lost_146 (by decide) ?_
      exact w_X11_lost_J147 X hf hkb60 (lv_sub hl [0, 2] rfl) G
    · have hf := aw_ite_f hc hf
      refine lv_aload_n hx hb dX11_lost_136 rfl (lv_at hl 0 rfl) ?_
      obtain ⟨q_24, hq_25, hf⟩ := aw_bind_some hf
      refine gf_X11_19 hx hb G hown hc_16 hq_25 dX11_lost_137 ?_
      refine lv_iload hx hb dX11_lost_140 (lv_at hl 2 rfl) ?_
      obtain ⟨hc_26, hf⟩ := aw_chk_some hf
      refine aw_ial hx hb G hc_26 dX11_lost_142 ?_
      refine lv_goto (tgt := 147) hx hb dX11_lost_143 (by decide) ?_
      exact w_X11_lost_J147 X hf hkb60 (lv_sub hl [0, 2] rfl) G
theorem w_X11_lost_L60 {z : Int32 × Dt} (X : aw_X p c cX11_lost 7 s RX11 m meth (some .int)) {k60 : Int32 → Dt → Option (Int32 × Dt)} {x0 : Nat} (n : Nat) {x3 : Int32} {x4 : Int32} {d : Dt} (hf : f_X11_lost_L60 σ n k60 x0 x3 x4 d = some z) (hk60 : ∀ (y3 : Int32) (d : Dt), k60 y3 d = some z → ∀ (H : Heap) (locs : List Loc) (ls : Array Slot), lv_has ls 7 [(3, .int y3)] → aw_G D cA base ad σ d s H locs → W p l e rm_X11_lost s m args below meth c H locs 0 0 (aw_Ei D cA base ad σ below args s z) (F0 m 155 ls [])) {H : Heap} {locs : List Loc} {ls : Array Slot} (hl : lv_has ls 7 [(0, .ref (ad x0)), (3, .int x3), (4, .int x4)]) (G : aw_G D cA base ad σ d s H locs) : W p l e rm_X11_lost s m args below meth c H locs 0 0 (aw_Ei D cA base ad σ below args s z) (F0 m 60 ls []) := by
  induction n generalizing x3 x4 d H locs ls with
  | zero => exact absurd (show (none : Option (Int32 × Dt)) = some z from hf) (by simp)
  | succ n ih => exact w_X11_lost_B60 X (kb60 := f_X11_lost_L60 σ n k60 x0) hf  (fun x3 x4 d hf H locs ls hl G => ih hf hl G) hk60 hl G
set_option maxHeartbeats 4000000 in
set_option maxRecDepth 100000 in
theorem w_X11_lost_J22 {z : Int32 × Dt} (X : aw_X p c cX11_lost 7 s RX11 m meth (some .int)) {t1 : Int32} {t0 : Nat} {x0 : Nat} {x1 : Int32} {x2 : Int32} {d : Dt} (hf : f_X11_lost_J22 σ t1 t0 x0 x1 x2 d = some z)  {H : Heap} {locs : List Loc} {ls : Array Slot} (hl : lv_has ls 7 [(0, .ref (ad x0)), (1, .int x1), (2, .int x2)]) (G : aw_G D cA base ad σ d s H locs) : W p l e rm_X11_lost s m args below meth c H locs 0 0 (aw_Ei D cA base ad σ below args s z) (F0 m 22 ls [.int t1, .ref (ad t0)]) := by
  have hx := X.1; have hb := X.2.1; have hml := X.2.2.1; have hown := X.2.2.2.1
  unfold f_X11_lost_J22 at hf
  obtain ⟨hc_6, hf⟩ := aw_chk_some hf
  obtain ⟨z_4, hz_5, hf⟩ := aw_bind_some hf
  refine aw_VI (As := [.int t1]) (rest := []) X G hl.1 cr_X11_113 (c_X11_fails l hz_5) ⟨rfl, rfl⟩ rfl rfl rfl (by decide) hc_6 rfl ⟨Nat.le_of_ble_eq_true rfl, Nat.le_of_ble_eq_true rfl⟩ (Nat.le_of_ble_eq_true rfl) dX11_lost_22 ⟨Nat.zero_le _, Nat.zero_le _⟩ (fun H locs G => ?_)
  refine lv_if_eq (tgt := 30) hx hb dX11_lost_25 (by decide) (fun hc => ?_) (fun hc => ?_)
  · have hf := aw_ite_t hc hf
    refine lv_aload_n hx hb dX11_lost_30 rfl (lv_at hl 0 rfl) ?_
    refine lv_iload_n hx hb dX11_lost_31 rfl (lv_at hl 1 rfl) ?_
    refine lv_aload_n hx hb dX11_lost_32 rfl (lv_at hl 0 rfl) ?_
    obtain ⟨hc_7, hf⟩ := aw_chk_some hf
    obtain ⟨q_8, hq_9, hf⟩ := aw_bind_some hf
    refine gf_X11_41 hx hb G hown hc_7 hq_9 dX11_lost_33 ?_
    refine lv_iload_n hx hb dX11_lost_36 rfl (lv_at hl 1 rfl) ?_
    obtain ⟨hc_10, hf⟩ := aw_chk_some hf
    refine aw_ial hx hb G hc_10 dX11_lost_37 ?_
    refine lv_iconst (v := (0 : Int32)) hx hb dX11_lost_38 (by decide) ?_
    obtain ⟨z_11, hz_12, hf⟩ := aw_bind_some hf
    refine aw_VV (As := [.int x1, .int (z_4.2.1 q_8 x1.toNatClampNeg), .int ((0 : Int32))]) (rest := []) X G hl.1 cr_X11_156 (c_X11_spellsAll l hz_12) ⟨rfl, rfl⟩ rfl rfl rfl (by decide) hc_7 rfl ⟨Nat.le_of_ble_eq_true rfl, Nat.le_of_ble_eq_true rfl⟩ (Nat.le_of_ble_eq_true rfl) dX11_lost_39 ⟨Nat.zero_le _, Nat.zero_le _⟩ (fun H locs G => ?_)
    refine lv_aload_n hx hb dX11_lost_42 rfl (lv_at hl 0 rfl) ?_
    refine lv_iload_n hx hb dX11_lost_43 rfl (lv_at hl 2 rfl) ?_
    refine lv_aload_n hx hb dX11_lost_44 rfl (lv_at hl 0 rfl) ?_
    refine gf_X11_41 hx hb G hown hc_7 hq_9 dX11_lost_45 ?_
    refine lv_iload_n hx hb dX11_lost_48 rfl (lv_at hl 2 rfl) ?_
    obtain ⟨hc_13, hf⟩ := aw_chk_some hf
    refine aw_ial hx hb G hc_13 dX11_lost_49 ?_
    refine lv_bipush (v := (20 : Int32)) hx hb dX11_lost_50 (by decide) ?_
    obtain ⟨z_14, hz_15, hf⟩ := aw_bind_some hf
    refine aw_VV (As := [.int x2, .int (z_11.2.1 q_8 x2.toNatClampNeg), .int ((20 : Int32))]) (rest := []) X G hl.1 cr_X11_156 (c_X11_spellsAll l hz_15) ⟨rfl, rfl⟩ rfl rfl rfl (by decide) hc_7 rfl ⟨Nat.le_of_ble_eq_true rfl, Nat.le_of_ble_eq_true rfl⟩ (Nat.le_of_ble_eq_true rfl) dX11_lost_52 ⟨Nat.zero_le _, Nat.zero_le _⟩ (fun H locs G => ?_)
    refine lv_iconst (v := (0 : Int32)) hx hb dX11_lost_55 (by decide) ?_
    refine lv_istore_n (lv' := [(3, .int ((0 : Int32))), (0, .ref (ad x0)), (1, .int x1), (2, .int x2)]) hx hb dX11_lost_56 rfl hl (by decide) rfl (fun ls hl => ?_)
    refine lv_iconst (v := (0 : Int32)) hx hb dX11_lost_57 (by decide) ?_
    refine lv_istore (lv' := [(4, .int ((0 : Int32))), (3, .int ((0 : Int32))), (0, .ref (ad x0)), (1, .int x1), (2, .int x2)]) hx hb dX11_lost_58 hl (by decide) rfl (fun ls hl => ?_)
    refine w_X11_lost_L60 X aw_FU hf  (fun x3_27 d_28 hf H locs ls hl G => ?_) (lv_sub hl [2, 1, 0] rfl) G
    refine lv_iload_n hx hb dX11_lost_155 rfl (lv_at hl 0 rfl) ?_
    exact aw_reti X G hf dX11_lost_156
  · have hf := aw_ite_f hc hf
    refine lv_iconst (v := (0 : Int32)) hx hb dX11_lost_28 (by decide) ?_
    exact aw_reti X G hf dX11_lost_29
set_option maxHeartbeats 4000000 in
set_option maxRecDepth 100000 in
theorem w_X11_lost_J21 {z : Int32 × Dt} (X : aw_X p c cX11_lost 7 s RX11 m meth (some .int)) {t0 : Nat} {x0 : Nat} {x1 : Int32} {x2 : Int32} {d : Dt} (hf : f_X11_lost_J21 σ t0 x0 x1 x2 d = some z)  {H : Heap} {locs : List Loc} {ls : Array Slot} (hl : lv_has ls 7 [(0, .ref (ad x0)), (1, .int x1), (2, .int x2)]) (G : aw_G D cA base ad σ d s H locs) : W p l e rm_X11_lost s m args below meth c H locs 0 0 (aw_Ei D cA base ad σ below args s z) (F0 m 21 ls [.ref (ad t0)]) := by
  have hx := X.1; have hb := X.2.1; have hml := X.2.2.1; have hown := X.2.2.2.1
  unfold f_X11_lost_J21 at hf
  refine lv_iconst (v := (1 : Int32)) hx hb dX11_lost_21 (by decide) ?_
  exact w_X11_lost_J22 X hf  (lv_sub hl [0, 1, 2] rfl) G
end W_X11_lost
set_option maxHeartbeats 4000000 in
set_option maxRecDepth 100000 in
theorem c_X11_lost (l : Launch) {σ : Sg} {x0 : Nat} {x1 : Int32} {x2 : Int32} {d : Dt} {z : Int32 × Dt} (hf : f_X11_lost σ x0 x1 x2 d = some z) : aw_Mi l yX11_lost (Cond.code yX11_lost cX11_lost 7 (some .int)) rm_X11_lost (fun ad => [.ref (ad x0), .int x1, .int x2]) σ d z := by
  intro D cA base ad
  refine aw_ofW (own := RX11) (cc := cX11_lost) (nL := 7) (ret := some .int) (by decide) rfl rfl ?_
  intro p e s m below meth c X hnm G
  have hx := X.1; have hb := X.2.1; have hml := X.2.2.1; have hown := X.2.2.2.1
  refine aw_ls (lv := [(0, .ref (ad x0)), (1, .int x1), (2, .int x2)]) (Nat.le_of_ble_eq_true rfl) rfl (fun ls hl => ?_)
  unfold f_X11_lost at hf
  refine lv_aload_n hx hb dX11_lost_0 rfl (lv_at hl 0 rfl) ?_
  refine lv_aload_n hx hb dX11_lost_1 rfl (lv_at hl 0 rfl) ?_
  refine lv_iload_n hx hb dX11_lost_2 rfl (lv_at hl 1 rfl) ?_
  obtain ⟨hc_3, hf⟩ := aw_chk_some hf
  obtain ⟨z_1, hz_2, hf⟩ := aw_bind_some hf
  refine aw_VI (As := [.int x1]) (rest := [.ref (ad x0)]) X G hl.1 cr_X11_146 (c_X11_isDesign l hz_2) ⟨rfl, rfl⟩ rfl rfl rfl (by decide) hc_3 rfl ⟨Nat.le_of_ble_eq_true rfl, Nat.le_of_ble_eq_true rfl⟩ (Nat.le_of_ble_eq_true rfl) dX11_lost_3 ⟨Nat.zero_le _, Nat.zero_le _⟩ (fun H locs G => ?_)
  refine lv_if_eq (tgt := 21) hx hb dX11_lost_6 (by decide) (fun hc => ?_) (fun hc => ?_)
  · have hf := aw_ite_t hc hf
    exact w_X11_lost_J21 X hf  (lv_sub hl [0, 1, 2] rfl) G
  · have hf := aw_ite_f hc hf
    refine lv_aload_n hx hb dX11_lost_9 rfl (lv_at hl 0 rfl) ?_
    refine lv_iload_n hx hb dX11_lost_10 rfl (lv_at hl 2 rfl) ?_
    obtain ⟨z_29, hz_30, hf⟩ := aw_bind_some hf
    refine aw_VI (As := [.int x2]) (rest := [.ref (ad x0)]) X G hl.1 cr_X11_146 (c_X11_isDesign l hz_30) ⟨rfl, rfl⟩ rfl rfl rfl (by decide) hc_3 rfl ⟨Nat.le_of_ble_eq_true rfl, Nat.le_of_ble_eq_true rfl⟩ (Nat.le_of_ble_eq_true rfl) dX11_lost_11 ⟨Nat.zero_le _, Nat.zero_le _⟩ (fun H locs G => ?_)
    refine lv_if_eq (tgt := 21) hx hb dX11_lost_14 (by decide) (fun hc => ?_) (fun hc => ?_)
    · have hf := aw_ite_t hc hf
      exact w_X11_lost_J21 X hf  (lv_sub hl [0, 1, 2] rfl) G
    · have hf := aw_ite_f hc hf
      refine lv_iconst (v := (0 : Int32)) hx hb dX11_lost_17 (by decide) ?_
      refine lv_goto (tgt := 22) hx hb dX11_lost_18 (by decide) ?_
      exact w_X11_lost_J22 X hf  (lv_sub hl [0, 1, 2] rfl) G
