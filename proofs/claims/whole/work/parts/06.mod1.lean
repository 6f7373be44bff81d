/-! X11_mark X11_spells X11_spellsAll X11_areAlike X11_spelled X11_doubts X11_loadOf X11_load X11_loadIf X11_tones -/
def rm_X11_mark : Room := { frames := 2, cells := 0, slots := 0, locals := 43 }
def f_X11_mark_J23 (σ : Sg) (t1 : Int32) (t0 : Nat) (x0 : Nat) (x1 : Int32) (x2 : Int32) (x3 : Int32) (d : Dt) : Option (Int32 × Dt) :=
  aw_chk (aw_O σ 11 32 t0) ((f_X11_fails σ t0 t1 d).bind (fun z_4 => if z_4.1 = 0 then aw_chk (aw_O σ 11 32 x0) ((σ.2.2 x0 15).bind (fun q_8 => aw_chk (aw_I σ 22 q_8 ((((3 : Int32)) * x1) + x2)) (aw_chk ((z_4.2.1 q_8 ((((3 : Int32)) * x1) + x2).toNatClampNeg) &&& 1 = (z_4.2.1 q_8 ((((3 : Int32)) * x1) + x2).toNatClampNeg)) (some (z_4.2.1 q_8 ((((3 : Int32)) * x1) + x2).toNatClampNeg, aw_sI z_4.2 q_8 ((((3 : Int32)) * x1) + x2).toNatClampNeg (vp_nar .boolean x3)))))) else aw_chk (((0 : Int32)) &&& 1 = ((0 : Int32))) (some ((0 : Int32), z_4.2))))
def f_X11_mark_J22 (σ : Sg) (t0 : Nat) (x0 : Nat) (x1 : Int32) (x2 : Int32) (x3 : Int32) (d : Dt) : Option (Int32 × Dt) :=
  f_X11_mark_J23 σ ((1 : Int32)) t0 x0 x1 x2 x3 d
def f_X11_mark (σ : Sg) (x0 : Nat) (x1 : Int32) (x2 : Int32) (x3 : Int32) (d : Dt) : Option (Int32 × Dt) :=
  aw_chk (aw_O σ 11 32 x0) ((f_X11_isDesign σ x0 x1 d).bind (fun z_1 => if z_1.1 = 0 then f_X11_mark_J22 σ x0 x0 x1 x2 x3 z_1.2 else (f_X11_isIn σ x2 ((0 : Int32)) ((2 : Int32)) z_1.2).bind (fun z_13 => if z_13.1 = 0 then f_X11_mark_J22 σ x0 x0 x1 x2 x3 z_13.2 else f_X11_mark_J23 σ ((0 : Int32)) x0 x0 x1 x2 x3 z_13.2)))
section W_X11_mark
variable {p : Program} {l : Launch} {e : Env} {s : State} {m : MethodId} {args : Array Value} {below : List Frame} {meth : Method} {c : Code}
variable {D : va_G} {cA : Nat → ClassId} {base : Nat} {ad : Nat → Nat} {σ : Sg}
set_option maxHeartbeats 4000000 in
set_option maxRecDepth 100000 in
theorem w_X11_mark_J23 {z : Int32 × Dt} (X : aw_X p c cX11_mark 5 s RX11 m meth (some .boolean)) {t1 : Int32} {t0 : Nat} {x0 : Nat} {x1 : Int32} {x2 : Int32} {x3 : Int32} {d : Dt} (hf : f_X11_mark_J23 σ t1 t0 x0 x1 x2 x3 d = some z)  {H : Heap} {locs : List Loc} {ls : Array Slot} (hl : lv_has ls 5 [(0, .ref (ad x0)), (1, .int x1), (2, .int x2), (3, .int x3)]) (G : aw_G D cA base ad σ d s H locs) : W p l e rm_X11_mark s m args below meth c H locs 0 0 (aw_Ei D cA base ad σ below args s z) (F0 m 23 ls [.int t1, .ref (ad t0)]) := by
  have hx := X.1; have hb := X.2.1; have hml := X.2.2.1; have hown := X.2.2.2.1
  unfold f_X11_mark_J23 at hf
  obtain ⟨hc_6, hf⟩ := aw_chk_some hf
  obtain ⟨z_4, hz_5, hf⟩ := aw_bind_some hf
  refine aw_VI (As := [.int t1]) (rest := []) X G hl.1 cr_X11_113 (c_X11_fails l hz_5) ⟨rfl, rfl⟩ rfl rfl rfl (by decide) hc_6 rfl ⟨Nat.le_of_ble_eq_true rfl, Nat.le_of_ble_eq_true rfl⟩ (Nat.le_of_ble_eq_true rfl) dX11_mark_23 ⟨Nat.zero_le _, Nat.zero_le _⟩ (fun H locs G => ?_)
  refine lv_if_eq (tgt := 31) hx hb dX11_mark_26 (by decide) (fun hc => ?_) (fun hc => ?_)
  · have hf := aw_ite_t hc hf
    refine lv_aload_n hx hb dX11_mark_31 rfl (lv_at hl 0 rfl) ?_
    obtain ⟨hc_7, hf⟩ := aw_chk_some hf
    obtain ⟨q_8, hq_9, hf⟩ := aw_bind_some hf
    refine gf_X11_47 hx hb G hown hc_7 hq_9 dX11_mark_32 ?_
    refine lv_iconst (v := (3 : Int32)) hx hb dX11_mark_35 (by decide) ?_
    refine lv_iload_n hx hb dX11_mark_36 rfl (lv_at hl 1 rfl) ?_
    refine lv_imul hx hb dX11_mark_37 ?_
    refine lv_iload_n hx hb dX11_mark_38 rfl (lv_at hl 2 rfl) ?_
    refine lv_iadd hx hb dX11_mark_39 ?_
    obtain ⟨hc_10, hf⟩ := aw_chk_some hf
    refine aw_zal hx hb G hc_10 dX11_mark_40 ?_
    refine lv_istore (lv' := [(4, .int (z_4.2.1 q_8 ((((3 : Int32)) * x1) + x2).toNatClampNeg)), (0, .ref (ad x0)), (1, .int x1), (2, .int x2), (3, .int x3)]) hx hb dX11_mark_41 hl (by decide) rfl (fun ls hl => ?_)
    refine lv_aload_n hx hb dX11_mark_43 rfl (lv_at hl 1 rfl) ?_
    refine gf_X11_47 hx hb G hown hc_7 hq_9 dX11_mark_44 ?_
    refine lv_iconst (v := (3 : Int32)) hx hb dX11_mark_47 (by decide) ?_
    refine lv_iload_n hx hb dX11_mark_48 rfl (lv_at hl 2 rfl) ?_
    refine lv_imul hx hb dX11_mark_49 ?_
    refine lv_iload_n hx hb dX11_mark_50 rfl (lv_at hl 3 rfl) ?_
    refine lv_iadd hx hb dX11_mark_51 ?_
    refine lv_iload_n hx hb dX11_mark_52 rfl (lv_at hl 4 rfl) ?_
    refine aw_zas hx hb G hc_10 dX11_mark_53 (fun H locs G => ?_)
    refine lv_iload hx hb dX11_mark_54 (lv_at hl 0 rfl) ?_
    obtain ⟨hc_11, hf⟩ := aw_chk_some hf
    exact aw_retz X G hc_11 hf dX11_mark_56
  · have hf := aw_ite_f hc hf
    refine lv_iconst (v := (0 : Int32)) hx hb dX11_mark_29 (by decide) ?_
    obtain ⟨hc_12, hf⟩ := aw_chk_some hf
    exact aw_retz X G hc_12 hf dX11_mark_30
set_option maxHeartbeats 4000000 in
set_option maxRecDepth 100000 in
theorem w_X11_mark_J22 {z : Int32 × Dt} (X : aw_X p c cX11_mark 5 s RX11 m meth (some .boolean)) {t0 : Nat} {x0 : Nat} {x1 : Int32} {x2 : Int32} {x3 : Int32} {d : Dt} (hf : f_X11_mark_J22 σ t0 x0 x1 x2 x3 d = some z)  {H : Heap} {locs : List Loc} {ls : Array Slot} (hl : lv_has ls 5 [(0, .ref (ad x0)), (1, .int x1), (2, .int x2), (3, .int x3)]) (G : aw_G D cA base ad σ d s H locs) : W p l e rm_X11_mark s m args below meth c H locs 0 0 (aw_Ei D cA base ad σ below args s z) (F0 m 22 ls [.ref (ad t0)]) := by
  have hx := X.1; have hb := X.2.1; have hml := X.2.2.1; have hown := X.2.2.2.1
  unfold f_X11_mark_J22 at hf
  refine lv_iconst (v := (1 : Int32)) hx hb dX11_mark_22 (by decide) ?_
  exact w_X11_mark_J23 X hf  (lv_sub hl [0, 1, 2, 3] rfl) G
end W_X11_mark
set_option maxHeartbeats 4000000 in
set_option maxRecDepth 100000 in
theorem c_X11_mark (l : Launch) {σ : Sg} {x0 : Nat} {x1 : Int32} {x2 : Int32} {x3 : Int32} {d : Dt} {z : Int32 × Dt} (hf : f_X11_mark σ x0 x1 x2 x3 d = some z) : aw_Mi l yX11_mark (Cond.code yX11_mark cX11_mark 5 (some .boolean)) rm_X11_mark (fun ad => [.ref (ad x0), .int x1, .int x2, .int x3]) σ d z := by
  intro D cA base ad
  refine aw_ofW (own := RX11) (cc := cX11_mark) (nL := 5) (ret := some .boolean) (by decide) rfl rfl ?_
  intro p e s m below meth c X hnm G
  have hx := X.1; have hb := X.2.1; have hml := X.2.2.1; have hown := X.2.2.2.1
  refine aw_ls (lv := [(0, .ref (ad x0)), (1, .int x1), (2, .int x2), (3, .int x3)]) (Nat.le_of_ble_eq_true rfl) rfl (fun ls hl => ?_)
  unfold f_X11_mark at hf
  refine lv_aload_n hx hb dX11_mark_0 rfl (lv_at hl 0 rfl) ?_
  refine lv_aload_n hx hb dX11_mark_1 rfl (lv_at hl 0 rfl) ?_
  refine lv_iload_n hx hb dX11_mark_2 rfl (lv_at hl 1 rfl) ?_
  obtain ⟨hc_3, hf⟩ := aw_chk_some hf
  obtain ⟨z_1, hz_2, hf⟩ := aw_bind_some hf
  refine aw_VI (As := [.int x1]) (rest := [.ref (ad x0)]) X G hl.1 cr_X11_146 (c_X11_isDesign l hz_2) ⟨rfl, rfl⟩ rfl rfl rfl (by decide) hc_3 rfl ⟨Nat.le_of_ble_eq_true rfl, Nat.le_of_ble_eq_true rfl⟩ (Nat.le_of_ble_eq_true rfl) dX11_mark_3 ⟨Nat.zero_le _, Nat.zero_le _⟩ (fun H locs G => ?_)
  refine lv_if_eq (tgt := 22) hx hb dX11_mark_6 (by decide) (fun hc => ?_) (fun hc => ?_)
  · have hf := aw_ite_t hc hf
    exact w_X11_mark_J22 X hf  (lv_sub hl [0, 1, 2, 3] rfl) G
  · have hf := aw_ite_f hc hf
    refine lv_iload_n hx hb dX11_mark_9 rfl (lv_at hl 2 rfl) ?_
    refine lv_iconst (v := (0 : Int32)) hx hb dX11_mark_10 (by decide) ?_
    refine lv_iconst (v := (2 : Int32)) hx hb dX11_mark_11 (by decide) ?_
    obtain ⟨z_13, hz_14, hf⟩ := aw_bind_some hf
    refine aw_SI (As := [.int x2, .int ((0 : Int32)), .int ((2 : Int32))]) (rest := [.ref (ad x0)]) X G hl.1 cr_X11_103 (c_X11_isIn l hz_14) ⟨rfl, rfl⟩ rfl rfl rfl ⟨Nat.le_of_ble_eq_true rfl, Nat.le_of_ble_eq_true rfl⟩ (Nat.le_of_ble_eq_true rfl) dX11_mark_12 ⟨Nat.zero_le _, Nat.zero_le _⟩ (fun H locs G => ?_)
    refine lv_if_eq (tgt := 22) hx hb dX11_mark_15 (by decide) (fun hc => ?_) (fun hc => ?_)
    · have hf := aw_ite_t hc hf
      exact w_X11_mark_J22 X hf  (lv_sub hl [0, 1, 2, 3] rfl) G
    · have hf := aw_ite_f hc hf
      refine lv_iconst (v := (0 : Int32)) hx hb dX11_mark_18 (by decide) ?_
      refine lv_goto (tgt := 23) hx hb dX11_mark_19 (by decide) ?_
      exact w_X11_mark_J23 X hf  (lv_sub hl [0, 1, 2, 3] rfl) G
def rm_X11_spells : Room := { frames := 2, cells := 0, slots := 0, locals := 45 }
def f_X11_spells_J244 (σ : Sg) (kb22 : Int32 → Int32 → Dt → Option (Unit × Dt)) (x0 : Nat) (x1 : Int32) (x3 : Int32) (x4 : Int32) (x5 : Int32) (x6 : Int32) (x7 : Int32) (d : Dt) : Option (Unit × Dt) :=
  kb22 x5 (x7 + 1) d
def f_X11_spells_J238 (σ : Sg) (kb22 : Int32 → Int32 → Dt → Option (Unit × Dt)) (t4 : Int32) (t3 : Int32) (t2 : Nat) (t1 : Int32) (t0 : Nat) (x0 : Nat) (x1 : Int32) (x3 : Int32) (x4 : Int32) (x5 : Int32) (x6 : Int32) (x7 : Int32) (d : Dt) : Option (Unit × Dt) :=
  aw_chk (aw_I σ 20 t2 (t3 + t4)) (aw_chk (aw_I σ 20 t0 t1) (f_X11_spells_J244 σ kb22 x0 x1 x3 x4 (x5 + 1) x6 x7 (aw_sI d t0 t1.toNatClampNeg (d.1 t2 (t3 + t4).toNatClampNeg))))
def f_X11_spells_J200 (σ : Sg) (kb22 : Int32 → Int32 → Dt → Option (Unit × Dt)) (x0 : Nat) (x1 : Int32) (x3 : Int32) (x4 : Int32) (x5 : Int32) (x6 : Int32) (x7 : Int32) (x10 : Int32) (d : Dt) : Option (Unit × Dt) :=
  if x10 = ((8 : Int32)) then f_X11_spells_J244 σ kb22 x0 x1 x3 x4 x5 x6 x7 d else aw_chk (aw_O σ 11 32 x0) ((σ.2.2 x0 21).bind (fun q_37 => (σ.2.2 x0 14).bind (fun q_39 => (σ.2.2 x0 12).bind (fun q_41 => aw_chk (aw_I σ 20 q_41 x1) (if (d.1 q_41 x1.toNatClampNeg) = 0 then f_X11_spells_J238 σ kb22 x10 x6 q_39 x5 q_37 x0 x1 x3 x4 x5 x6 x7 d else f_X11_spells_J238 σ kb22 (((36 : Int32)) + x10) x6 q_39 x5 q_37 x0 x1 x3 x4 x5 x6 x7 d)))))
def f_X11_spells_J157 (σ : Sg) (kb22 : Int32 → Int32 → Dt → Option (Unit × Dt)) (t4 : Int32) (t3 : Int32) (t2 : Nat) (t1 : Int32) (t0 : Nat) (x0 : Nat) (x1 : Int32) (x3 : Int32) (x4 : Int32) (x5 : Int32) (x6 : Int32) (x7 : Int32) (x10 : Int32) (x11 : Int32) (d : Dt) : Option (Unit × Dt) :=
  aw_chk (aw_I σ 20 t2 (t3 + t4)) (aw_chk (aw_I σ 20 t0 t1) (aw_chk (aw_O σ 11 32 x0) ((σ.2.2 x0 15).bind (fun q_33 => aw_chk (aw_I σ 22 q_33 ((((3 : Int32)) * x1) + x11)) (if ((aw_sI d t0 t1.toNatClampNeg (d.1 t2 (t3 + t4).toNatClampNeg)).1 q_33 ((((3 : Int32)) * x1) + x11).toNatClampNeg) = 0 then f_X11_spells_J200 σ kb22 x0 x1 x3 x4 (x5 + 1) x6 x7 x10 (aw_sI d t0 t1.toNatClampNeg (d.1 t2 (t3 + t4).toNatClampNeg)) else (σ.2.2 x0 21).bind (fun q_46 => (σ.2.2 x0 14).bind (fun q_48 => aw_chk (aw_I σ 20 q_48 ((x6 + ((44 : Int32))) + x11)) (aw_chk (aw_I σ 20 q_46 (x5 + 1)) (f_X11_spells_J200 σ kb22 x0 x1 x3 x4 ((x5 + 1) + 1) x6 x7 x10 (aw_sI (aw_sI d t0 t1.toNatClampNeg (d.1 t2 (t3 + t4).toNatClampNeg)) q_46 (x5 + 1).toNatClampNeg ((aw_sI d t0 t1.toNatClampNeg (d.1 t2 (t3 + t4).toNatClampNeg)).1 q_48 ((x6 + ((44 : Int32))) + x11).toNatClampNeg)))))))))))
def f_X11_spells_J121 (σ : Sg) (kb22 : Int32 → Int32 → Dt → Option (Unit × Dt)) (x0 : Nat) (x1 : Int32) (x3 : Int32) (x4 : Int32) (x5 : Int32) (x6 : Int32) (x7 : Int32) (x8 : Int32) (x9 : Int32) (x10 : Int32) (x11 : Int32) (d : Dt) : Option (Unit × Dt) :=
  aw_chk (aw_O σ 11 32 x0) ((σ.2.2 x0 21).bind (fun q_23 => (σ.2.2 x0 14).bind (fun q_25 => (σ.2.2 x0 12).bind (fun q_27 => aw_chk (aw_I σ 20 q_27 x1) (if (d.1 q_27 x1.toNatClampNeg) = 0 then f_X11_spells_J157 σ kb22 (((8 : Int32)) + x9) x6 q_25 x5 q_23 x0 x1 x3 x4 x5 x6 x7 x10 x11 d else f_X11_spells_J157 σ kb22 ((((4 : Int32)) * x8) + x9) x6 q_25 x5 q_23 x0 x1 x3 x4 x5 x6 x7 x10 x11 d)))))
def f_X11_spells_B22 (σ : Sg) (kb22 : Int32 → Int32 → Dt → Option (Unit × Dt)) (k22 : Int32 → Dt → Option (Unit × Dt)) (x0 : Nat) (x1 : Int32) (x3 : Int32) (x4 : Int32) (x6 : Int32) (x5 : Int32) (x7 : Int32) (d : Dt) : Option (Unit × Dt) :=
  aw_chk (aw_O σ 11 32 x0) ((σ.2.2 x0 3).bind (fun q_5 => aw_chk (aw_I σ 20 q_5 x3) (if (d.1 q_5 x3.toNatClampNeg) ≤ x7 then k22 x5 d else (σ.2.2 x0 23).bind (fun q_8 => aw_chk (aw_I σ 20 q_8 x7) ((f_X11_of σ (d.1 q_8 x7.toNatClampNeg) ((0 : Int32)) d).bind (fun z_11 => (f_X11_of σ (z_11.2.1 q_8 x7.toNatClampNeg) ((1 : Int32)) z_11.2).bind (fun z_13 => (f_X11_of σ (z_13.2.1 q_8 x7.toNatClampNeg) ((2 : Int32)) z_13.2).bind (fun z_15 => (f_X11_of σ (z_15.2.1 q_8 x7.toNatClampNeg) ((3 : Int32)) z_15.2).bind (fun z_17 => (σ.2.2 x0 12).bind (fun q_19 => aw_chk (aw_I σ 20 q_19 x1) (if (z_17.2.1 q_19 x1.toNatClampNeg) = 0 then if z_11.1 = ((8 : Int32)) then f_X11_spells_J121 σ kb22 x0 x1 x3 x4 x5 x6 x7 z_11.1 z_13.1 z_15.1 z_17.1 z_17.2 else (σ.2.2 x0 21).bind (fun q_52 => (σ.2.2 x0 14).bind (fun q_54 => aw_chk (aw_I σ 20 q_54 (x6 + z_11.1)) (aw_chk (aw_I σ 20 q_52 x5) (f_X11_spells_J121 σ kb22 x0 x1 x3 x4 (x5 + 1) x6 x7 z_11.1 z_13.1 z_15.1 z_17.1 (aw_sI z_17.2 q_52 x5.toNatClampNeg (z_17.2.1 q_54 (x6 + z_11.1).toNatClampNeg)))))) else f_X11_spells_J121 σ kb22 x0 x1 x3 x4 x5 x6 x7 z_11.1 z_13.1 z_15.1 z_17.1 z_17.2)))))))))))
def f_X11_spells_L22 (σ : Sg) (n : Nat) (k22 : Int32 → Dt → Option (Unit × Dt)) (x0 : Nat) (x1 : Int32) (x3 : Int32) (x4 : Int32) (x6 : Int32) : Int32 → Int32 → Dt → Option (Unit × Dt) := match n with
  | 0 => fun _ _ _ => none
  | n + 1 => fun x5 x7 d => f_X11_spells_B22 σ (f_X11_spells_L22 σ n k22 x0 x1 x3 x4 x6) k22 x0 x1 x3 x4 x6 x5 x7 d
def f_X11_spells (σ : Sg) (x0 : Nat) (x1 : Int32) (x2 : Int32) (x3 : Int32) (x4 : Int32) (d : Dt) : Option (Unit × Dt) :=
  aw_chk (aw_O σ 11 32 x0) ((f_X11_speaks σ x0 x2 x3 d).bind (fun z_1 => f_X11_spells_L22 σ aw_FU (fun x5_58 d_59 => (σ.2.2 x0 22).bind (fun q_60 => aw_chk (aw_I σ 20 q_60 x4) (some ((), aw_sI d_59 q_60 x4.toNatClampNeg (x5_58 - (((16 : Int32)) * x4)))))) x0 x1 x3 x4 (((47 : Int32)) * x1) (((16 : Int32)) * x4) ((0 : Int32)) z_1.2))
section W_X11_spells
variable {p : Program} {l : Launch} {e : Env} {s : State} {m : MethodId} {args : Array Value} {below : List Frame} {meth : Method} {c : Code}
variable {D : va_G} {cA : Nat → ClassId} {base : Nat} {ad : Nat → Nat} {σ : Sg}
set_option maxHeartbeats 4000000 in
set_option maxRecDepth 100000 in
theorem w_X11_spells_J244 {z : Unit × Dt} (X : aw_X p c cX11_spells 12 s RX11 m meth (none)) {kb22 : Int32 → Int32 → Dt → Option (Unit × Dt)} {x0 : Nat} {x1 : Int32} {x3 : Int32} {x4 : Int32} {x5 : Int32} {x6 : Int32} {x7 : Int32} {d : Dt} (hf : f_X11_spells_J244 σ kb22 x0 x1 x3 x4 x5 x6 x7 d = some z) (hkb22 : ∀ (y5 : Int32) (y7 : Int32) (d : Dt), kb22 y5 y7 d = some z → ∀ (H : Heap) (locs : List Loc) (ls : Array Slot), lv_has ls 12 [(0, .ref (ad x0)), (1, .int x1), (3, .int x3), (4, .int x4), (5, .int y5), (6, .int x6), (7, .int y7)] → aw_G D cA base ad σ d s H locs → W p l e rm_X11_spells s m args below meth c H locs 0 0 (aw_Ev D cA base ad σ below args s z) (F0 m 22 ls [])) {H : Heap} {locs : List Loc} {ls : Array Slot} (hl : lv_has ls 12 [(0, .ref (ad x0)), (1, .int x1), (3, .int x3), (4, .int x4), (5, .int x5), (6, .int x6), (7, .int x7)]) (G : aw_G D cA base ad σ d s H locs) : W p l e rm_X11_spells s m args below meth c H locs 0 0 (aw_Ev D cA base ad σ below args s z) (F0 m 244 ls []) := by
  have hx := X.1; have hb := X.2.1; have hml := X.2.2.1; have hown := X.2.2.2.1
  unfold f_X11_spells_J244 at hf
  refine lv_iinc (v := x7 + 1) (lv' := [(7, .int (x7 + 1)), (0, .ref (ad x0)), (1, .int x1), (3, .int x3), (4, .int x4), (5, .int x5), (6, .int x6)]) hx hb dX11_spells_244 hl (k := 6) rfl rfl (by decide) rfl (fun ls hl => ?_)
  refine lv_goto (tgt := 22) hx hb dX11_spells_247 (by decide) ?_
  exact hkb22 _ _ _ hf _ _ _ (lv_sub hl [1, 2, 3, 4, 5, 6, 0] rfl) G
set_option maxHeartbeats 4000000 in
set_option maxRecDepth 100000 in
theorem w_X11_spells_J238 {z : Unit × Dt} (X : aw_X p c cX11_spells 12 s RX11 m meth (none)) {kb22 : Int32 → Int32 → Dt → Option (Unit × Dt)} {t4 : Int32} {t3 : Int32} {t2 : Nat} {t1 : Int32} {t0 : Nat} {x0 : Nat} {x1 : Int32} {x3 : Int32} {x4 : Int32} {x5 : Int32} {x6 : Int32} {x7 : Int32} {d : Dt} (hf : f_X11_spells_J238 σ kb22 t4 t3 t2 t1 t0 x0 x1 x3 x4 x5 x6 x7 d = some z) (hkb22 : ∀ (y5 : Int32) (y7 : Int32) (d : Dt), kb22 y5 y7 d = some z → ∀ (H : Heap) (locs : List Loc) (ls : Array Slot), lv_has ls 12 [(0, .ref (ad x0)), (1, .int x1), (3, .int x3), (4, .int x4), (5, .int y5), (6, .int x6), (7, .int y7)] → aw_G D cA base ad σ d s H locs → W p l e rm_X11_spells s m args below meth c H locs 0 0 (aw_Ev D cA base ad σ below args s z) (F0 m 22 ls [])) {H : Heap} {locs : List Loc} {ls : Array Slot} (hl : lv_has ls 12 [(0, .ref (ad x0)), (1, .int x1), (3, .int x3), (4, .int x4), (5, .int x5), (6, .int x6), (7, .int x7)]) (G : aw_G D cA base ad σ d s H locs) : W p l e rm_X11_spells s m args below meth c H locs 0 0 (aw_Ev D cA base ad σ below args s z) (F0 m 238 ls [.int t4, .int t3, .ref (ad t2), .int t1, .ref (ad t0)]) := by
  have hx := X.1; have hb := X.2.1; have hml := X.2.2.1; have hown := X.2.2.2.1
  unfold f_X11_spells_J238 at hf
  refine lv_iadd hx hb dX11_spells_238 ?_
  obtain ⟨hc_44, hf⟩ := aw_chk_some hf
  refine aw_ial hx hb G hc_44 dX11_spells_239 ?_
  obtain ⟨hc_45, hf⟩ := aw_chk_some hf
  refine aw_ias hx hb G hc_45 dX11_spells_240 (fun H locs G => ?_)
  refine lv_iinc (v := x5 + 1) (lv' := [(5, .int (x5 + 1)), (0, .ref (ad x0)), (1, .int x1), (3, .int x3), (4, .int x4), (6, .int x6), (7, .int x7)]) hx hb dX11_spells_241 hl (k := 4) rfl rfl (by decide) rfl (fun ls hl => ?_)
  exact w_X11_spells_J244 X hf hkb22 (lv_sub hl [1, 2, 3, 4, 0, 5, 6] rfl) G
set_option maxHeartbeats 4000000 in
set_option maxRecDepth 100000 in
theorem w_X11_spells_J200 {z : Unit × Dt} (X : aw_X p c cX11_spells 12 s RX11 m meth (none)) {kb22 : Int32 → Int32 → Dt → Option (Unit × Dt)} {x0 : Nat} {x1 : Int32} {x3 : Int32} {x4 : Int32} {x5 : Int32} {x6 : Int32} {x7 : Int32} {x10 : Int32} {d : Dt} (hf : f_X11_spells_J200 σ kb22 x0 x1 x3 x4 x5 x6 x7 x10 d = some z) (hkb22 : ∀ (y5 : Int32) (y7 : Int32) (d : Dt), kb22 y5 y7 d = some z → ∀ (H : Heap) (locs : List Loc) (ls : Array Slot), lv_has ls 12 [(0, .ref (ad x0)), (1, .int x1), (3, .int x3), (4, .int x4), (5, .int y5), (6, .int x6), (7, .int y7)] → aw_G D cA base ad σ d s H locs → W p l e rm_X11_spells s m args below meth c H locs 0 0 (aw_Ev D cA base ad σ below args s z) (F0 m 22 ls [])) {H : Heap} {locs : List Loc} {ls : Array Slot} (hl : lv_has ls 12 [(0, .ref (ad x0)), (1, .int x1), (3, .int x3), (4, .int x4), (5, .int x5), (6, .int x6), (7, .int x7), (10, .int x10)]) (G : aw_G D cA base ad σ d s H locs) : W p l e rm_X11_spells s m args below meth c H locs 0 0 (aw_Ev D cA base ad σ below args s z) (F0 m 200 ls []) := by
  have hx := X.1; have hb := X.2.1; have hml := X.2.2.1; have hown := X.2.2.2.1
  unfold f_X11_spells_J200 at hf
  refine lv_iload hx hb dX11_spells_200 (lv_at hl 7 rfl) ?_
  refine lv_bipush (v := (8 : Int32)) hx hb dX11_spells_202 (by decide) ?_
  refine lv_icmp_eq (tgt := 244) hx hb dX11_spells_204 (by decide) (fun hc => ?_) (fun hc => ?_)
  · have hf := aw_ite_t hc hf
    exact w_X11_spells_J244 X hf hkb22 (lv_sub hl [0, 1, 2, 3, 4, 5, 6] rfl) G
  · have hf := aw_ite_f hc hf
    refine lv_aload_n hx hb dX11_spells_207 rfl (lv_at hl 0 rfl) ?_
    obtain ⟨hc_36, hf⟩ := aw_chk_some hf
    obtain ⟨q_37, hq_38, hf⟩ := aw_bind_some hf
    refine gf_X11_65 hx hb G hown hc_36 hq_38 dX11_spells_208 ?_
    refine lv_iload hx hb dX11_spells_211 (lv_at hl 4 rfl) ?_
    refine lv_aload_n hx hb dX11_spells_213 rfl (lv_at hl 0 rfl) ?_
    obtain ⟨q_39, hq_40, hf⟩ := aw_bind_some hf
    refine gf_X11_44 hx hb G hown hc_36 hq_40 dX11_spells_214 ?_
    refine lv_iload hx hb dX11_spells_217 (lv_at hl 5 rfl) ?_
    refine lv_aload_n hx hb dX11_spells_219 rfl (lv_at hl 0 rfl) ?_
    obtain ⟨q_41, hq_42, hf⟩ := aw_bind_some hf
    refine gf_X11_38 hx hb G hown hc_36 hq_42 dX11_spells_220 ?_
    refine lv_iload_n hx hb dX11_spells_223 rfl (lv_at hl 1 rfl) ?_
    obtain ⟨hc_43, hf⟩ := aw_chk_some hf
    refine aw_ial hx hb G hc_43 dX11_spells_224 ?_
    refine lv_if_ne (tgt := 233) hx hb dX11_spells_225 (by decide) (fun hc => ?_) (fun hc => ?_)
    · have hf := aw_ite_f hc hf
      refine lv_bipush (v := (36 : Int32)) hx hb dX11_spells_233 (by decide) ?_
      refine lv_iload hx hb dX11_spells_235 (lv_at hl 7 rfl) ?_
      refine lv_iadd hx hb dX11_spells_237 ?_
      exact w_X11_spells_J238 X hf hkb22 (lv_sub hl [0, 1, 2, 3, 4, 5, 6] rfl) G
    · have hf := aw_ite_t hc hf
      refine lv_iload hx hb dX11_spells_228 (lv_at hl 7 rfl) ?_
      refine lv_goto (tgt := 238) hx hb dX11_spells_230 (by decide) ?_
      exact w_X11_spells_J238 X hf hkb22 (lv_sub hl [0, 1, 2, 3, 4, 5, 6] rfl) G
set_option maxHeartbeats 4000000 in
set_option maxRecDepth 100000 in
theorem w_X11_spells_J157 {z : Unit × Dt} (X : aw_X p c cX11_spells 12 s RX11 m meth (none)) {kb22 : Int32 → Int32 → Dt → Option (Unit × Dt)} {t4 : Int32} {t3 : Int32} {t2 : Nat} {t1 : Int32} {t0 : Nat} {x0 : Nat} {x1 : Int32} {x3 : Int32} {x4 : Int32} {x5 : Int32} {x6 : Int32} {x7 : Int32} {x10 : Int32} {x11 : Int32} {d : Dt} (hf : f_X11_spells_J157 σ kb22 t4 t3 t2 t1 t0 x0 x1 x3 x4 x5 x6 x7 x10 x11 d = some z) (hkb22 : ∀ (y5 : Int32) (y7 : Int32) (d : Dt), kb22 y5 y7 d = some z → ∀ (H : Heap) (locs : List Loc) (ls : Array Slot), lv_has ls 12 [(0, .ref (ad x0)), (1, .int x1), (3, .int x3), (4, .int x4), (5, .int y5), (6, .int x6), (7, .int y7)] → aw_G D cA base ad σ d s H locs → W p l e rm_X11_spells s m args below meth c H locs 0 0 (aw_Ev D cA base ad σ below args s z) (F0 m 22 ls [])) {H : Heap} {locs : List Loc} {ls : Array Slot} (hl : lv_has ls 12 [(0, .ref (ad x0)), (1, .int x1), (3, .int x3), (4, .int x4), (5, .int x5), (6, .int x6), (7, .int x7), (10, .int x10), (11, .int x11)]) (G : aw_G D cA base ad σ d s H locs) : W p l e rm_X11_spells s m args below meth c H locs 0 0 (aw_Ev D cA base ad σ below args s z) (F0 m 157 ls [.int t4, .int t3, .ref (ad t2), .int t1, .ref (ad t0)]) := by
  have hx := X.1; have hb := X.2.1; have hml := X.2.2.1; have hown := X.2.2.2.1
  unfold f_X11_spells_J157 at hf
  refine lv_iadd hx hb dX11_spells_157 ?_
  obtain ⟨hc_30, hf⟩ := aw_chk_some hf
  refine aw_ial hx hb G hc_30 dX11_spells_158 ?_
  obtain ⟨hc_31, hf⟩ := aw_chk_some hf
  refine aw_ias hx hb G hc_31 dX11_spells_159 (fun H locs G => ?_)
  refine lv_iinc (v := x5 + 1) (lv' := [(5, .int (x5 + 1)), (0, .ref (ad x0)), (1, .int x1), (3, .int x3), (4, .int x4), (6, .int x6), (7, .int x7), (10, .int x10), (11, .int x11)]) hx hb dX11_spells_160 hl (k := 4) rfl rfl (by decide) rfl (fun ls hl => ?_)
  refine lv_aload_n hx hb dX11_spells_163 rfl (lv_at hl 1 rfl) ?_
  obtain ⟨hc_32, hf⟩ := aw_chk_some hf
  obtain ⟨q_33, hq_34, hf⟩ := aw_bind_some hf
  refine gf_X11_47 hx hb G hown hc_32 hq_34 dX11_spells_164 ?_
  refine lv_iconst (v := (3 : Int32)) hx hb dX11_spells_167 (by decide) ?_
  refine lv_iload_n hx hb dX11_spells_168 rfl (lv_at hl 2 rfl) ?_
  refine lv_imul hx hb dX11_spells_169 ?_
  refine lv_iload hx hb dX11_spells_170 (lv_at hl 8 rfl) ?_
  refine lv_iadd hx hb dX11_spells_172 ?_
  obtain ⟨hc_35, hf⟩ := aw_chk_some hf
  refine aw_zal hx hb G hc_35 dX11_spells_173 ?_
  refine lv_if_eq (tgt := 200) hx hb dX11_spells_174 (by decide) (fun hc => ?_) (fun hc => ?_)
  · have hf := aw_ite_t hc hf
    exact w_X11_spells_J200 X hf hkb22 (lv_sub hl [1, 2, 3, 4, 0, 5, 6, 7] rfl) G
  · have hf := aw_ite_f hc hf
    refine lv_aload_n hx hb dX11_spells_177 rfl (lv_at hl 1 rfl) ?_
    obtain ⟨q_46, hq_47, hf⟩ := aw_bind_some hf
    refine gf_X11_65 hx hb G hown hc_32 hq_47 dX11_spells_178 ?_
    refine lv_iload hx hb dX11_spells_181 (lv_at hl 0 rfl) ?_
    refine lv_aload_n hx hb dX11_spells_183 rfl (lv_at hl 1 rfl) ?_
    obtain ⟨q_48, hq_49, hf⟩ := aw_bind_some hf
    refine gf_X11_44 hx hb G hown hc_32 hq_49 dX11_spells_184 ?_
    refine lv_iload hx hb dX11_spells_187 (lv_at hl 5 rfl) ?_
    refine lv_bipush (v := (44 : Int32)) hx hb dX11_spells_189 (by decide) ?_
    refine lv_iadd hx hb dX11_spells_191 ?_
    refine lv_iload hx hb dX11_spells_192 (lv_at hl 8 rfl) ?_
    refine lv_iadd hx hb dX11_spells_194 ?_
    obtain ⟨hc_50, hf⟩ := aw_chk_some hf
    refine aw_ial hx hb G hc_50 dX11_spells_195 ?_
    obtain ⟨hc_51, hf⟩ := aw_chk_some hf
    refine aw_ias hx hb G hc_51 dX11_spells_196 (fun H locs G => ?_)
    refine lv_iinc (v := (x5 + 1) + 1) (lv' := [(5, .int ((x5 + 1) + 1)), (0, .ref (ad x0)), (1, .int x1), (3, .int x3), (4, .int x4), (6, .int x6), (7, .int x7), (10, .int x10), (11, .int x11)]) hx hb dX11_spells_197 hl (k := 0) rfl rfl (by decide) rfl (fun ls hl => ?_)
    exact w_X11_spells_J200 X hf hkb22 (lv_sub hl [1, 2, 3, 4, 0, 5, 6, 7] rfl) G
set_option maxHeartbeats 4000000 in
set_option maxRecDepth 100000 in
theorem w_X11_spells_J121 {z : Unit × Dt} (X : aw_X p c cX11_spells 12 s RX11 m meth (none)) {kb22 : Int32 → Int32 → Dt → Option (Unit × Dt)} {x0 : Nat} {x1 : Int32} {x3 : Int32} {x4 : Int32} {x5 : Int32} {x6 : Int32} {x7 : Int32} {x8 : Int32} {x9 : Int32} {x10 : Int32} {x11 : Int32} {d : Dt} (hf : f_X11_spells_J121 σ kb22 x0 x1 x3 x4 x5 x6 x7 x8 x9 x10 x11 d = some z) (hkb22 : ∀ (y5 : Int32) (y7 : Int32) (d : Dt), kb22 y5 y7 d = some z → ∀ (H : Heap) (locs : List Loc) (ls : Array Slot), lv_has ls 12 [(0, .ref (ad x0)), (1, .int x1), (3, .int x3), (4, .int x4), (5, .int y5), (6, .int x6), (7, .int y7)] → aw_G D cA base ad σ d s H locs → W p l e rm_X11_spells s m args below meth c H locs 0 0 (aw_Ev D cA base ad σ below args s z) (F0 m 22 ls [])) {H : Heap} {locs : List Loc} {ls : Array Slot} (hl : lv_has ls 12 [(0, .ref (ad x0)), (1, .int x1), (3, .int x3), (4, .int x4), (5, .int x5), (6, .int x6), (7, .int x7), (8, .int x8), (9, .int x9), (10, .int x10), (11, .int x11)]) (G : aw_G D cA base ad σ d s H locs) : W p l e rm_X11_spells s m args below meth c H locs 0 0 (aw_Ev D cA base ad σ below args s z) (F0 m 121 ls []) := by
  have hx := X.1; have hb := X.2.1; have hml := X.2.2.1; have hown := X.2.2.2.1
  unfold f_X11_spells_J121 at hf
  refine lv_aload_n hx hb dX11_spells_121 rfl (lv_at hl 0 rfl) ?_
  obtain ⟨hc_22, hf⟩ := aw_chk_some hf
  obtain ⟨q_23, hq_24, hf⟩ := aw_bind_some hf
  refine gf_X11_65 hx hb G hown hc_22 hq_24 dX11_spells_122 ?_
  refine lv_iload hx hb dX11_spells_125 (lv_at hl 4 rfl) ?_
  refine lv_aload_n hx hb dX11_spells_127 rfl (lv_at hl 0 rfl) ?_
  obtain ⟨q_25, hq_26, hf⟩ := aw_bind_some hf
  refine gf_X11_44 hx hb G hown hc_22 hq_26 dX11_spells_128 ?_
  refine lv_iload hx hb dX11_spells_131 (lv_at hl 5 rfl) ?_
  refine lv_aload_n hx hb dX11_spells_133 rfl (lv_at hl 0 rfl) ?_
  obtain ⟨q_27, hq_28, hf⟩ := aw_bind_some hf
  refine gf_X11_38 hx hb G hown hc_22 hq_28 dX11_spells_134 ?_
  refine lv_iload_n hx hb dX11_spells_137 rfl (lv_at hl 1 rfl) ?_
  obtain ⟨hc_29, hf⟩ := aw_chk_some hf
  refine aw_ial hx hb G hc_29 dX11_spells_138 ?_
  refine lv_if_ne (tgt := 150) hx hb dX11_spells_139 (by decide) (fun hc => ?_) (fun hc => ?_)
  · have hf := aw_ite_f hc hf
    refine lv_iconst (v := (4 : Int32)) hx hb dX11_spells_150 (by decide) ?_
    refine lv_iload hx hb dX11_spells_151 (lv_at hl 7 rfl) ?_
    refine lv_imul hx hb dX11_spells_153 ?_
    refine lv_iload hx hb dX11_spells_154 (lv_at hl 8 rfl) ?_
    refine lv_iadd hx hb dX11_spells_156 ?_
    exact w_X11_spells_J157 X hf hkb22 (lv_sub hl [0, 1, 2, 3, 4, 5, 6, 9, 10] rfl) G
  · have hf := aw_ite_t hc hf
    refine lv_bipush (v := (8 : Int32)) hx hb dX11_spells_142 (by decide) ?_
    refine lv_iload hx hb dX11_spells_144 (lv_at hl 8 rfl) ?_
    refine lv_iadd hx hb dX11_spells_146 ?_
    refine lv_goto (tgt := 157) hx hb dX11_spells_147 (by decide) ?_
    exact w_X11_spells_J157 X hf hkb22 (lv_sub hl [0, 1, 2, 3, 4, 5, 6, 9, 10] rfl) G
set_option maxHeartbeats 4000000 in
set_option maxRecDepth 100000 in
theorem w_X11_spells_B22 {z : Unit × Dt} (X : aw_X p c cX11_spells 12 s RX11 m meth (none)) {kb22 : Int32 → Int32 → Dt → Option (Unit × Dt)} {k22 : Int32 → Dt → Option (Unit × Dt)} {x0 : Nat} {x1 : Int32} {x3 : Int32} {x4 : Int32} {x6 : Int32} {x5 : Int32} {x7 : Int32} {d : Dt} (hf : f_X11_spells_B22 σ kb22 k22 x0 x1 x3 x4 x6 x5 x7 d = some z) (hkb22 : ∀ (y5 : Int32) (y7 : Int32) (d : Dt), kb22 y5 y7 d = some z → ∀ (H : Heap) (locs : List Loc) (ls : Array Slot), lv_has ls 12 [(0, .ref (ad x0)), (1, .int x1), (3, .int x3), (4, .int x4), (5, .int y5), (6, .int x6), (7, .int y7)] → aw_G D cA base ad σ d s H locs → W p l e rm_X11_spells s m args below meth c H locs 0 0 (aw_Ev D cA base ad σ below args s z) (F0 m 22 ls [])) (hk22 : ∀ (y5 : Int32) (d : Dt), k22 y5 d = some z → ∀ (H : Heap) (locs : List Loc) (ls : Array Slot), lv_has ls 12 [(0, .ref (ad x0)), (4, .int x4), (5, .int y5)] → aw_G D cA base ad σ d s H locs → W p l e rm_X11_spells s m args below meth c H locs 0 0 (aw_Ev D cA base ad σ below args s z) (F0 m 250 ls [])) {H : Heap} {locs : List Loc} {ls : Array Slot} (hl : lv_has ls 12 [(0, .ref (ad x0)), (1, .int x1), (3, .int x3), (4, .int x4), (5, .int x5), (6, .int x6), (7, .int x7)]) (G : aw_G D cA base ad σ d s H locs) : W p l e rm_X11_spells s m args below meth c H locs 0 0 (aw_Ev D cA base ad σ below args s z) (F0 m 22 ls []) := by
  have hx := X.1; have hb := X.2.1; have hml := X.2.2.1; have hown := X.2.2.2.1
  unfold f_X11_spells_B22 at hf
  refine lv_iload hx hb dX11_spells_22 (lv_at hl 6 rfl) ?_
  refine lv_aload_n hx hb dX11_spells_24 rfl (lv_at hl 0 rfl) ?_
  obtain ⟨hc_4, hf⟩ := aw_chk_some hf
  obtain ⟨q_5, hq_6, hf⟩ := aw_bind_some hf
  refine gf_X11_13 hx hb G hown hc_4 hq_6 dX11_spells_25 ?_
  refine lv_iload_n hx hb dX11_spells_28 rfl (lv_at hl 2 rfl) ?_
  obtain ⟨hc_7, hf⟩ := aw_chk_some hf
  refine aw_ial hx hb G hc_7 dX11_spells_29 ?_
  refine lv_icmp_ge (tgt := 250) hx hb dX11_spells_30 (by decide) (fun hc => ?_) (fun hc => ?_)
  · have hf := aw_ite_t hc hf
    exact hk22 _ _ hf _ _ _ (lv_sub hl [0, 3, 4] rfl) G
  · have hf := aw_ite_f hc hf
    refine lv_aload_n hx hb dX11_spells_33 rfl (lv_at hl 0 rfl) ?_
    obtain ⟨q_8, hq_9, hf⟩ := aw_bind_some hf
    refine gf_X11_71 hx hb G hown hc_4 hq_9 dX11_spells_34 ?_
    refine lv_iload hx hb dX11_spells_37 (lv_at hl 6 rfl) ?_
    obtain ⟨hc_10, hf⟩ := aw_chk_some hf
    refine aw_ial hx hb G hc_10 dX11_spells_39 ?_
    refine lv_iconst (v := (0 : Int32)) hx hb dX11_spells_40 (by decide) ?_
    obtain ⟨z_11, hz_12, hf⟩ := aw_bind_some hf
    refine aw_SI (As := [.int (d.1 q_8 x7.toNatClampNeg), .int ((0 : Int32))]) (rest := []) X G hl.1 cr_X11_124 (c_X11_of l hz_12) ⟨rfl, rfl⟩ rfl rfl rfl ⟨Nat.le_of_ble_eq_true rfl, Nat.le_of_ble_eq_true rfl⟩ (Nat.le_of_ble_eq_true rfl) dX11_spells_41 ⟨Nat.zero_le _, Nat.zero_le _⟩ (fun H locs G => ?_)
    refine lv_istore (lv' := [(8, .int z_11.1), (0, .ref (ad x0)), (1, .int x1), (3, .int x3), (4, .int x4), (5, .int x5), (6, .int x6), (7, .int x7)]) hx hb dX11_spells_44 hl (by decide) rfl (fun ls hl => ?_)
    refine lv_aload_n hx hb dX11_spells_46 rfl (lv_at hl 1 rfl) ?_
    refine gf_X11_71 hx hb G hown hc_4 hq_9 dX11_spells_47 ?_
    refine lv_iload hx hb dX11_spells_50 (lv_at hl 7 rfl) ?_
    refine aw_ial hx hb G hc_10 dX11_spells_52 ?_
    refine lv_iconst (v := (1 : Int32)) hx hb dX11_spells_53 (by decide) ?_
    obtain ⟨z_13, hz_14, hf⟩ := aw_bind_some hf
    refine aw_SI (As := [.int (z_11.2.1 q_8 x7.toNatClampNeg), .int ((1 : Int32))]) (rest := []) X G hl.1 cr_X11_124 (c_X11_of l hz_14) ⟨rfl, rfl⟩ rfl rfl rfl ⟨Nat.le_of_ble_eq_true rfl, Nat.le_of_ble_eq_true rfl⟩ (Nat.le_of_ble_eq_true rfl) dX11_spells_54 ⟨Nat.zero_le _, Nat.zero_le _⟩ (fun H locs G => ?_)
    refine lv_istore (lv' := [(9, .int z_13.1), (8, .int z_11.1), (0, .ref (ad x0)), (1, .int x1), (3, .int x3), (4, .int x4), (5, .int x5), (6, .int x6), (7, .int x7)]) hx hb dX11_spells_57 hl (by decide) rfl (fun ls hl => ?_)
    refine lv_aload_n hx hb dX11_spells_59 rfl (lv_at hl 2 rfl) ?_
    refine gf_X11_71 hx hb G hown hc_4 hq_9 dX11_spells_60 ?_
    refine lv_iload hx hb dX11_spells_63 (lv_at hl 8 rfl) ?_
    refine aw_ial hx hb G hc_10 dX11_spells_65 ?_
    refine lv_iconst (v := (2 : Int32)) hx hb dX11_spells_66 (by decide) ?_
    obtain ⟨z_15, hz_16, hf⟩ := aw_bind_some hf
    refine aw_SI (As := [.int (z_13.2.1 q_8 x7.toNatClampNeg), .int ((2 : Int32))]) (rest := []) X G hl.1 cr_X11_124 (c_X11_of l hz_16) ⟨rfl, rfl⟩ rfl rfl rfl ⟨Nat.le_of_ble_eq_true rfl, Nat.le_of_ble_eq_true rfl⟩ (Nat.le_of_ble_eq_true rfl) dX11_spells_67 ⟨Nat.zero_le _, Nat.zero_le _⟩ (fun H locs G => ?_)
    refine lv_istore (lv' := [(10, .int z_15.1), (9, .int z_13.1), (8, .int z_11.1), (0, .ref (ad x0)), (1, .int x1), (3, .int x3), (4, .int x4), (5, .int x5), (6, .int x6), (7, .int x7)]) hx hb dX11_spells_70 hl (by decide) rfl (fun ls hl => ?_)
    refine lv_aload_n hx hb dX11_spells_72 rfl (lv_at hl 3 rfl) ?_
    refine gf_X11_71 hx hb G hown hc_4 hq_9 dX11_spells_73 ?_
    refine lv_iload hx hb dX11_spells_76 (lv_at hl 9 rfl) ?_
    refine aw_ial hx hb G hc_10 dX11_spells_78 ?_
    refine lv_iconst (v := (3 : Int32)) hx hb dX11_spells_79 (by decide) ?_
    obtain ⟨z_17, hz_18, hf⟩ := aw_bind_some hf
    refine aw_SI (As := [.int (z_15.2.1 q_8 x7.toNatClampNeg), .int ((3 : Int32))]) (rest := []) X G hl.1 cr_X11_124 (c_X11_of l hz_18) ⟨rfl, rfl⟩ rfl rfl rfl ⟨Nat.le_of_ble_eq_true rfl, Nat.le_of_ble_eq_true rfl⟩ (Nat.le_of_ble_eq_true rfl) dX11_spells_80 ⟨Nat.zero_le _, Nat.zero_le _⟩ (fun H locs G => ?_)
    refine lv_istore (lv' := [(11, .int z_17.1), (10, .int z_15.1), (9, .int z_13.1), (8, .int z_11.1), (0, .ref (ad x0)), (1, .int x1), (3, .int x3), (4, .int x4), (5, .int x5), (6, .int x6), (7, .int x7)]) hx hb dX11_spells_83 hl (by decide) rfl (fun ls hl => ?_)
    refine lv_aload_n hx hb dX11_spells_85 rfl (lv_at hl 4 rfl) ?_
    obtain ⟨q_19, hq_20, hf⟩ := aw_bind_some hf
    refine gf_X11_38 hx hb G hown hc_4 hq_20 dX11_spells_86 ?_
    refine lv_iload_n hx hb dX11_spells_89 rfl (lv_at hl 5 rfl) ?_
    obtain ⟨hc_21, hf⟩ := aw_chk_some hf
    refine aw_ial hx hb G hc_21 dX11_spells_90 ?_
    refine lv_if_ne (tgt := 121) hx hb dX11_spells_91 (by decide) (fun hc => ?_) (fun hc => ?_)
    · have hf := aw_ite_f hc hf
      exact w_X11_spells_J121 X hf hkb22 (lv_sub hl [4, 5, 6, 7, 8, 9, 10, 3, 2, 1, 0] rfl) G
    · have hf := aw_ite_t hc hf
      refine lv_iload hx hb dX11_spells_94 (lv_at hl 3 rfl) ?_
      refine lv_bipush (v := (8 : Int32)) hx hb dX11_spells_96 (by decide) ?_
      refine lv_icmp_eq (tgt := 121) hx hb dX11_spells_98 (by decide) (fun hc => ?_) (fun hc => ?_)
      · have hf := aw_ite_t hc hf
        exact w_X11_spells_J121 X hf hkb22 (lv_sub hl [4, 5, 6, 7, 8, 9, 10, 3, 2, 1, 0] rfl) G
      · have hf := aw_ite_f hc hf
        refine lv_aload_n hx hb dX11_spells_101 rfl (lv_at hl 4 rfl) ?_
        obtain ⟨q_52, hq_53, hf⟩ := aw_bind_some hf
        refine gf_X11_65 hx hb G hown hc_4 hq_53 dX11_spells_102 ?_
        refine lv_iload hx hb dX11_spells_105 (lv_at hl 8 rfl) ?_
        refine lv_aload_n hx hb dX11_spells_107 rfl (lv_at hl 4 rfl) ?_
        obtain ⟨q_54, hq_55, hf⟩ := aw_bind_some hf
        refine gf_X11_44 hx hb G hown hc_4 hq_55 dX11_spells_108 ?_
        refine lv_iload hx hb dX11_spells_111 (lv_at hl 9 rfl) ?_
        refine lv_iload hx hb dX11_spells_113 (lv_at hl 3 rfl) ?_
        refine lv_iadd hx hb dX11_spells_115 ?_
        obtain ⟨hc_56, hf⟩ := aw_chk_some hf
        refine aw_ial hx hb G hc_56 dX11_spells_116 ?_
        obtain ⟨hc_57, hf⟩ := aw_chk_some hf
        refine aw_ias hx hb G hc_57 dX11_spells_117 (fun H locs G => ?_)
        refine lv_iinc (v := x5 + 1) (lv' := [(5, .int (x5 + 1)), (11, .int z_17.1), (10, .int z_15.1), (9, .int z_13.1), (8, .int z_11.1), (0, .ref (ad x0)), (1, .int x1), (3, .int x3), (4, .int x4), (6, .int x6), (7, .int x7)]) hx hb dX11_spells_118 hl (k := 8) rfl rfl (by decide) rfl (fun ls hl => ?_)
        exact w_X11_spells_J121 X hf hkb22 (lv_sub hl [5, 6, 7, 8, 0, 9, 10, 4, 3, 2, 1] rfl) G
theorem w_X11_spells_L22 {z : Unit × Dt} (X : aw_X p c cX11_spells 12 s RX11 m meth (none)) {k22 : Int32 → Dt → Option (Unit × Dt)} {x0 : Nat} {x1 : Int32} {x3 : Int32} {x4 : Int32} {x6 : Int32} (n : Nat) {x5 : Int32} {x7 : Int32} {d : Dt} (hf : f_X11_spells_L22 σ n k22 x0 x1 x3 x4 x6 x5 x7 d = some z) (hk22 : ∀ (y5 : Int32) (d : Dt), k22 y5 d = some z → ∀ (H : Heap) (locs : List Loc) (ls : Array Slot), lv_has ls 12 [(0, .ref (ad x0)), (4, .int x4), (5, .int y5)] → aw_G D cA base ad σ d s H locs → W p l e rm_X11_spells s m args below meth c H locs 0 0 (aw_Ev D cA base ad σ below args s z) (F0 m 250 ls [])) {H : Heap} {locs : List Loc} {ls : Array Slot} (hl : lv_has ls 12 [(0, .ref (ad x0)), (1, .int x1), (3, .int x3), (4, .int x4), (5, .int x5), (6, .int x6), (7, .int x7)]) (G : aw_G D cA base ad σ d s H locs) : W p l e rm_X11_spells s m args below meth c H locs 0 0 (aw_Ev D cA base ad σ below args s z) (F0 m 22 ls []) := by
  induction n generalizing x5 x7 d H locs ls with
  | zero => exact absurd (show (none : Option (Unit × Dt)) = some z from hf) (by simp)
  | succ n ih => exact w_X11_spells_B22 X (kb22 := f_X11_spells_L22 σ n k22 x0 x1 x3 x4 x6) hf  (fun x5 x7 d hf H locs ls hl G => ih hf hl G) hk22 hl G
end W_X11_spells
set_option maxHeartbeats 4000000 in
set_option maxRecDepth 100000 in
theorem c_X11_spells (l : Launch) {σ : Sg} {x0 : Nat} {x1 : Int32} {x2 : Int32} {x3 : Int32} {x4 : Int32} {d : Dt} {z : Unit × Dt} (hf : f_X11_spells σ x0 x1 x2 x3 x4 d = some z) : aw_Mv l yX11_spells (Cond.code yX11_spells cX11_spells 12 (none)) rm_X11_spells (fun ad => [.ref (ad x0), .int x1, .int x2, .int x3, .int x4]) σ d z := by
  intro D cA base ad
  refine aw_ofW (own := RX11) (cc := cX11_spells) (nL := 12) (ret := none) (by decide) rfl rfl ?_
  intro p e s m below meth c X hnm G
  have hx := X.1; have hb := X.2.1; have hml := X.2.2.1; have hown := X.2.2.2.1
  refine aw_ls (lv := [(0, .ref (ad x0)), (1, .int x1), (2, .int x2), (3, .int x3), (4, .int x4)]) (Nat.le_of_ble_eq_true rfl) rfl (fun ls hl => ?_)
  unfold f_X11_spells at hf
  refine lv_aload_n hx hb dX11_spells_0 rfl (lv_at hl 0 rfl) ?_
  refine lv_iload_n hx hb dX11_spells_1 rfl (lv_at hl 2 rfl) ?_
  refine lv_iload_n hx hb dX11_spells_2 rfl (lv_at hl 3 rfl) ?_
  obtain ⟨hc_3, hf⟩ := aw_chk_some hf
  obtain ⟨z_1, hz_2, hf⟩ := aw_bind_some hf
  refine aw_VV (As := [.int x2, .int x3]) (rest := []) X G hl.1 cr_X11_135 (c_X11_speaks l hz_2) ⟨rfl, rfl⟩ rfl rfl rfl (by decide) hc_3 rfl ⟨Nat.le_of_ble_eq_true rfl, Nat.le_of_ble_eq_true rfl⟩ (Nat.le_of_ble_eq_true rfl) dX11_spells_3 ⟨Nat.zero_le _, Nat.zero_le _⟩ (fun H locs G => ?_)
  refine lv_bipush (v := (16 : Int32)) hx hb dX11_spells_6 (by decide) ?_
  refine lv_iload hx hb dX11_spells_8 (lv_at hl 4 rfl) ?_
  refine lv_imul hx hb dX11_spells_10 ?_
  refine lv_istore (lv' := [(5, .int (((16 : Int32)) * x4)), (0, .ref (ad x0)), (1, .int x1), (2, .int x2), (3, .int x3), (4, .int x4)]) hx hb dX11_spells_11 hl (by decide) rfl (fun ls hl => ?_)
  refine lv_bipush (v := (47 : Int32)) hx hb dX11_spells_13 (by decide) ?_
  refine lv_iload_n hx hb dX11_spells_15 rfl (lv_at hl 2 rfl) ?_
  refine lv_imul hx hb dX11_spells_16 ?_
  refine lv_istore (lv' := [(6, .int (((47 : Int32)) * x1)), (5, .int (((16 : Int32)) * x4)), (0, .ref (ad x0)), (1, .int x1), (2, .int x2), (3, .int x3), (4, .int x4)]) hx hb dX11_spells_17 hl (by decide) rfl (fun ls hl => ?_)
  refine lv_iconst (v := (0 : Int32)) hx hb dX11_spells_19 (by decide) ?_
  refine lv_istore (lv' := [(7, .int ((0 : Int32))), (6, .int (((47 : Int32)) * x1)), (5, .int (((16 : Int32)) * x4)), (0, .ref (ad x0)), (1, .int x1), (2, .int x2), (3, .int x3), (4, .int x4)]) hx hb dX11_spells_20 hl (by decide) rfl (fun ls hl => ?_)
  refine w_X11_spells_L22 X aw_FU hf  (fun x5_58 d_59 hf H locs ls hl G => ?_) (lv_sub hl [3, 4, 6, 7, 2, 1, 0] rfl) G
  refine lv_aload_n hx hb dX11_spells_250 rfl (lv_at hl 0 rfl) ?_
  obtain ⟨q_60, hq_61, hf⟩ := aw_bind_some hf
  refine gf_X11_68 hx hb G hown hc_3 hq_61 dX11_spells_251 ?_
  refine lv_iload hx hb dX11_spells_254 (lv_at hl 1 rfl) ?_
  refine lv_iload hx hb dX11_spells_256 (lv_at hl 2 rfl) ?_
  refine lv_bipush (v := (16 : Int32)) hx hb dX11_spells_258 (by decide) ?_
  refine lv_iload hx hb dX11_spells_260 (lv_at hl 1 rfl) ?_
  refine lv_imul hx hb dX11_spells_262 ?_
  refine lv_isub hx hb dX11_spells_263 ?_
  obtain ⟨hc_62, hf⟩ := aw_chk_some hf
  refine aw_ias hx hb G hc_62 dX11_spells_264 (fun H locs G => ?_)
  exact aw_retv X G hf dX11_spells_265
def rm_X11_spellsAll : Room := { frames := 3, cells := 0, slots := 0, locals := 76 }
def f_X11_spellsAll_B3 (σ : Sg) (kb3 : Int32 → Dt → Option (Unit × Dt)) (k3 : Dt → Option (Unit × Dt)) (x0 : Nat) (x1 : Int32) (x2 : Int32) (x3 : Int32) (x4 : Int32) (d : Dt) : Option (Unit × Dt) :=
  aw_chk (aw_O σ 11 32 x0) (if (d.1 x0 2) ≤ x4 then k3 d else (f_X11_spells σ x0 x1 x2 x4 (x3 + x4) d).bind (fun z_2 => kb3 (x4 + 1) z_2.2))
def f_X11_spellsAll_L3 (σ : Sg) (n : Nat) (k3 : Dt → Option (Unit × Dt)) (x0 : Nat) (x1 : Int32) (x2 : Int32) (x3 : Int32) : Int32 → Dt → Option (Unit × Dt) := match n with
  | 0 => fun _ _ => none
  | n + 1 => fun x4 d => f_X11_spellsAll_B3 σ (f_X11_spellsAll_L3 σ n k3 x0 x1 x2 x3) k3 x0 x1 x2 x3 x4 d
def f_X11_spellsAll (σ : Sg) (x0 : Nat) (x1 : Int32) (x2 : Int32) (x3 : Int32) (d : Dt) : Option (Unit × Dt) :=
  f_X11_spellsAll_L3 σ aw_FU (fun d_4 => some ((), d_4)) x0 x1 x2 x3 ((0 : Int32)) d
section W_X11_spellsAll
variable {p : Program} {l : Launch} {e : Env} {s : State} {m : MethodId} {args : Array Value} {below : List Frame} {meth : Method} {c : Code}
variable {D : va_G} {cA : Nat → ClassId} {base : Nat} {ad : Nat → Nat} {σ : Sg}
set_option maxHeartbeats 4000000 in
set_option maxRecDepth 100000 in
theorem w_X11_spellsAll_B3 {z : Unit × Dt} (X : aw_X p c cX11_spellsAll 5 s RX11 m meth (none)) {kb3 : Int32 → Dt → Option (Unit × Dt)} {k3 : Dt → Option (Unit × Dt)} {x0 : Nat} {x1 : Int32} {x2 : Int32} {x3 : Int32} {x4 : Int32} {d : Dt} (hf : f_X11_spellsAll_B3 σ kb3 k3 x0 x1 x2 x3 x4 d = some z) (hkb3 : ∀ (y4 : Int32) (d : Dt), kb3 y4 d = some z → ∀ (H : Heap) (locs : List Loc) (ls : Array Slot), lv_has ls 5 [(0, .ref (ad x0)), (1, .int x1), (2, .int x2), (3, .int x3), (4, .int y4)] → aw_G D cA base ad σ d s H locs → W p l e rm_X11_spellsAll s m args below meth c H locs 0 0 (aw_Ev D cA base ad σ below args s z) (F0 m 3 ls [])) (hk3 : ∀ (d : Dt), k3 d = some z → ∀ (H : Heap) (locs : List Loc) (ls : Array Slot), lv_has ls 5 [] → aw_G D cA base ad σ d s H locs → W p l e rm_X11_spellsAll s m args below meth c H locs 0 0 (aw_Ev D cA base ad σ below args s z) (F0 m 30 ls [])) {H : Heap} {locs : List Loc} {ls : Array Slot} (hl : lv_has ls 5 [(0, .ref (ad x0)), (1, .int x1), (2, .int x2), (3, .int x3), (4, .int x4)]) (G : aw_G D cA base ad σ d s H locs) : W p l e rm_X11_spellsAll s m args below meth c H locs 0 0 (aw_Ev D cA base ad σ below args s z) (F0 m 3 ls []) := by
  have hx := X.1; have hb := X.2.1; have hml := X.2.2.1; have hown := X.2.2.2.1
  unfold f_X11_spellsAll_B3 at hf
  refine lv_iload hx hb dX11_spellsAll_3 (lv_at hl 4 rfl) ?_
  refine lv_aload_n hx hb dX11_spellsAll_5 rfl (lv_at hl 0 rfl) ?_
  obtain ⟨hc_1, hf⟩ := aw_chk_some hf
  refine gf_X11_100 hx hb G hown hc_1 dX11_spellsAll_6 ?_
  refine lv_icmp_ge (tgt := 30) hx hb dX11_spellsAll_9 (by decide) (fun hc => ?_) (fun hc => ?_)
  · have hf := aw_ite_t hc hf
    exact hk3 _ hf _ _ _ (lv_sub hl [] rfl) G
  · have hf := aw_ite_f hc hf
    refine lv_aload_n hx hb dX11_spellsAll_12 rfl (lv_at hl 0 rfl) ?_
    refine lv_iload_n hx hb dX11_spellsAll_13 rfl (lv_at hl 1 rfl) ?_
    refine lv_iload_n hx hb dX11_spellsAll_14 rfl (lv_at hl 2 rfl) ?_
    refine lv_iload hx hb dX11_spellsAll_15 (lv_at hl 4 rfl) ?_
    refine lv_iload_n hx hb dX11_spellsAll_17 rfl (lv_at hl 3 rfl) ?_
    refine lv_iload hx hb dX11_spellsAll_18 (lv_at hl 4 rfl) ?_
    refine lv_iadd hx hb dX11_spellsAll_20 ?_
    obtain ⟨z_2, hz_3, hf⟩ := aw_bind_some hf
    refine aw_VV (As := [.int x1, .int x2, .int x4, .int (x3 + x4)]) (rest := []) X G hl.1 cr_X11_152 (c_X11_spells l hz_3) ⟨rfl, rfl⟩ rfl rfl rfl (by decide) hc_1 rfl ⟨Nat.le_of_ble_eq_true rfl, Nat.le_of_ble_eq_true rfl⟩ (Nat.le_of_ble_eq_true rfl) dX11_spellsAll_21 ⟨Nat.zero_le _, Nat.zero_le _⟩ (fun H locs G => ?_)
    refine lv_iinc (v := x4 + 1) (lv' := [(4, .int (x4 + 1)), (0, .ref (ad x0)), (1, .int x1), (2, .int x2), (3, .int x3)]) hx hb dX11_spellsAll_24 hl (k := 4) rfl rfl (by decide) rfl (fun ls hl => ?_)
    refine lv_goto (tgt := 3) hx hb dX11_spellsAll_27 (by decide) ?_
    exact hkb3 _ _ hf _ _ _ (lv_sub hl [1, 2, 3, 4, 0] rfl) G
theorem w_X11_spellsAll_L3 {z : Unit × Dt} (X : aw_X p c cX11_spellsAll 5 s RX11 m meth (none)) {k3 : Dt → Option (Unit × Dt)} {x0 : Nat} {x1 : Int32} {x2 : Int32} {x3 : Int32} (n : Nat) {x4 : Int32} {d : Dt} (hf : f_X11_spellsAll_L3 σ n k3 x0 x1 x2 x3 x4 d = some z) (hk3 : ∀ (d : Dt), k3 d = some z → ∀ (H : Heap) (locs : List Loc) (ls : Array Slot), lv_has ls 5 [] → aw_G D cA base ad σ d s H locs → W p l e rm_X11_spellsAll s m args below meth c H locs 0 0 (aw_Ev D cA base ad σ below args s z) (F0 m 30 ls [])) {H : Heap} {locs : List Loc} {ls : Array Slot} (hl : lv_has ls 5 [(0, .ref (ad x0)), (1, .int x1), (2, .int x2), (3, .int x3), (4, .int x4)]) (G : aw_G D cA base ad σ d s H locs) : W p l e rm_X11_spellsAll s m args below meth c H locs 0 0 (aw_Ev D cA base ad σ below args s z) (F0 m 3 ls []) := by
  induction n generalizing x4 d H locs ls with
  | zero => exact absurd (show (none : Option (Unit × Dt)) = some z from hf) (by simp)
  | succ n ih => exact w_X11_spellsAll_B3 X (kb3 := f_X11_spellsAll_L3 σ n k3 x0 x1 x2 x3) hf  (fun x4 d hf H locs ls hl G => ih hf hl G) hk3 hl G
end W_X11_spellsAll
set_option maxHeartbeats 4000000 in
set_option maxRecDepth 100000 in
theorem c_X11_spellsAll (l : Launch) {σ : Sg} {x0 : Nat} {x1 : Int32} {x2 : Int32} {x3 : Int32} {d : Dt} {z : Unit × Dt} (hf : f_X11_spellsAll σ x0 x1 x2 x3 d = some z) : aw_Mv l yX11_spellsAll (Cond.code yX11_spellsAll cX11_spellsAll 5 (none)) rm_X11_spellsAll (fun ad => [.ref (ad x0), .int x1, .int x2, .int x3]) σ d z := by
  intro D cA base ad
  refine aw_ofW (own := RX11) (cc := cX11_spellsAll) (nL := 5) (ret := none) (by decide) rfl rfl ?_
  intro p e s m below meth c X hnm G
  have hx := X.1; have hb := X.2.1; have hml := X.2.2.1; have hown := X.2.2.2.1
  refine aw_ls (lv := [(0, .ref (ad x0)), (1, .int x1), (2, .int x2), (3, .int x3)]) (Nat.le_of_ble_eq_true rfl) rfl (fun ls hl => ?_)
  unfold f_X11_spellsAll at hf
  refine lv_iconst (v := (0 : Int32)) hx hb dX11_spellsAll_0 (by decide) ?_
  refine lv_istore (lv' := [(4, .int ((0 : Int32))), (0, .ref (ad x0)), (1, .int x1), (2, .int x2), (3, .int x3)]) hx hb dX11_spellsAll_1 hl (by decide) rfl (fun ls hl => ?_)
  refine w_X11_spellsAll_L3 X aw_FU hf  (fun d_4 hf H locs ls hl G => ?_) (lv_sub hl [1, 2, 3, 4, 0] rfl) G
  exact aw_retv X G hf dX11_spellsAll_30
def rm_X11_areAlike : Room := { frames := 0, cells := 0, slots := 0, locals := 0 }
def f_X11_areAlike_J71 (σ : Sg) (kb24 : Int32 → Int32 → Dt → Option (Int32 × Dt)) (t0 : Int32) (x0 : Nat) (x1 : Int32) (x2 : Int32) (x4 : Int32) (d : Dt) : Option (Int32 × Dt) :=
  kb24 t0 (x4 + 1) d
def f_X11_areAlike_B24 (σ : Sg) (kb24 : Int32 → Int32 → Dt → Option (Int32 × Dt)) (k24 : Int32 → Dt → Option (Int32 × Dt)) (x0 : Nat) (x1 : Int32) (x2 : Int32) (x3 : Int32) (x4 : Int32) (d : Dt) : Option (Int32 × Dt) :=
  aw_chk (aw_O σ 11 32 x0) ((σ.2.2 x0 22).bind (fun q_7 => aw_chk (aw_I σ 20 q_7 x1) (if (d.1 q_7 x1.toNatClampNeg) ≤ x4 then k24 x3 d else if x3 = 0 then k24 x3 d else (σ.2.2 x0 21).bind (fun q_10 => aw_chk (aw_I σ 20 q_10 ((((16 : Int32)) * x1) + x4)) (aw_chk (aw_I σ 20 q_10 ((((16 : Int32)) * x2) + x4)) (if (d.1 q_10 ((((16 : Int32)) * x1) + x4).toNatClampNeg) = (d.1 q_10 ((((16 : Int32)) * x2) + x4).toNatClampNeg) then f_X11_areAlike_J71 σ kb24 ((1 : Int32)) x0 x1 x2 x4 d else f_X11_areAlike_J71 σ kb24 ((0 : Int32)) x0 x1 x2 x4 d))))))
def f_X11_areAlike_L24 (σ : Sg) (n : Nat) (k24 : Int32 → Dt → Option (Int32 × Dt)) (x0 : Nat) (x1 : Int32) (x2 : Int32) : Int32 → Int32 → Dt → Option (Int32 × Dt) := match n with
  | 0 => fun _ _ _ => none
  | n + 1 => fun x3 x4 d => f_X11_areAlike_B24 σ (f_X11_areAlike_L24 σ n k24 x0 x1 x2) k24 x0 x1 x2 x3 x4 d
def f_X11_areAlike_J78 (σ : Sg) (x3 : Int32) (d : Dt) : Option (Int32 × Dt) :=
  aw_chk (x3 &&& 1 = x3) (some (x3, d))
def f_X11_areAlike_J20 (σ : Sg) (t0 : Int32) (x0 : Nat) (x1 : Int32) (x2 : Int32) (d : Dt) : Option (Int32 × Dt) :=
  f_X11_areAlike_L24 σ aw_FU (fun x3_14 d_15 => f_X11_areAlike_J78 σ x3_14 d_15) x0 x1 x2 t0 ((0 : Int32)) d
def f_X11_areAlike (σ : Sg) (x0 : Nat) (x1 : Int32) (x2 : Int32) (d : Dt) : Option (Int32 × Dt) :=
  aw_chk (aw_O σ 11 32 x0) ((σ.2.2 x0 22).bind (fun q_2 => aw_chk (aw_I σ 20 q_2 x1) (aw_chk (aw_I σ 20 q_2 x2) (if (d.1 q_2 x1.toNatClampNeg) = (d.1 q_2 x2.toNatClampNeg) then f_X11_areAlike_J20 σ ((1 : Int32)) x0 x1 x2 d else f_X11_areAlike_J20 σ ((0 : Int32)) x0 x1 x2 d))))
section W_X11_areAlike
variable {p : Program} {l : Launch} {e : Env} {s : State} {m : MethodId} {args : Array Value} {below : List Frame} {meth : Method} {c : Code}
variable {D : va_G} {cA : Nat → ClassId} {base : Nat} {ad : Nat → Nat} {σ : Sg}
set_option maxHeartbeats 4000000 in
set_option maxRecDepth 100000 in
theorem w_X11_areAlike_J71 {z : Int32 × Dt} (X : aw_X p c cX11_areAlike 5 s RX11 m meth (some .boolean)) {kb24 : Int32 → Int32 → Dt → Option (Int32 × Dt)} {t0 : Int32} {x0 : Nat} {x1 : Int32} {x2 : Int32} {x4 : Int32} {d : Dt} (hf : f_X11_areAlike_J71 σ kb24 t0 x0 x1 x2 x4 d = some z) (hkb24 : ∀ (y3 : Int32) (y4 : Int32) (d : Dt), kb24 y3 y4 d = some z → ∀ (H : Heap) (locs : List Loc) (ls : Array Slot), lv_has ls 5 [(0, .ref (ad x0)), (1, .int x1), (2, .int x2), (3, .int y3), (4, .int y4)] → aw_G D cA base ad σ d s H locs → W p l e rm_X11_areAlike s m args below meth c H locs 0 0 (aw_Ei D cA base ad σ below args s z) (F0 m 24 ls [])) {H : Heap} {locs : List Loc} {ls : Array Slot} (hl : lv_has ls 5 [(0, .ref (ad x0)), (1, .int x1), (2, .int x2), (4, .int x4)]) (G : aw_G D cA base ad σ d s H locs) : W p l e rm_X11_areAlike s m args below meth c H locs 0 0 (aw_Ei D cA base ad σ below args s z) (F0 m 71 ls [.int t0]) := by
  have hx := X.1; have hb := X.2.1; have hml := X.2.2.1; have hown := X.2.2.2.1
  unfold f_X11_areAlike_J71 at hf
  refine lv_istore_n (lv' := [(3, .int t0), (0, .ref (ad x0)), (1, .int x1), (2, .int x2), (4, .int x4)]) hx hb dX11_areAlike_71 rfl hl (by decide) rfl (fun ls hl => ?_)
  refine lv_iinc (v := x4 + 1) (lv' := [(4, .int (x4 + 1)), (3, .int t0), (0, .ref (ad x0)), (1, .int x1), (2, .int x2)]) hx hb dX11_areAlike_72 hl (k := 4) rfl rfl (by decide) rfl (fun ls hl => ?_)
  refine lv_goto (tgt := 24) hx hb dX11_areAlike_75 (by decide) ?_
  exact hkb24 _ _ _ hf _ _ _ (lv_sub hl [2, 3, 4, 1, 0] rfl) G
set_option maxHeartbeats 4000000 in
set_option maxRecDepth 100000 in
theorem w_X11_areAlike_B24 {z : Int32 × Dt} (X : aw_X p c cX11_areAlike 5 s RX11 m meth (some .boolean)) {kb24 : Int32 → Int32 → Dt → Option (Int32 × Dt)} {k24 : Int32 → Dt → Option (Int32 × Dt)} {x0 : Nat} {x1 : Int32} {x2 : Int32} {x3 : Int32} {x4 : Int32} {d : Dt} (hf : f_X11_areAlike_B24 σ kb24 k24 x0 x1 x2 x3 x4 d = some z) (hkb24 : ∀ (y3 : Int32) (y4 : Int32) (d : Dt), kb24 y3 y4 d = some z → ∀ (H : Heap) (locs : List Loc) (ls : Array Slot), lv_has ls 5 [(0, .ref (ad x0)), (1, .int x1), (2, .int x2), (3, .int y3), (4, .int y4)] → aw_G D cA base ad σ d s H locs → W p l e rm_X11_areAlike s m args below meth c H locs 0 0 (aw_Ei D cA base ad σ below args s z) (F0 m 24 ls [])) (hk24 : ∀ (y3 : Int32) (d : Dt), k24 y3 d = some z → ∀ (H : Heap) (locs : List Loc) (ls : Array Slot), lv_has ls 5 [(3, .int y3)] → aw_G D cA base ad σ d s H locs → W p l e rm_X11_areAlike s m args below meth c H locs 0 0 (aw_Ei D cA base ad σ below args s z) (F0 m 78 ls [])) {H : Heap} {locs : List Loc} {ls : Array Slot} (hl : lv_has ls 5 [(0, .ref (ad x0)), (1, .int x1), (2, .int x2), (3, .int x3), (4, .int x4)]) (G : aw_G D cA base ad σ d s H locs) : W p l e rm_X11_areAlike s m args below meth c H locs 0 0 (aw_Ei D cA base ad σ below args s z) (F0 m 24 ls []) := by
  have hx := X.1; have hb := X.2.1; have hml := X.2.2.1; have hown := X.2.2.2.1
  unfold f_X11_areAlike_B24 at hf
  refine lv_iload hx hb dX11_areAlike_24 (lv_at hl 4 rfl) ?_
  refine lv_aload_n hx hb dX11_areAlike_26 rfl (lv_at hl 0 rfl) ?_
  obtain ⟨hc_6, hf⟩ := aw_chk_some hf
  obtain ⟨q_7, hq_8, hf⟩ := aw_bind_some hf
  refine gf_X11_68 hx hb G hown hc_6 hq_8 dX11_areAlike_27 ?_
  refine lv_iload_n hx hb dX11_areAlike_30 rfl (lv_at hl 1 rfl) ?_
  obtain ⟨hc_9, hf⟩ := aw_chk_some hf
  refine aw_ial hx hb G hc_9 dX11_areAlike_31 ?_
  refine lv_icmp_ge (tgt := 78) hx hb dX11_areAlike_32 (by decide) (fun hc => ?_) (fun hc => ?_)
  · have hf := aw_ite_t hc hf
    exact hk24 _ _ hf _ _ _ (lv_sub hl [3] rfl) G
  · have hf := aw_ite_f hc hf
    refine lv_iload_n hx hb dX11_areAlike_35 rfl (lv_at hl 3 rfl) ?_
    refine lv_if_eq (tgt := 78) hx hb dX11_areAlike_36 (by decide) (fun hc => ?_) (fun hc => ?_)
    · have hf := aw_ite_t hc hf
      exact hk24 _ _ hf _ _ _ (lv_sub hl [3] rfl) G
    · have hf := aw_ite_f hc hf
      refine lv_aload_n hx hb dX11_areAlike_39 rfl (lv_at hl 0 rfl) ?_
      obtain ⟨q_10, hq_11, hf⟩ := aw_bind_some hf
      refine gf_X11_65 hx hb G hown hc_6 hq_11 dX11_areAlike_40 ?_
      refine lv_bipush (v := (16 : Int32)) hx hb dX11_areAlike_43 (by decide) ?_
      refine lv_iload_n hx hb dX11_areAlike_45 rfl (lv_at hl 1 rfl) ?_
      refine lv_imul hx hb dX11_areAlike_46 ?_
      refine lv_iload hx hb dX11_areAlike_47 (lv_at hl 4 rfl) ?_
      refine lv_iadd hx hb dX11_areAlike_49 ?_
      obtain ⟨hc_12, hf⟩ := aw_chk_some hf
      refine aw_ial hx hb G hc_12 dX11_areAlike_50 ?_
      refine lv_aload_n hx hb dX11_areAlike_51 rfl (lv_at hl 0 rfl) ?_
      refine gf_X11_65 hx hb G hown hc_6 hq_11 dX11_areAlike_52 ?_
      refine lv_bipush (v := (16 : Int32)) hx hb dX11_areAlike_55 (by decide) ?_
      refine lv_iload_n hx hb dX11_areAlike_57 rfl (lv_at hl 2 rfl) ?_
      refine lv_imul hx hb dX11_areAlike_58 ?_
      refine lv_iload hx hb dX11_areAlike_59 (lv_at hl 4 rfl) ?_
      refine lv_iadd hx hb dX11_areAlike_61 ?_
      obtain ⟨hc_13, hf⟩ := aw_chk_some hf
      refine aw_ial hx hb G hc_13 dX11_areAlike_62 ?_
      refine lv_icmp_ne (tgt := 70) hx hb dX11_areAlike_63 (by decide) (fun hc => ?_) (fun hc => ?_)
      · have hf := aw_ite_f hc hf
        refine lv_iconst (v := (0 : Int32)) hx hb dX11_areAlike_70 (by decide) ?_
        exact w_X11_areAlike_J71 X hf hkb24 (lv_sub hl [0, 1, 2, 4] rfl) G
      · have hf := aw_ite_t hc hf
        refine lv_iconst (v := (1 : Int32)) hx hb dX11_areAlike_66 (by decide) ?_
        refine lv_goto (tgt := 71) hx hb dX11_areAlike_67 (by decide) ?_
        exact w_X11_areAlike_J71 X hf hkb24 (lv_sub hl [0, 1, 2, 4] rfl) G
theorem w_X11_areAlike_L24 {z : Int32 × Dt} (X : aw_X p c cX11_areAlike 5 s RX11 m meth (some .boolean)) {k24 : Int32 → Dt → Option (Int32 × Dt)} {x0 : Nat} {x1 : Int32} {x2 : Int32} (n : Nat) {x3 : Int32} {x4 : Int32} {d : Dt} (hf : f_X11_areAlike_L24 σ n k24 x0 x1 x2 x3 x4 d = some z) (hk24 : ∀ (y3 : Int32) (d : Dt), k24 y3 d = some z → ∀ (H : Heap) (locs : List Loc) (ls : Array Slot), lv_has ls 5 [(3, .int y3)] → aw_G D cA base ad σ d s H locs → W p l e rm_X11_areAlike s m args below meth c H locs 0 0 (aw_Ei D cA base ad σ below args s z) (F0 m 78 ls [])) {H : Heap} {locs : List Loc} {ls : Array Slot} (hl : lv_has ls 5 [(0, .ref (ad x0)), (1, .int x1), (2, .int x2), (3, .int x3), (4, .int x4)]) (G : aw_G D cA base ad σ d s H locs) : W p l e rm_X11_areAlike s m args below meth c H locs 0 0 (aw_Ei D cA base ad σ below args s z) (F0 m 24 ls []) := by
  induction n generalizing x3 x4 d H locs ls with
  | zero => exact absurd (show (none : Option (Int32 × Dt)) = some z from hf) (by simp)
  | succ n ih => exact w_X11_areAlike_B24 X (kb24 := f_X11_areAlike_L24 σ n k24 x0 x1 x2) hf  (fun x3 x4 d hf H locs ls hl G => ih hf hl G) hk24 hl G
set_option maxHeartbeats 4000000 in
set_option maxRecDepth 100000 in
theorem w_X11_areAlike_J78 {z : Int32 × Dt} (X : aw_X p c cX11_areAlike 5 s RX11 m meth (some .boolean)) {x3 : Int32} {d : Dt} (hf : f_X11_areAlike_J78 σ x3 d = some z)  {H : Heap} {locs : List Loc} {ls : Array Slot} (hl : lv_has ls 5 [(3, .int x3)]) (G : aw_G D cA base ad σ d s H locs) : W p l e rm_X11_areAlike s m args below meth c H locs 0 0 (aw_Ei D cA base ad σ below args s z) (F0 m 78 ls []) := by
  have hx := X.1; have hb := X.2.1; have hml := X.2.2.1; have hown := X.2.2.2.1
  unfold f_X11_areAlike_J78 at hf
  refine lv_iload_n hx hb dX11_areAlike_78 rfl (lv_at hl 0 rfl) ?_
  obtain ⟨hc_16, hf⟩ := aw_chk_some hf
  exact aw_retz X G hc_16 hf dX11_areAlike_79
set_option maxHeartbeats 4000000 in
set_option maxRecDepth 100000 in
theorem w_X11_areAlike_J20 {z : Int32 × Dt} (X : aw_X p c cX11_areAlike 5 s RX11 m meth (some .boolean)) {t0 : Int32} {x0 : Nat} {x1 : Int32} {x2 : Int32} {d : Dt} (hf : f_X11_areAlike_J20 σ t0 x0 x1 x2 d = some z)  {H : Heap} {locs : List Loc} {ls : Array Slot} (hl : lv_has ls 5 [(0, .ref (ad x0)), (1, .int x1), (2, .int x2)]) (G : aw_G D cA base ad σ d s H locs) : W p l e rm_X11_areAlike s m args below meth c H locs 0 0 (aw_Ei D cA base ad σ below args s z) (F0 m 20 ls [.int t0]) := by
  have hx := X.1; have hb := X.2.1; have hml := X.2.2.1; have hown := X.2.2.2.1
  unfold f_X11_areAlike_J20 at hf
  refine lv_istore_n (lv' := [(3, .int t0), (0, .ref (ad x0)), (1, .int x1), (2, .int x2)]) hx hb dX11_areAlike_20 rfl hl (by decide) rfl (fun ls hl => ?_)
  refine lv_iconst (v := (0 : Int32)) hx hb dX11_areAlike_21 (by decide) ?_
  refine lv_istore (lv' := [(4, .int ((0 : Int32))), (3, .int t0), (0, .ref (ad x0)), (1, .int x1), (2, .int x2)]) hx hb dX11_areAlike_22 hl (by decide) rfl (fun ls hl => ?_)
  refine w_X11_areAlike_L24 X aw_FU hf  (fun x3_14 d_15 hf H locs ls hl G => ?_) (lv_sub hl [2, 3, 4, 1, 0] rfl) G
  exact w_X11_areAlike_J78 X hf  (lv_sub hl [0] rfl) G
end W_X11_areAlike
set_option maxHeartbeats 4000000 in
set_option maxRecDepth 100000 in
theorem c_X11_areAlike (l : Launch) {σ : Sg} {x0 : Nat} {x1 : Int32} {x2 : Int32} {d : Dt} {z : Int32 × Dt} (hf : f_X11_areAlike σ x0 x1 x2 d = some z) : aw_Mi l yX11_areAlike (Cond.code yX11_areAlike cX11_areAlike 5 (some .boolean)) rm_X11_areAlike (fun ad => [.ref (ad x0), .int x1, .int x2]) σ d z := by
  intro D cA base ad
  refine aw_ofW (own := RX11) (cc := cX11_areAlike) (nL := 5) (ret := some .boolean) (by decide) rfl rfl ?_
  intro p e s m below meth c X hnm G
  have hx := X.1; have hb := X.2.1; have hml := X.2.2.1; have hown := X.2.2.2.1
  refine aw_ls (lv := [(0, .ref (ad x0)), (1, .int x1), (2, .int x2)]) (Nat.le_of_ble_eq_true rfl) rfl (fun ls hl => ?_)
  unfold f_X11_areAlike at hf
  refine lv_aload_n hx hb dX11_areAlike_0 rfl (lv_at hl 0 rfl) ?_
  obtain ⟨hc_1, hf⟩ := aw_chk_some hf
  obtain ⟨q_2, hq_3, hf⟩ := aw_bind_some hf
  refine gf_X11_68 hx hb G hown hc_1 hq_3 dX11_areAlike_1 ?_
  refine lv_iload_n hx hb dX11_areAlike_4 rfl (lv_at hl 1 rfl) ?_
  obtain ⟨hc_4, hf⟩ := aw_chk_some hf
  refine aw_ial hx hb G hc_4 dX11_areAlike_5 ?_
  refine lv_aload_n hx hb dX11_areAlike_6 rfl (lv_at hl 0 rfl) ?_
  refine gf_X11_68 hx hb G hown hc_1 hq_3 dX11_areAlike_7 ?_
  refine lv_iload_n hx hb dX11_areAlike_10 rfl (lv_at hl 2 rfl) ?_
  obtain ⟨hc_5, hf⟩ := aw_chk_some hf
  refine aw_ial hx hb G hc_5 dX11_areAlike_11 ?_
  refine lv_icmp_ne (tgt := 19) hx hb dX11_areAlike_12 (by decide) (fun hc => ?_) (fun hc => ?_)
  · have hf := aw_ite_f hc hf
    refine lv_iconst (v := (0 : Int32)) hx hb dX11_areAlike_19 (by decide) ?_
    exact w_X11_areAlike_J20 X hf  (lv_sub hl [0, 1, 2] rfl) G
  · have hf := aw_ite_t hc hf
    refine lv_iconst (v := (1 : Int32)) hx hb dX11_areAlike_15 (by decide) ?_
    refine lv_goto (tgt := 20) hx hb dX11_areAlike_16 (by decide) ?_
    exact w_X11_areAlike_J20 X hf  (lv_sub hl [0, 1, 2] rfl) G
def rm_X11_spelled : Room := { frames := 3, cells := 0, slots := 0, locals := 76 }
def f_X11_spelled_J67 (σ : Sg) (t0 : Int32) (d : Dt) : Option (Int32 × Dt) :=
  some (t0, d)
def f_X11_spelled_J26 (σ : Sg) (t1 : Int32) (t0 : Nat) (x0 : Nat) (x1 : Int32) (x2 : Int32) (x3 : Int32) (d : Dt) : Option (Int32 × Dt) :=
  aw_chk (aw_O σ 11 32 t0) ((f_X11_fails σ t0 t1 d).bind (fun z_4 => if z_4.1 = 0 then aw_chk (aw_O σ 11 32 x0) ((σ.2.2 x0 13).bind (fun q_8 => aw_chk (aw_I σ 20 q_8 x1) ((f_X11_spells σ x0 x1 (z_4.2.1 q_8 x1.toNatClampNeg) x2 ((0 : Int32)) z_4.2).bind (fun z_11 => (σ.2.2 x0 22).bind (fun q_13 => aw_chk (aw_I σ 20 q_13 ((0 : Int32))) (if (z_11.2.1 q_13 ((0 : Int32)).toNatClampNeg) ≤ x3 then f_X11_spelled_J67 σ ((-1 : Int32)) z_11.2 else (σ.2.2 x0 21).bind (fun q_16 => aw_chk (aw_I σ 20 q_16 x3) (f_X11_spelled_J67 σ (z_11.2.1 q_16 x3.toNatClampNeg) z_11.2)))))))) else some ((0 : Int32), z_4.2)))
def f_X11_spelled_J25 (σ : Sg) (t0 : Nat) (x0 : Nat) (x1 : Int32) (x2 : Int32) (x3 : Int32) (d : Dt) : Option (Int32 × Dt) :=
  f_X11_spelled_J26 σ ((1 : Int32)) t0 x0 x1 x2 x3 d
def f_X11_spelled (σ : Sg) (x0 : Nat) (x1 : Int32) (x2 : Int32) (x3 : Int32) (d : Dt) : Option (Int32 × Dt) :=
  aw_chk (aw_O σ 11 32 x0) ((f_X11_isDesign σ x0 x1 d).bind (fun z_1 => if z_1.1 = 0 then f_X11_spelled_J25 σ x0 x0 x1 x2 x3 z_1.2 else (f_X11_isWord σ x0 x2 z_1.2).bind (fun z_19 => if z_19.1 = 0 then f_X11_spelled_J25 σ x0 x0 x1 x2 x3 z_19.2 else if x3 < 0 then f_X11_spelled_J25 σ x0 x0 x1 x2 x3 z_19.2 else f_X11_spelled_J26 σ ((0 : Int32)) x0 x0 x1 x2 x3 z_19.2)))
section W_X11_spelled
variable {p : Program} {l : Launch} {e : Env} {s : State} {m : MethodId} {args : Array Value} {below : List Frame} {meth : Method} {c : Code}
variable {D : va_G} {cA : Nat → ClassId} {base : Nat} {ad : Nat → Nat} {σ : Sg}
set_option maxHeartbeats 4000000 in
set_option maxRecDepth 100000 in
theorem w_X11_spelled_J67 {z : Int32 × Dt} (X : aw_X p c cX11_spelled 4 s RX11 m meth (some .int)) {t0 : Int32} {d : Dt} (hf : f_X11_spelled_J67 σ t0 d = some z)  {H : Heap} {locs : List Loc} {ls : Array Slot} (hl : lv_has ls 4 []) (G : aw_G D cA base ad σ d s H locs) : W p l e rm_X11_spelled s m args below meth c H locs 0 0 (aw_Ei D cA base ad σ below args s z) (F0 m 67 ls [.int t0]) := by
  have hx := X.1; have hb := X.2.1; have hml := X.2.2.1; have hown := X.2.2.2.1
  unfold f_X11_spelled_J67 at hf
  exact aw_reti X G hf dX11_spelled_67
set_option maxHeartbeats 4000000 in
set_option maxRecDepth 100000 in
theorem w_X11_spelled_J26 {z : Int32 × Dt} (X : aw_X p c cX11_spelled 4 s RX11 m meth (some .int)) {t1 : Int32} {t0 : Nat} {x0 : Nat} {x1 : Int32} {x2 : Int32} {x3 : Int32} {d : Dt} (hf : f_X11_spelled_J26 σ t1 t0 x0 x1 x2 x3 d = some z)  {H : Heap} {locs : List Loc} {ls : Array Slot} (hl : lv_has ls 4 [(0, .ref (ad x0)), (1, .int x1), (2, .int x2), (3, .int x3)]) (G : aw_G D cA base ad σ d s H locs) : W p l e rm_X11_spelled s m args below meth c H locs 0 0 (aw_Ei D cA base ad σ below args s z) (F0 m 26 ls [.int t1, .ref (ad t0)]) := by
  have hx := X.1; have hb := X.2.1; have hml := X.2.2.1; have hown := X.2.2.2.1
  unfold f_X11_spelled_J26 at hf
  obtain ⟨hc_6, hf⟩ := aw_chk_some hf
  obtain ⟨z_4, hz_5, hf⟩ := aw_bind_some hf
  refine aw_VI (As := [.int t1]) (rest := []) X G hl.1 cr_X11_113 (c_X11_fails l hz_5) ⟨rfl, rfl⟩ rfl rfl rfl (by decide) hc_6 rfl ⟨Nat.le_of_ble_eq_true rfl, Nat.le_of_ble_eq_true rfl⟩ (Nat.le_of_ble_eq_true rfl) dX11_spelled_26 ⟨Nat.zero_le _, Nat.zero_le _⟩ (fun H locs G => ?_)
  refine lv_if_eq (tgt := 34) hx hb dX11_spelled_29 (by decide) (fun hc => ?_) (fun hc => ?_)
  · have hf := aw_ite_t hc hf
    refine lv_aload_n hx hb dX11_spelled_34 rfl (lv_at hl 0 rfl) ?_
    refine lv_iload_n hx hb dX11_spelled_35 rfl (lv_at hl 1 rfl) ?_
    refine lv_aload_n hx hb dX11_spelled_36 rfl (lv_at hl 0 rfl) ?_
    obtain ⟨hc_7, hf⟩ := aw_chk_some hf
    obtain ⟨q_8, hq_9, hf⟩ := aw_bind_some hf
    refine gf_X11_41 hx hb G hown hc_7 hq_9 dX11_spelled_37 ?_
    refine lv_iload_n hx hb dX11_spelled_40 rfl (lv_at hl 1 rfl) ?_
    obtain ⟨hc_10, hf⟩ := aw_chk_some hf
    refine aw_ial hx hb G hc_10 dX11_spelled_41 ?_
    refine lv_iload_n hx hb dX11_spelled_42 rfl (lv_at hl 2 rfl) ?_
    refine lv_iconst (v := (0 : Int32)) hx hb dX11_spelled_43 (by decide) ?_
    obtain ⟨z_11, hz_12, hf⟩ := aw_bind_some hf
    refine aw_VV (As := [.int x1, .int (z_4.2.1 q_8 x1.toNatClampNeg), .int x2, .int ((0 : Int32))]) (rest := []) X G hl.1 cr_X11_152 (c_X11_spells l hz_12) ⟨rfl, rfl⟩ rfl rfl rfl (by decide) hc_7 rfl ⟨Nat.le_of_ble_eq_true rfl, Nat.le_of_ble_eq_true rfl⟩ (Nat.le_of_ble_eq_true rfl) dX11_spelled_44 ⟨Nat.zero_le _, Nat.zero_le _⟩ (fun H locs G => ?_)
    refine lv_iload_n hx hb dX11_spelled_47 rfl (lv_at hl 3 rfl) ?_
    refine lv_aload_n hx hb dX11_spelled_48 rfl (lv_at hl 0 rfl) ?_
    obtain ⟨q_13, hq_14, hf⟩ := aw_bind_some hf
    refine gf_X11_68 hx hb G hown hc_7 hq_14 dX11_spelled_49 ?_
    refine lv_iconst (v := (0 : Int32)) hx hb dX11_spelled_52 (by decide) ?_
    obtain ⟨hc_15, hf⟩ := aw_chk_some hf
    refine aw_ial hx hb G hc_15 dX11_spelled_53 ?_
    refine lv_icmp_ge (tgt := 66) hx hb dX11_spelled_54 (by decide) (fun hc => ?_) (fun hc => ?_)
    · have hf := aw_ite_t hc hf
      refine lv_iconst (v := (-1 : Int32)) hx hb dX11_spelled_66 (by decide) ?_
      exact w_X11_spelled_J67 X hf  (lv_sub hl [] rfl) G
    · have hf := aw_ite_f hc hf
      refine lv_aload_n hx hb dX11_spelled_57 rfl (lv_at hl 0 rfl) ?_
      obtain ⟨q_16, hq_17, hf⟩ := aw_bind_some hf
      refine gf_X11_65 hx hb G hown hc_7 hq_17 dX11_spelled_58 ?_
      refine lv_iload_n hx hb dX11_spelled_61 rfl (lv_at hl 3 rfl) ?_
      obtain ⟨hc_18, hf⟩ := aw_chk_some hf
      refine aw_ial hx hb G hc_18 dX11_spelled_62 ?_
      refine lv_goto (tgt := 67) hx hb dX11_spelled_63 (by decide) ?_
      exact w_X11_spelled_J67 X hf  (lv_sub hl [] rfl) G
  · have hf := aw_ite_f hc hf
    refine lv_iconst (v := (0 : Int32)) hx hb dX11_spelled_32 (by decide) ?_
    exact aw_reti X G hf dX11_spelled_33
set_option maxHeartbeats 4000000 in
set_option maxRecDepth 100000 in
theorem w_X11_spelled_J25 {z : Int32 × Dt} (X : aw_X p c cX11_spelled 4 s RX11 m meth (some .int)) {t0 : Nat} {x0 : Nat} {x1 : Int32} {x2 : Int32} {x3 : Int32} {d : Dt} (hf : f_X11_spelled_J25 σ t0 x0 x1 x2 x3 d = some z)  {H : Heap} {locs : List Loc} {ls : Array Slot} (hl : lv_has ls 4 [(0, .ref (ad x0)), (1, .int x1), (2, .int x2), (3, .int x3)]) (G : aw_G D cA base ad σ d s H locs) : W p l e rm_X11_spelled s m args below meth c H locs 0 0 (aw_Ei D cA base ad σ below args s z) (F0 m 25 ls [.ref (ad t0)]) := by
  have hx := X.1; have hb := X.2.1; have hml := X.2.2.1; have hown := X.2.2.2.1
  unfold f_X11_spelled_J25 at hf
  refine lv_iconst (v := (1 : Int32)) hx hb dX11_spelled_25 (by decide) ?_
  exact w_X11_spelled_J26 X hf  (lv_sub hl [0, 1, 2, 3] rfl) G
end W_X11_spelled
set_option maxHeartbeats 4000000 in
set_option maxRecDepth 100000 in
theorem c_X11_spelled (l : Launch) {σ : Sg} {x0 : Nat} {x1 : Int32} {x2 : Int32} {x3 : Int32} {d : Dt} {z : Int32 × Dt} (hf : f_X11_spelled σ x0 x1 x2 x3 d = some z) : aw_Mi l yX11_spelled (Cond.code yX11_spelled cX11_spelled 4 (some .int)) rm_X11_spelled (fun ad => [.ref (ad x0), .int x1, .int x2, .int x3]) σ d z := by
  intro D cA base ad
  refine aw_ofW (own := RX11) (cc := cX11_spelled) (nL := 4) (ret := some .int) (by decide) rfl rfl ?_
  intro p e s m below meth c X hnm G
  have hx := X.1; have hb := X.2.1; have hml := X.2.2.1; have hown := X.2.2.2.1
  refine aw_ls (lv := [(0, .ref (ad x0)), (1, .int x1), (2, .int x2), (3, .int x3)]) (Nat.le_of_ble_eq_true rfl) rfl (fun ls hl => ?_)
  unfold f_X11_spelled at hf
  refine lv_aload_n hx hb dX11_spelled_0 rfl (lv_at hl 0 rfl) ?_
  refine lv_aload_n hx hb dX11_spelled_1 rfl (lv_at hl 0 rfl) ?_
  refine lv_iload_n hx hb dX11_spelled_2 rfl (lv_at hl 1 rfl) ?_
  obtain ⟨hc_3, hf⟩ := aw_chk_some hf
  obtain ⟨z_1, hz_2, hf⟩ := aw_bind_some hf
  refine aw_VI (As := [.int x1]) (rest := [.ref (ad x0)]) X G hl.1 cr_X11_146 (c_X11_isDesign l hz_2) ⟨rfl, rfl⟩ rfl rfl rfl (by decide) hc_3 rfl ⟨Nat.le_of_ble_eq_true rfl, Nat.le_of_ble_eq_true rfl⟩ (Nat.le_of_ble_eq_true rfl) dX11_spelled_3 ⟨Nat.zero_le _, Nat.zero_le _⟩ (fun H locs G => ?_)
  refine lv_if_eq (tgt := 25) hx hb dX11_spelled_6 (by decide) (fun hc => ?_) (fun hc => ?_)
  · have hf := aw_ite_t hc hf
    exact w_X11_spelled_J25 X hf  (lv_sub hl [0, 1, 2, 3] rfl) G
  · have hf := aw_ite_f hc hf
    refine lv_aload_n hx hb dX11_spelled_9 rfl (lv_at hl 0 rfl) ?_
    refine lv_iload_n hx hb dX11_spelled_10 rfl (lv_at hl 2 rfl) ?_
    obtain ⟨z_19, hz_20, hf⟩ := aw_bind_some hf
    refine aw_VI (As := [.int x2]) (rest := [.ref (ad x0)]) X G hl.1 cr_X11_132 (c_X11_isWord l hz_20) ⟨rfl, rfl⟩ rfl rfl rfl (by decide) hc_3 rfl ⟨Nat.le_of_ble_eq_true rfl, Nat.le_of_ble_eq_true rfl⟩ (Nat.le_of_ble_eq_true rfl) dX11_spelled_11 ⟨Nat.zero_le _, Nat.zero_le _⟩ (fun H locs G => ?_)
    refine lv_if_eq (tgt := 25) hx hb dX11_spelled_14 (by decide) (fun hc => ?_) (fun hc => ?_)
    · have hf := aw_ite_t hc hf
      exact w_X11_spelled_J25 X hf  (lv_sub hl [0, 1, 2, 3] rfl) G
    · have hf := aw_ite_f hc hf
      refine lv_iload_n hx hb dX11_spelled_17 rfl (lv_at hl 3 rfl) ?_
      refine lv_if_lt (tgt := 25) hx hb dX11_spelled_18 (by decide) (fun hc => ?_) (fun hc => ?_)
      · have hf := aw_ite_t hc hf
        exact w_X11_spelled_J25 X hf  (lv_sub hl [0, 1, 2, 3] rfl) G
      · have hf := aw_ite_f hc hf
        refine lv_iconst (v := (0 : Int32)) hx hb dX11_spelled_21 (by decide) ?_
        refine lv_goto (tgt := 26) hx hb dX11_spelled_22 (by decide) ?_
        exact w_X11_spelled_J26 X hf  (lv_sub hl [0, 1, 2, 3] rfl) G
def rm_X11_doubts : Room := { frames := 4, cells := 0, slots := 0, locals := 100 }
def f_X11_doubts_J71 (σ : Sg) (kb49 : Int32 → Int32 → Dt → Option (Int32 × Dt)) (t1 : Int32) (t0 : Int32) (x0 : Nat) (x3 : Int32) (x4 : Int32) (d : Dt) : Option (Int32 × Dt) :=
  kb49 (t0 + t1) (x4 + 1) d
def f_X11_doubts_B49 (σ : Sg) (kb49 : Int32 → Int32 → Dt → Option (Int32 × Dt)) (k49 : Int32 → Dt → Option (Int32 × Dt)) (x0 : Nat) (x3 : Int32) (x2 : Int32) (x4 : Int32) (d : Dt) : Option (Int32 × Dt) :=
  if x3 ≤ x4 then k49 x2 d else aw_chk (aw_O σ 11 32 x0) ((f_X11_areAlike σ x0 x3 x4 d).bind (fun z_14 => if z_14.1 = 0 then f_X11_doubts_J71 σ kb49 ((0 : Int32)) x2 x0 x3 x4 z_14.2 else f_X11_doubts_J71 σ kb49 ((1 : Int32)) x2 x0 x3 x4 z_14.2))
def f_X11_doubts_L49 (σ : Sg) (n : Nat) (k49 : Int32 → Dt → Option (Int32 × Dt)) (x0 : Nat) (x3 : Int32) : Int32 → Int32 → Dt → Option (Int32 × Dt) := match n with
  | 0 => fun _ _ _ => none
  | n + 1 => fun x2 x4 d => f_X11_doubts_B49 σ (f_X11_doubts_L49 σ n k49 x0 x3) k49 x0 x3 x2 x4 d
def f_X11_doubts_B38 (σ : Sg) (kb38 : Int32 → Int32 → Dt → Option (Int32 × Dt)) (k38 : Int32 → Dt → Option (Int32 × Dt)) (x0 : Nat) (x2 : Int32) (x3 : Int32) (d : Dt) : Option (Int32 × Dt) :=
  aw_chk (aw_O σ 11 32 x0) (if (d.1 x0 2) ≤ x3 then k38 x2 d else f_X11_doubts_L49 σ aw_FU (fun x2_17 d_18 => kb38 x2_17 (x3 + 1) d_18) x0 x3 x2 ((0 : Int32)) d)
def f_X11_doubts_L38 (σ : Sg) (n : Nat) (k38 : Int32 → Dt → Option (Int32 × Dt)) (x0 : Nat) : Int32 → Int32 → Dt → Option (Int32 × Dt) := match n with
  | 0 => fun _ _ _ => none
  | n + 1 => fun x2 x3 d => f_X11_doubts_B38 σ (f_X11_doubts_L38 σ n k38 x0) k38 x0 x2 x3 d
def f_X11_doubts_J14 (σ : Sg) (t1 : Int32) (t0 : Nat) (x0 : Nat) (x1 : Int32) (d : Dt) : Option (Int32 × Dt) :=
  aw_chk (aw_O σ 11 32 t0) ((f_X11_fails σ t0 t1 d).bind (fun z_4 => if z_4.1 = 0 then aw_chk (aw_O σ 11 32 x0) ((σ.2.2 x0 13).bind (fun q_8 => aw_chk (aw_I σ 20 q_8 x1) ((f_X11_spellsAll σ x0 x1 (z_4.2.1 q_8 x1.toNatClampNeg) ((0 : Int32)) z_4.2).bind (fun z_11 => f_X11_doubts_L38 σ aw_FU (fun x2_19 d_20 => some (x2_19, d_20)) x0 ((0 : Int32)) ((0 : Int32)) z_11.2)))) else some ((0 : Int32), z_4.2)))
def f_X11_doubts (σ : Sg) (x0 : Nat) (x1 : Int32) (d : Dt) : Option (Int32 × Dt) :=
  aw_chk (aw_O σ 11 32 x0) ((f_X11_isDesign σ x0 x1 d).bind (fun z_1 => if z_1.1 = 0 then f_X11_doubts_J14 σ ((1 : Int32)) x0 x0 x1 z_1.2 else f_X11_doubts_J14 σ ((0 : Int32)) x0 x0 x1 z_1.2))
section W_X11_doubts
variable {p : Program} {l : Launch} {e : Env} {s : State} {m : MethodId} {args : Array Value} {below : List Frame} {meth : Method} {c : Code}
variable {D : va_G} {cA : Nat → ClassId} {base : Nat} {ad : Nat → Nat} {σ : Sg}
set_option maxHeartbeats 4000000 in
set_option maxRecDepth 100000 in
theorem w_X11_doubts_J71 {z : Int32 × Dt} (X : aw_X p c cX11_doubts 5 s RX11 m meth (some .int)) {kb49 : Int32 → Int32 → Dt → Option (Int32 × Dt)} {t1 : Int32} {t0 : Int32} {x0 : Nat} {x3 : Int32} {x4 : Int32} {d : Dt} (hf : f_X11_doubts_J71 σ kb49 t1 t0 x0 x3 x4 d = some z) (hkb49 : ∀ (y2 : Int32) (y4 : Int32) (d : Dt), kb49 y2 y4 d = some z → ∀ (H : Heap) (locs : List Loc) (ls : Array Slot), lv_has ls 5 [(0, .ref (ad x0)), (2, .int y2), (3, .int x3), (4, .int y4)] → aw_G D cA base ad σ d s H locs → W p l e rm_X11_doubts s m args below meth c H locs 0 0 (aw_Ei D cA base ad σ below args s z) (F0 m 49 ls [])) {H : Heap} {locs : List Loc} {ls : Array Slot} (hl : lv_has ls 5 [(0, .ref (ad x0)), (3, .int x3), (4, .int x4)]) (G : aw_G D cA base ad σ d s H locs) : W p l e rm_X11_doubts s m args below meth c H locs 0 0 (aw_Ei D cA base ad σ below args s z) (F0 m 71 ls [.int t1, .int t0]) := by
  have hx := X.1; have hb := X.2.1; have hml := X.2.2.1; have hown := X.2.2.2.1
  unfold f_X11_doubts_J71 at hf
  refine lv_iadd hx hb dX11_doubts_71 ?_
  refine lv_istore_n (lv' := [(2, .int (t0 + t1)), (0, .ref (ad x0)), (3, .int x3), (4, .int x4)]) hx hb dX11_doubts_72 rfl hl (by decide) rfl (fun ls hl => ?_)
  refine lv_iinc (v := x4 + 1) (lv' := [(4, .int (x4 + 1)), (2, .int (t0 + t1)), (0, .ref (ad x0)), (3, .int x3)]) hx hb dX11_doubts_73 hl (k := 3) rfl rfl (by decide) rfl (fun ls hl => ?_)
  refine lv_goto (tgt := 49) hx hb dX11_doubts_76 (by decide) ?_
  exact hkb49 _ _ _ hf _ _ _ (lv_sub hl [2, 1, 3, 0] rfl) G
set_option maxHeartbeats 4000000 in
set_option maxRecDepth 100000 in
theorem w_X11_doubts_B49 {z : Int32 × Dt} (X : aw_X p c cX11_doubts 5 s RX11 m meth (some .int)) {kb49 : Int32 → Int32 → Dt → Option (Int32 × Dt)} {k49 : Int32 → Dt → Option (Int32 × Dt)} {x0 : Nat} {x3 : Int32} {x2 : Int32} {x4 : Int32} {d : Dt} (hf : f_X11_doubts_B49 σ kb49 k49 x0 x3 x2 x4 d = some z) (hkb49 : ∀ (y2 : Int32) (y4 : Int32) (d : Dt), kb49 y2 y4 d = some z → ∀ (H : Heap) (locs : List Loc) (ls : Array Slot), lv_has ls 5 [(0, .ref (ad x0)), (2, .int y2), (3, .int x3), (4, .int y4)] → aw_G D cA base ad σ d s H locs → W p l e rm_X11_doubts s m args below meth c H locs 0 0 (aw_Ei D cA base ad σ below args s z) (F0 m 49 ls [])) (hk49 : ∀ (y2 : Int32) (d : Dt), k49 y2 d = some z → ∀ (H : Heap) (locs : List Loc) (ls : Array Slot), lv_has ls 5 [(0, .ref (ad x0)), (2, .int y2), (3, .int x3)] → aw_G D cA base ad σ d s H locs → W p l e rm_X11_doubts s m args below meth c H locs 0 0 (aw_Ei D cA base ad σ below args s z) (F0 m 79 ls [])) {H : Heap} {locs : List Loc} {ls : Array Slot} (hl : lv_has ls 5 [(0, .ref (ad x0)), (2, .int x2), (3, .int x3), (4, .int x4)]) (G : aw_G D cA base ad σ d s H locs) : W p l e rm_X11_doubts s m args below meth c H locs 0 0 (aw_Ei D cA base ad σ below args s z) (F0 m 49 ls []) := by
  have hx := X.1; have hb := X.2.1; have hml := X.2.2.1; have hown := X.2.2.2.1
  unfold f_X11_doubts_B49 at hf
  refine lv_iload hx hb dX11_doubts_49 (lv_at hl 3 rfl) ?_
  refine lv_iload_n hx hb dX11_doubts_51 rfl (lv_at hl 2 rfl) ?_
  refine lv_icmp_ge (tgt := 79) hx hb dX11_doubts_52 (by decide) (fun hc => ?_) (fun hc => ?_)
  · have hf := aw_ite_t hc hf
    exact hk49 _ _ hf _ _ _ (lv_sub hl [0, 1, 2] rfl) G
  · have hf := aw_ite_f hc hf
    refine lv_iload_n hx hb dX11_doubts_55 rfl (lv_at hl 1 rfl) ?_
    refine lv_aload_n hx hb dX11_doubts_56 rfl (lv_at hl 0 rfl) ?_
    refine lv_iload_n hx hb dX11_doubts_57 rfl (lv_at hl 2 rfl) ?_
    refine lv_iload hx hb dX11_doubts_58 (lv_at hl 3 rfl) ?_
    obtain ⟨hc_16, hf⟩ := aw_chk_some hf
    obtain ⟨z_14, hz_15, hf⟩ := aw_bind_some hf
    refine aw_VI (As := [.int x3, .int x4]) (rest := [.int x2]) X G hl.1 cr_X11_160 (c_X11_areAlike l hz_15) ⟨rfl, rfl⟩ rfl rfl rfl (by decide) hc_16 rfl ⟨Nat.le_of_ble_eq_true rfl, Nat.le_of_ble_eq_true rfl⟩ (Nat.le_of_ble_eq_true rfl) dX11_doubts_60 ⟨Nat.zero_le _, Nat.zero_le _⟩ (fun H locs G => ?_)
    refine lv_if_eq (tgt := 70) hx hb dX11_doubts_63 (by decide) (fun hc => ?_) (fun hc => ?_)
    · have hf := aw_ite_t hc hf
      refine lv_iconst (v := (0 : Int32)) hx hb dX11_doubts_70 (by decide) ?_
      exact w_X11_doubts_J71 X hf hkb49 (lv_sub hl [0, 2, 3] rfl) G
    · have hf := aw_ite_f hc hf
      refine lv_iconst (v := (1 : Int32)) hx hb dX11_doubts_66 (by decide) ?_
      refine lv_goto (tgt := 71) hx hb dX11_doubts_67 (by decide) ?_
      exact w_X11_doubts_J71 X hf hkb49 (lv_sub hl [0, 2, 3] rfl) G
theorem w_X11_doubts_L49 {z : Int32 × Dt} (X : aw_X p c cX11_doubts 5 s RX11 m meth (some .int)) {k49 : Int32 → Dt → Option (Int32 × Dt)} {x0 : Nat} {x3 : Int32} (n : Nat) {x2 : Int32} {x4 : Int32} {d : Dt} (hf : f_X11_doubts_L49 σ n k49 x0 x3 x2 x4 d = some z) (hk49 : ∀ (y2 : Int32) (d : Dt), k49 y2 d = some z → ∀ (H : Heap) (locs : List Loc) (ls : Array Slot), lv_has ls 5 [(0, .ref (ad x0)), (2, .int y2), (3, .int x3)] → aw_G D cA base ad σ d s H locs → W p l e rm_X11_doubts s m args below meth c H locs 0 0 (aw_Ei D cA base ad σ below args s z) (F0 m 79 ls [])) {H : Heap} {locs : List Loc} {ls : Array Slot} (hl : lv_has ls 5 [(0, .ref (ad x0)), (2, .int x2), (3, .int x3), (4, .int x4)]) (G : aw_G D cA base ad σ d s H locs) : W p l e rm_X11_doubts s m args below meth c H locs 0 0 (aw_Ei D cA base ad σ below args s z) (F0 m 49 ls []) := by
  induction n generalizing x2 x4 d H locs ls with
  | zero => exact absurd (show (none : Option (Int32 × Dt)) = some z from hf) (by simp)
  | succ n ih => exact w_X11_doubts_B49 X (kb49 := f_X11_doubts_L49 σ n k49 x0 x3) hf  (fun x2 x4 d hf H locs ls hl G => ih hf hl G) hk49 hl G
set_option maxHeartbeats 4000000 in
set_option maxRecDepth 100000 in
theorem w_X11_doubts_B38 {z : Int32 × Dt} (X : aw_X p c cX11_doubts 5 s RX11 m meth (some .int)) {kb38 : Int32 → Int32 → Dt → Option (Int32 × Dt)} {k38 : Int32 → Dt → Option (Int32 × Dt)} {x0 : Nat} {x2 : Int32} {x3 : Int32} {d : Dt} (hf : f_X11_doubts_B38 σ kb38 k38 x0 x2 x3 d = some z) (hkb38 : ∀ (y2 : Int32) (y3 : Int32) (d : Dt), kb38 y2 y3 d = some z → ∀ (H : Heap) (locs : List Loc) (ls : Array Slot), lv_has ls 5 [(0, .ref (ad x0)), (2, .int y2), (3, .int y3)] → aw_G D cA base ad σ d s H locs → W p l e rm_X11_doubts s m args below meth c H locs 0 0 (aw_Ei D cA base ad σ below args s z) (F0 m 38 ls [])) (hk38 : ∀ (y2 : Int32) (d : Dt), k38 y2 d = some z → ∀ (H : Heap) (locs : List Loc) (ls : Array Slot), lv_has ls 5 [(2, .int y2)] → aw_G D cA base ad σ d s H locs → W p l e rm_X11_doubts s m args below meth c H locs 0 0 (aw_Ei D cA base ad σ below args s z) (F0 m 85 ls [])) {H : Heap} {locs : List Loc} {ls : Array Slot} (hl : lv_has ls 5 [(0, .ref (ad x0)), (2, .int x2), (3, .int x3)]) (G : aw_G D cA base ad σ d s H locs) : W p l e rm_X11_doubts s m args below meth c H locs 0 0 (aw_Ei D cA base ad σ below args s z) (F0 m 38 ls []) := by
  have hx := X.1; have hb := X.2.1; have hml := X.2.2.1; have hown := X.2.2.2.1
  unfold f_X11_doubts_B38 at hf
  refine lv_iload_n hx hb dX11_doubts_38 rfl (lv_at hl 2 rfl) ?_
  refine lv_aload_n hx hb dX11_doubts_39 rfl (lv_at hl 0 rfl) ?_
  obtain ⟨hc_13, hf⟩ := aw_chk_some hf
  refine gf_X11_100 hx hb G hown hc_13 dX11_doubts_40 ?_
  refine lv_icmp_ge (tgt := 85) hx hb dX11_doubts_43 (by decide) (fun hc => ?_) (fun hc => ?_)
  · have hf := aw_ite_t hc hf
    exact hk38 _ _ hf _ _ _ (lv_sub hl [1] rfl) G
  · have hf := aw_ite_f hc hf
    refine lv_iconst (v := (0 : Int32)) hx hb dX11_doubts_46 (by decide) ?_
    refine lv_istore (lv' := [(4, .int ((0 : Int32))), (0, .ref (ad x0)), (2, .int x2), (3, .int x3)]) hx hb dX11_doubts_47 hl (by decide) rfl (fun ls hl => ?_)
    refine w_X11_doubts_L49 X aw_FU hf  (fun x2_17 d_18 hf H locs ls hl G => ?_) (lv_sub hl [1, 2, 3, 0] rfl) G
    refine lv_iinc (v := x3 + 1) (lv' := [(3, .int (x3 + 1)), (0, .ref (ad x0)), (2, .int x2_17)]) hx hb dX11_doubts_79 hl (k := 2) rfl rfl (by decide) rfl (fun ls hl => ?_)
    refine lv_goto (tgt := 38) hx hb dX11_doubts_82 (by decide) ?_
    exact hkb38 _ _ _ hf _ _ _ (lv_sub hl [1, 2, 0] rfl) G
theorem w_X11_doubts_L38 {z : Int32 × Dt} (X : aw_X p c cX11_doubts 5 s RX11 m meth (some .int)) {k38 : Int32 → Dt → Option (Int32 × Dt)} {x0 : Nat} (n : Nat) {x2 : Int32} {x3 : Int32} {d : Dt} (hf : f_X11_doubts_L38 σ n k38 x0 x2 x3 d = some z) (hk38 : ∀ (y2 : Int32) (d : Dt), k38 y2 d = some z → ∀ (H : Heap) (locs : List Loc) (ls : Array Slot), lv_has ls 5 [(2, .int y2)] → aw_G D cA base ad σ d s H locs → W p l e rm_X11_doubts s m args below meth c H locs 0 0 (aw_Ei D cA base ad σ below args s z) (F0 m 85 ls [])) {H : Heap} {locs : List Loc} {ls : Array Slot} (hl : lv_has ls 5 [(0, .ref (ad x0)), (2, .int x2), (3, .int x3)]) (G : aw_G D cA base ad σ d s H locs) : W p l e rm_X11_doubts s m args below meth c H locs 0 0 (aw_Ei D cA base ad σ below args s z) (F0 m 38 ls []) := by
  induction n generalizing x2 x3 d H locs ls with
  | zero => exact absurd (show (none : Option (Int32 × Dt)) = some z from hf) (by simp)
  | succ n ih => exact w_X11_doubts_B38 X (kb38 := f_X11_doubts_L38 σ n k38 x0) hf  (fun x2 x3 d hf H locs ls hl G => ih hf hl G) hk38 hl G
set_option maxHeartbeats 4000000 in
set_option maxRecDepth 100000 in
theorem w_X11_doubts_J14 {z : Int32 × Dt} (X : aw_X p c cX11_doubts 5 s RX11 m meth (some .int)) {t1 : Int32} {t0 : Nat} {x0 : Nat} {x1 : Int32} {d : Dt} (hf : f_X11_doubts_J14 σ t1 t0 x0 x1 d = some z)  {H : Heap} {locs : List Loc} {ls : Array Slot} (hl : lv_has ls 5 [(0, .ref (ad x0)), (1, .int x1)]) (G : aw_G D cA base ad σ d s H locs) : W p l e rm_X11_doubts s m args below meth c H locs 0 0 (aw_Ei D cA base ad σ below args s z) (F0 m 14 ls [.int t1, .ref (ad t0)]) := by
  have hx := X.1; have hb := X.2.1; have hml := X.2.2.1; have hown := X.2.2.2.1
  unfold f_X11_doubts_J14 at hf
  obtain ⟨hc_6, hf⟩ := aw_chk_some hf
  obtain ⟨z_4, hz_5, hf⟩ := aw_bind_some hf
  refine aw_VI (As := [.int t1]) (rest := []) X G hl.1 cr_X11_113 (c_X11_fails l hz_5) ⟨rfl, rfl⟩ rfl rfl rfl (by decide) hc_6 rfl ⟨Nat.le_of_ble_eq_true rfl, Nat.le_of_ble_eq_true rfl⟩ (Nat.le_of_ble_eq_true rfl) dX11_doubts_14 ⟨Nat.zero_le _, Nat.zero_le _⟩ (fun H locs G => ?_)
  refine lv_if_eq (tgt := 22) hx hb dX11_doubts_17 (by decide) (fun hc => ?_) (fun hc => ?_)
  · have hf := aw_ite_t hc hf
    refine lv_aload_n hx hb dX11_doubts_22 rfl (lv_at hl 0 rfl) ?_
    refine lv_iload_n hx hb dX11_doubts_23 rfl (lv_at hl 1 rfl) ?_
    refine lv_aload_n hx hb dX11_doubts_24 rfl (lv_at hl 0 rfl) ?_
    obtain ⟨hc_7, hf⟩ := aw_chk_some hf
    obtain ⟨q_8, hq_9, hf⟩ := aw_bind_some hf
    refine gf_X11_41 hx hb G hown hc_7 hq_9 dX11_doubts_25 ?_
    refine lv_iload_n hx hb dX11_doubts_28 rfl (lv_at hl 1 rfl) ?_
    obtain ⟨hc_10, hf⟩ := aw_chk_some hf
    refine aw_ial hx hb G hc_10 dX11_doubts_29 ?_
    refine lv_iconst (v := (0 : Int32)) hx hb dX11_doubts_30 (by decide) ?_
    obtain ⟨z_11, hz_12, hf⟩ := aw_bind_some hf
    refine aw_VV (As := [.int x1, .int (z_4.2.1 q_8 x1.toNatClampNeg), .int ((0 : Int32))]) (rest := []) X G hl.1 cr_X11_156 (c_X11_spellsAll l hz_12) ⟨rfl, rfl⟩ rfl rfl rfl (by decide) hc_7 rfl ⟨Nat.le_of_ble_eq_true rfl, Nat.le_of_ble_eq_true rfl⟩ (Nat.le_of_ble_eq_true rfl) dX11_doubts_31 ⟨Nat.zero_le _, Nat.zero_le _⟩ (fun H locs G => ?_)
    refine lv_iconst (v := (0 : Int32)) hx hb dX11_doubts_34 (by decide) ?_
    refine lv_istore_n (lv' := [(2, .int ((0 : Int32))), (0, .ref (ad x0)), (1, .int x1)]) hx hb dX11_doubts_35 rfl hl (by decide) rfl (fun ls hl => ?_)
    refine lv_iconst (v := (0 : Int32)) hx hb dX11_doubts_36 (by decide) ?_
    refine lv_istore_n (lv' := [(3, .int ((0 : Int32))), (2, .int ((0 : Int32))), (0, .ref (ad x0)), (1, .int x1)]) hx hb dX11_doubts_37 rfl hl (by decide) rfl (fun ls hl => ?_)
    refine w_X11_doubts_L38 X aw_FU hf  (fun x2_19 d_20 hf H locs ls hl G => ?_) (lv_sub hl [2, 1, 0] rfl) G
    refine lv_iload_n hx hb dX11_doubts_85 rfl (lv_at hl 0 rfl) ?_
    exact aw_reti X G hf dX11_doubts_86
  · have hf := aw_ite_f hc hf
    refine lv_iconst (v := (0 : Int32)) hx hb dX11_doubts_20 (by decide) ?_
    exact aw_reti X G hf dX11_doubts_21
end W_X11_doubts
set_option maxHeartbeats 4000000 in
set_option maxRecDepth 100000 in
theorem c_X11_doubts (l : Launch) {σ : Sg} {x0 : Nat} {x1 : Int32} {d : Dt} {z : Int32 × Dt} (hf : f_X11_doubts σ x0 x1 d = some z) : aw_Mi l yX11_doubts (Cond.code yX11_doubts cX11_doubts 5 (some .int)) rm_X11_doubts (fun ad => [.ref (ad x0), .int x1]) σ d z := by
  intro D cA base ad
  refine aw_ofW (own := RX11) (cc := cX11_doubts) (nL := 5) (ret := some .int) (by decide) rfl rfl ?_
  intro p e s m below meth c X hnm G
  have hx := X.1; have hb := X.2.1; have hml := X.2.2.1; have hown := X.2.2.2.1
  refine aw_ls (lv := [(0, .ref (ad x0)), (1, .int x1)]) (Nat.le_of_ble_eq_true rfl) rfl (fun ls hl => ?_)
  unfold f_X11_doubts at hf
  refine lv_aload_n hx hb dX11_doubts_0 rfl (lv_at hl 0 rfl) ?_
  refine lv_aload_n hx hb dX11_doubts_1 rfl (lv_at hl 0 rfl) ?_
  refine lv_iload_n hx hb dX11_doubts_2 rfl (lv_at hl 1 rfl) ?_
  obtain ⟨hc_3, hf⟩ := aw_chk_some hf
  obtain ⟨z_1, hz_2, hf⟩ := aw_bind_some hf
  refine aw_VI (As := [.int x1]) (rest := [.ref (ad x0)]) X G hl.1 cr_X11_146 (c_X11_isDesign l hz_2) ⟨rfl, rfl⟩ rfl rfl rfl (by decide) hc_3 rfl ⟨Nat.le_of_ble_eq_true rfl, Nat.le_of_ble_eq_true rfl⟩ (Nat.le_of_ble_eq_true rfl) dX11_doubts_3 ⟨Nat.zero_le _, Nat.zero_le _⟩ (fun H locs G => ?_)
  refine lv_if_eq (tgt := 13) hx hb dX11_doubts_6 (by decide) (fun hc => ?_) (fun hc => ?_)
  · have hf := aw_ite_t hc hf
    refine lv_iconst (v := (1 : Int32)) hx hb dX11_doubts_13 (by decide) ?_
    exact w_X11_doubts_J14 X hf  (lv_sub hl [0, 1] rfl) G
  · have hf := aw_ite_f hc hf
    refine lv_iconst (v := (0 : Int32)) hx hb dX11_doubts_9 (by decide) ?_
    refine lv_goto (tgt := 14) hx hb dX11_doubts_10 (by decide) ?_
    exact w_X11_doubts_J14 X hf  (lv_sub hl [0, 1] rfl) G
def rm_X11_loadOf : Room := { frames := 4, cells := 0, slots := 0, locals := 100 }
def f_X11_loadOf_J103 (σ : Sg) (kb30 : Int32 → Int32 → Dt → Option (Int32 × Dt)) (t0 : Int32) (x0 : Nat) (x2 : Int32) (x3 : Int32) (x5 : Int32) (d : Dt) : Option (Int32 × Dt) :=
  kb30 t0 (x5 + 1) d
def f_X11_loadOf_J102 (σ : Sg) (kb30 : Int32 → Int32 → Dt → Option (Int32 × Dt)) (x0 : Nat) (x2 : Int32) (x3 : Int32) (x5 : Int32) (d : Dt) : Option (Int32 × Dt) :=
  f_X11_loadOf_J103 σ kb30 ((0 : Int32)) x0 x2 x3 x5 d
def f_X11_loadOf_J98 (σ : Sg) (kb30 : Int32 → Int32 → Dt → Option (Int32 × Dt)) (x0 : Nat) (x2 : Int32) (x3 : Int32) (x5 : Int32) (d : Dt) : Option (Int32 × Dt) :=
  f_X11_loadOf_J103 σ kb30 ((1 : Int32)) x0 x2 x3 x5 d
def f_X11_loadOf_B30 (σ : Sg) (kb30 : Int32 → Int32 → Dt → Option (Int32 × Dt)) (k30 : Int32 → Dt → Option (Int32 × Dt)) (x0 : Nat) (x2 : Int32) (x3 : Int32) (x4 : Int32) (x5 : Int32) (d : Dt) : Option (Int32 × Dt) :=
  aw_chk (aw_O σ 11 32 x0) (if (d.1 x0 2) ≤ x5 then k30 x4 d else if x4 = 0 then f_X11_loadOf_J102 σ kb30 x0 x2 x3 x5 d else if x5 = x3 then f_X11_loadOf_J98 σ kb30 x0 x2 x3 x5 d else (f_X11_areAlike σ x0 x3 x5 d).bind (fun z_9 => if z_9.1 = 0 then f_X11_loadOf_J98 σ kb30 x0 x2 x3 x5 z_9.2 else (σ.2.2 x0 5).bind (fun q_11 => aw_chk (aw_I σ 20 q_11 x5) (aw_chk (aw_I σ 20 q_11 x3) (if (z_9.2.1 q_11 x3.toNatClampNeg) < (z_9.2.1 q_11 x5.toNatClampNeg) then f_X11_loadOf_J102 σ kb30 x0 x2 x3 x5 z_9.2 else if (z_9.2.1 q_11 x5.toNatClampNeg) = (z_9.2.1 q_11 x3.toNatClampNeg) then if x5 < x3 then f_X11_loadOf_J102 σ kb30 x0 x2 x3 x5 z_9.2 else f_X11_loadOf_J98 σ kb30 x0 x2 x3 x5 z_9.2 else f_X11_loadOf_J98 σ kb30 x0 x2 x3 x5 z_9.2)))))
def f_X11_loadOf_L30 (σ : Sg) (n : Nat) (k30 : Int32 → Dt → Option (Int32 × Dt)) (x0 : Nat) (x2 : Int32) (x3 : Int32) : Int32 → Int32 → Dt → Option (Int32 × Dt) := match n with
  | 0 => fun _ _ _ => none
  | n + 1 => fun x4 x5 d => f_X11_loadOf_B30 σ (f_X11_loadOf_L30 σ n k30 x0 x2 x3) k30 x0 x2 x3 x4 x5 d
def f_X11_loadOf_J127 (σ : Sg) (kb16 : Int32 → Int32 → Dt → Option (Int32 × Dt)) (t1 : Int32) (t0 : Int32) (x0 : Nat) (x3 : Int32) (d : Dt) : Option (Int32 × Dt) :=
  kb16 (t0 + t1) (x3 + 1) d
def f_X11_loadOf_B16 (σ : Sg) (kb16 : Int32 → Int32 → Dt → Option (Int32 × Dt)) (k16 : Int32 → Dt → Option (Int32 × Dt)) (x0 : Nat) (x2 : Int32) (x3 : Int32) (d : Dt) : Option (Int32 × Dt) :=
  aw_chk (aw_O σ 11 32 x0) (if (d.1 x0 2) ≤ x3 then k16 x2 d else f_X11_loadOf_L30 σ aw_FU (fun x4_15 d_16 => if x4_15 = 0 then (σ.2.2 x0 5).bind (fun q_17 => aw_chk (aw_I σ 20 q_17 x3) (f_X11_loadOf_J127 σ kb16 (d_16.1 q_17 x3.toNatClampNeg) x2 x0 x3 d_16)) else f_X11_loadOf_J127 σ kb16 ((0 : Int32)) x2 x0 x3 d_16) x0 x2 x3 ((1 : Int32)) ((0 : Int32)) d)
def f_X11_loadOf_L16 (σ : Sg) (n : Nat) (k16 : Int32 → Dt → Option (Int32 × Dt)) (x0 : Nat) : Int32 → Int32 → Dt → Option (Int32 × Dt) := match n with
  | 0 => fun _ _ _ => none
  | n + 1 => fun x2 x3 d => f_X11_loadOf_B16 σ (f_X11_loadOf_L16 σ n k16 x0) k16 x0 x2 x3 d
def f_X11_loadOf (σ : Sg) (x0 : Nat) (x1 : Int32) (d : Dt) : Option (Int32 × Dt) :=
  aw_chk (aw_O σ 11 32 x0) ((σ.2.2 x0 13).bind (fun q_2 => aw_chk (aw_I σ 20 q_2 x1) ((f_X11_spellsAll σ x0 x1 (d.1 q_2 x1.toNatClampNeg) ((0 : Int32)) d).bind (fun z_5 => f_X11_loadOf_L16 σ aw_FU (fun x2_20 d_21 => some (x2_20, d_21)) x0 ((0 : Int32)) ((0 : Int32)) z_5.2))))
section W_X11_loadOf
variable {p : Program} {l : Launch} {e : Env} {s : State} {m : MethodId} {args : Array Value} {below : List Frame} {meth : Method} {c : Code}
variable {D : va_G} {cA : Nat → ClassId} {base : Nat} {ad : Nat → Nat} {σ : Sg}
set_option maxHeartbeats 4000000 in
set_option maxRecDepth 100000 in
theorem w_X11_loadOf_J103 {z : Int32 × Dt} (X : aw_X p c cX11_loadOf 6 s RX11 m meth (some .int)) {kb30 : Int32 → Int32 → Dt → Option (Int32 × Dt)} {t0 : Int32} {x0 : Nat} {x2 : Int32} {x3 : Int32} {x5 : Int32} {d : Dt} (hf : f_X11_loadOf_J103 σ kb30 t0 x0 x2 x3 x5 d = some z) (hkb30 : ∀ (y4 : Int32) (y5 : Int32) (d : Dt), kb30 y4 y5 d = some z → ∀ (H : Heap) (locs : List Loc) (ls : Array Slot), lv_has ls 6 [(0, .ref (ad x0)), (2, .int x2), (3, .int x3), (4, .int y4), (5, .int y5)] → aw_G D cA base ad σ d s H locs → W p l e rm_X11_loadOf s m args below meth c H locs 0 0 (aw_Ei D cA base ad σ below args s z) (F0 m 30 ls [])) {H : Heap} {locs : List Loc} {ls : Array Slot} (hl : lv_has ls 6 [(0, .ref (ad x0)), (2, .int x2), (3, .int x3), (5, .int x5)]) (G : aw_G D cA base ad σ d s H locs) : W p l e rm_X11_loadOf s m args below meth c H locs 0 0 (aw_Ei D cA base ad σ below args s z) (F0 m 103 ls [.int t0]) := by
  have hx := X.1; have hb := X.2.1; have hml := X.2.2.1; have hown := X.2.2.2.1
  unfold f_X11_loadOf_J103 at hf
  refine lv_istore (lv' := [(4, .int t0), (0, .ref (ad x0)), (2, .int x2), (3, .int x3), (5, .int x5)]) hx hb dX11_loadOf_103 hl (by decide) rfl (fun ls hl => ?_)
  refine lv_iinc (v := x5 + 1) (lv' := [(5, .int (x5 + 1)), (4, .int t0), (0, .ref (ad x0)), (2, .int x2), (3, .int x3)]) hx hb dX11_loadOf_105 hl (k := 4) rfl rfl (by decide) rfl (fun ls hl => ?_)
  refine lv_goto (tgt := 30) hx hb dX11_loadOf_108 (by decide) ?_
  exact hkb30 _ _ _ hf _ _ _ (lv_sub hl [2, 3, 4, 1, 0] rfl) G
set_option maxHeartbeats 4000000 in
set_option maxRecDepth 100000 in
theorem w_X11_loadOf_J102 {z : Int32 × Dt} (X : aw_X p c cX11_loadOf 6 s RX11 m meth (some .int)) {kb30 : Int32 → Int32 → Dt → Option (Int32 × Dt)} {x0 : Nat} {x2 : Int32} {x3 : Int32} {x5 : Int32} {d : Dt} (hf : f_X11_loadOf_J102 σ kb30 x0 x2 x3 x5 d = some z) (hkb30 : ∀ (y4 : Int32) (y5 : Int32) (d : Dt), kb30 y4 y5 d = some z → ∀ (H : Heap) (locs : List Loc) (ls : Array Slot), lv_has ls 6 [(0, .ref (ad x0)), (2, .int x2), (3, .int x3), (4, .int y4), (5, .int y5)] → aw_G D cA base ad σ d s H locs → W p l e rm_X11_loadOf s m args below meth c H locs 0 0 (aw_Ei D cA base ad σ below args s z) (F0 m 30 ls [])) {H : Heap} {locs : List Loc} {ls : Array Slot} (hl : lv_has ls 6 [(0, .ref (ad x0)), (2, .int x2), (3, .int x3), (5, .int x5)]) (G : aw_G D cA base ad σ d s H locs) : W p l e rm_X11_loadOf s m args below meth c H locs 0 0 (aw_Ei D cA base ad σ below args s z) (F0 m 102 ls []) := by
  have hx := X.1; have hb := X.2.1; have hml := X.2.2.1; have hown := X.2.2.2.1
  unfold f_X11_loadOf_J102 at hf
  refine lv_iconst (v := (0 : Int32)) hx hb dX11_loadOf_102 (by decide) ?_
  exact w_X11_loadOf_J103 X hf hkb30 (lv_sub hl [0, 1, 2, 3] rfl) G
set_option maxHeartbeats 4000000 in
set_option maxRecDepth 100000 in
theorem w_X11_loadOf_J98 {z : Int32 × Dt} (X : aw_X p c cX11_loadOf 6 s RX11 m meth (some .int)) {kb30 : Int32 → Int32 → Dt → Option (Int32 × Dt)} {x0 : Nat} {x2 : Int32} {x3 : Int32} {x5 : Int32} {d : Dt} (hf : f_X11_loadOf_J98 σ kb30 x0 x2 x3 x5 d = some z) (hkb30 : ∀ (y4 : Int32) (y5 : Int32) (d : Dt), kb30 y4 y5 d = some z → ∀ (H : Heap) (locs : List Loc) (ls : Array Slot), lv_has ls 6 [(0, .ref (ad x0)), (2, .int x2), (3, .int x3), (4, .int y4), (5, .int y5)] → aw_G D cA base ad σ d s H locs → W p l e rm_X11_loadOf s m args below meth c H locs 0 0 (aw_Ei D cA base ad σ below args s z) (F0 m 30 ls [])) {H : Heap} {locs : List Loc} {ls : Array Slot} (hl : lv_has ls 6 [(0, .ref (ad x0)), (2, .int x2), (3, .int x3), (5, .int x5)]) (G : aw_G D cA base ad σ d s H locs) : W p l e rm_X11_loadOf s m args below meth c H locs 0 0 (aw_Ei D cA base ad σ below args s z) (F0 m 98 ls []) := by
  have hx := X.1; have hb := X.2.1; have hml := X.2.2.1; have hown := X.2.2.2.1
  unfold f_X11_loadOf_J98 at hf
  refine lv_iconst (v := (1 : Int32)) hx hb dX11_loadOf_98 (by decide) ?_
  refine lv_goto (tgt := 103) hx hb dX11_loadOf_99 (by decide) ?_
  exact w_X11_loadOf_J103 X hf hkb30 (lv_sub hl [0, 1, 2, 3] rfl) G
set_option maxHeartbeats 4000000 in
set_option maxRecDepth 100000 in
theorem w_X11_loadOf_B30 {z : Int32 × Dt} (X : aw_X p c cX11_loadOf 6 s RX11 m meth (some .int)) {kb30 : Int32 → Int32 → Dt → Option (Int32 × Dt)} {k30 : Int32 → Dt → Option (Int32 × Dt)} {x0 : Nat} {x2 : Int32} {x3 : Int32} {x4 : Int32} {x5 : Int32} {d : Dt} (hf : f_X11_loadOf_B30 σ kb30 k30 x0 x2 x3 x4 x5 d = some z) (hkb30 : ∀ (y4 : Int32) (y5 : Int32) (d : Dt), kb30 y4 y5 d = some z → ∀ (H : Heap) (locs : List Loc) (ls : Array Slot), lv_has ls 6 [(0, .ref (ad x0)), (2, .int x2), (3, .int x3), (4, .int y4), (5, .int y5)] → aw_G D cA base ad σ d s H locs → W p l e rm_X11_loadOf s m args below meth c H locs 0 0 (aw_Ei D cA base ad σ below args s z) (F0 m 30 ls [])) (hk30 : ∀ (y4 : Int32) (d : Dt), k30 y4 d = some z → ∀ (H : Heap) (locs : List Loc) (ls : Array Slot), lv_has ls 6 [(0, .ref (ad x0)), (2, .int x2), (3, .int x3), (4, .int y4)] → aw_G D cA base ad σ d s H locs → W p l e rm_X11_loadOf s m args below meth c H locs 0 0 (aw_Ei D cA base ad σ below args s z) (F0 m 111 ls [])) {H : Heap} {locs : List Loc} {ls : Array Slot} (hl : lv_has ls 6 [(0, .ref (ad x0)), (2, .int x2), (3, .int x3), (4, .int x4), (5, .int x5)]) (G : aw_G D cA base ad σ d s H locs) : W p l e rm_X11_loadOf s m args below meth c H locs 0 0 (aw_Ei D cA base ad σ below args s z) (F0 m 30 ls []) := by
  have hx := X.1; have hb := X.2.1; have hml := X.2.2.1; have hown := X.2.2.2.1
  unfold f_X11_loadOf_B30 at hf
  refine lv_iload hx hb dX11_loadOf_30 (lv_at hl 4 rfl) ?_
  refine lv_aload_n hx hb dX11_loadOf_32 rfl (lv_at hl 0 rfl) ?_
  obtain ⟨hc_8, hf⟩ := aw_chk_some hf
  refine gf_X11_100 hx hb G hown hc_8 dX11_loadOf_33 ?_
  refine lv_icmp_ge (tgt := 111) hx hb dX11_loadOf_36 (by decide) (fun hc => ?_) (fun hc => ?_)
  · have hf := aw_ite_t hc hf
    exact hk30 _ _ hf _ _ _ (lv_sub hl [0, 1, 2, 3] rfl) G
  · have hf := aw_ite_f hc hf
    refine lv_iload hx hb dX11_loadOf_39 (lv_at hl 3 rfl) ?_
    refine lv_if_eq (tgt := 102) hx hb dX11_loadOf_41 (by decide) (fun hc => ?_) (fun hc => ?_)
    · have hf := aw_ite_t hc hf
      exact w_X11_loadOf_J102 X hf hkb30 (lv_sub hl [0, 1, 2, 4] rfl) G
    · have hf := aw_ite_f hc hf
      refine lv_iload hx hb dX11_loadOf_44 (lv_at hl 4 rfl) ?_
      refine lv_iload_n hx hb dX11_loadOf_46 rfl (lv_at hl 2 rfl) ?_
      refine lv_icmp_eq (tgt := 98) hx hb dX11_loadOf_47 (by decide) (fun hc => ?_) (fun hc => ?_)
      · have hf := aw_ite_t hc hf
        exact w_X11_loadOf_J98 X hf hkb30 (lv_sub hl [0, 1, 2, 4] rfl) G
      · have hf := aw_ite_f hc hf
        refine lv_aload_n hx hb dX11_loadOf_50 rfl (lv_at hl 0 rfl) ?_
        refine lv_iload_n hx hb dX11_loadOf_51 rfl (lv_at hl 2 rfl) ?_
        refine lv_iload hx hb dX11_loadOf_52 (lv_at hl 4 rfl) ?_
        obtain ⟨z_9, hz_10, hf⟩ := aw_bind_some hf
        refine aw_VI (As := [.int x3, .int x5]) (rest := []) X G hl.1 cr_X11_160 (c_X11_areAlike l hz_10) ⟨rfl, rfl⟩ rfl rfl rfl (by decide) hc_8 rfl ⟨Nat.le_of_ble_eq_true rfl, Nat.le_of_ble_eq_true rfl⟩ (Nat.le_of_ble_eq_true rfl) dX11_loadOf_54 ⟨Nat.zero_le _, Nat.zero_le _⟩ (fun H locs G => ?_)
        refine lv_if_eq (tgt := 98) hx hb dX11_loadOf_57 (by decide) (fun hc => ?_) (fun hc => ?_)
        · have hf := aw_ite_t hc hf
          exact w_X11_loadOf_J98 X hf hkb30 (lv_sub hl [0, 1, 2, 4] rfl) G
        · have hf := aw_ite_f hc hf
          refine lv_aload_n hx hb dX11_loadOf_60 rfl (lv_at hl 0 rfl) ?_
          obtain ⟨q_11, hq_12, hf⟩ := aw_bind_some hf
          refine gf_X11_19 hx hb G hown hc_8 hq_12 dX11_loadOf_61 ?_
          refine lv_iload hx hb dX11_loadOf_64 (lv_at hl 4 rfl) ?_
          obtain ⟨hc_13, hf⟩ := aw_chk_some hf
          refine aw_ial hx hb G hc_13 dX11_loadOf_66 ?_
          refine lv_aload_n hx hb dX11_loadOf_67 rfl (lv_at hl 0 rfl) ?_
          refine gf_X11_19 hx hb G hown hc_8 hq_12 dX11_loadOf_68 ?_
          refine lv_iload_n hx hb dX11_loadOf_71 rfl (lv_at hl 2 rfl) ?_
          obtain ⟨hc_14, hf⟩ := aw_chk_some hf
          refine aw_ial hx hb G hc_14 dX11_loadOf_72 ?_
          refine lv_icmp_gt (tgt := 102) hx hb dX11_loadOf_73 (by decide) (fun hc => ?_) (fun hc => ?_)
          · have hf := aw_ite_t hc hf
            exact w_X11_loadOf_J102 X hf hkb30 (lv_sub hl [0, 1, 2, 4] rfl) G
          · have hf := aw_ite_f hc hf
            refine lv_aload_n hx hb dX11_loadOf_76 rfl (lv_at hl 0 rfl) ?_
            refine gf_X11_19 hx hb G hown hc_8 hq_12 dX11_loadOf_77 ?_
            refine lv_iload hx hb dX11_loadOf_80 (lv_at hl 4 rfl) ?_
            refine aw_ial hx hb G hc_13 dX11_loadOf_82 ?_
            refine lv_aload_n hx hb dX11_loadOf_83 rfl (lv_at hl 0 rfl) ?_
            refine gf_X11_19 hx hb G hown hc_8 hq_12 dX11_loadOf_84 ?_
            refine lv_iload_n hx hb dX11_loadOf_87 rfl (lv_at hl 2 rfl) ?_
            refine aw_ial hx hb G hc_14 dX11_loadOf_88 ?_
            refine lv_icmp_ne (tgt := 98) hx hb dX11_loadOf_89 (by decide) (fun hc => ?_) (fun hc => ?_)
            · have hf := aw_ite_f hc hf
              exact w_X11_loadOf_J98 X hf hkb30 (lv_sub hl [0, 1, 2, 4] rfl) G
            · have hf := aw_ite_t hc hf
              refine lv_iload hx hb dX11_loadOf_92 (lv_at hl 4 rfl) ?_
              refine lv_iload_n hx hb dX11_loadOf_94 rfl (lv_at hl 2 rfl) ?_
              refine lv_icmp_lt (tgt := 102) hx hb dX11_loadOf_95 (by decide) (fun hc => ?_) (fun hc => ?_)
              · have hf := aw_ite_t hc hf
                exact w_X11_loadOf_J102 X hf hkb30 (lv_sub hl [0, 1, 2, 4] rfl) G
              · have hf := aw_ite_f hc hf
                exact w_X11_loadOf_J98 X hf hkb30 (lv_sub hl [0, 1, 2, 4] rfl) G
theorem w_X11_loadOf_L30 {z : Int32 × Dt} (X : aw_X p c cX11_loadOf 6 s RX11 m meth (some .int)) {k30 : Int32 → Dt → Option (Int32 × Dt)} {x0 : Nat} {x2 : Int32} {x3 : Int32} (n : Nat) {x4 : Int32} {x5 : Int32} {d : Dt} (hf : f_X11_loadOf_L30 σ n k30 x0 x2 x3 x4 x5 d = some z) (hk30 : ∀ (y4 : Int32) (d : Dt), k30 y4 d = some z → ∀ (H : Heap) (locs : List Loc) (ls : Array Slot), lv_has ls 6 [(0, .ref (ad x0)), (2, .int x2), (3, .int x3), (4, .int y4)] → aw_G D cA base ad σ d s H locs → W p l e rm_X11_loadOf s m args below meth c H locs 0 0 (aw_Ei D cA base ad σ below args s z) (F0 m 111 ls [])) {H : Heap} {locs : List Loc} {ls : Array Slot} (hl : lv_has ls 6 [(0, .ref (ad x0)), (2, .int x2), (3, .int x3), (4, .int x4), (5, .int x5)]) (G : aw_G D cA base ad σ d s H locs) : W p l e rm_X11_loadOf s m args below meth c H locs 0 0 (aw_Ei D cA base ad σ below args s z) (F0 m 30 ls []) := by
  induction n generalizing x4 x5 d H locs ls with
  | zero => exact absurd (show (none : Option (Int32 × Dt)) = some z from hf) (by simp)
  | succ n ih => exact w_X11_loadOf_B30 X (kb30 := f_X11_loadOf_L30 σ n k30 x0 x2 x3) hf  (fun x4 x5 d hf H locs ls hl G => ih hf hl G) hk30 hl G
set_option maxHeartbeats 4000000 in
set_option maxRecDepth 100000 in
theorem w_X11_loadOf_J127 {z : Int32 × Dt} (X : aw_X p c cX11_loadOf 6 s RX11 m meth (some .int)) {kb16 : Int32 → Int32 → Dt → Option (Int32 × Dt)} {t1 : Int32} {t0 : Int32} {x0 : Nat} {x3 : Int32} {d : Dt} (hf : f_X11_loadOf_J127 σ kb16 t1 t0 x0 x3 d = some z) (hkb16 : ∀ (y2 : Int32) (y3 : Int32) (d : Dt), kb16 y2 y3 d = some z → ∀ (H : Heap) (locs : List Loc) (ls : Array Slot), lv_has ls 6 [(0, .ref (ad x0)), (2, .int y2), (3, .int y3)] → aw_G D cA base ad σ d s H locs → W p l e rm_X11_loadOf s m args below meth c H locs 0 0 (aw_Ei D cA base ad σ below args s z) (F0 m 16 ls [])) {H : Heap} {locs : List Loc} {ls : Array Slot} (hl : lv_has ls 6 [(0, .ref (ad x0)), (3, .int x3)]) (G : aw_G D cA base ad σ d s H locs) : W p l e rm_X11_loadOf s m args below meth c H locs 0 0 (aw_Ei D cA base ad σ below args s z) (F0 m 127 ls [.int t1, .int t0]) := by
  have hx := X.1; have hb := X.2.1; have hml := X.2.2.1; have hown := X.2.2.2.1
  unfold f_X11_loadOf_J127 at hf
  refine lv_iadd hx hb dX11_loadOf_127 ?_
  refine lv_istore_n (lv' := [(2, .int (t0 + t1)), (0, .ref (ad x0)), (3, .int x3)]) hx hb dX11_loadOf_128 rfl hl (by decide) rfl (fun ls hl => ?_)
  refine lv_iinc (v := x3 + 1) (lv' := [(3, .int (x3 + 1)), (2, .int (t0 + t1)), (0, .ref (ad x0))]) hx hb dX11_loadOf_129 hl (k := 2) rfl rfl (by decide) rfl (fun ls hl => ?_)
  refine lv_goto (tgt := 16) hx hb dX11_loadOf_132 (by decide) ?_
  exact hkb16 _ _ _ hf _ _ _ (lv_sub hl [2, 1, 0] rfl) G
set_option maxHeartbeats 4000000 in
set_option maxRecDepth 100000 in
theorem w_X11_loadOf_B16 {z : Int32 × Dt} (X : aw_X p c cX11_loadOf 6 s RX11 m meth (some .int)) {kb16 : Int32 → Int32 → Dt → Option (Int32 × Dt)} {k16 : Int32 → Dt → Option (Int32 × Dt)} {x0 : Nat} {x2 : Int32} {x3 : Int32} {d : Dt} (hf : f_X11_loadOf_B16 σ kb16 k16 x0 x2 x3 d = some z) (hkb16 : ∀ (y2 : Int32) (y3 : Int32) (d : Dt), kb16 y2 y3 d = some z → ∀ (H : Heap) (locs : List Loc) (ls : Array Slot), lv_has ls 6 [(0, .ref (ad x0)), (2, .int y2), (3, .int y3)] → aw_G D cA base ad σ d s H locs → W p l e rm_X11_loadOf s m args below meth c H locs 0 0 (aw_Ei D cA base ad σ below args s z) (F0 m 16 ls [])) (hk16 : ∀ (y2 : Int32) (d : Dt), k16 y2 d = some z → ∀ (H : Heap) (locs : List Loc) (ls : Array Slot), lv_has ls 6 [(2, .int y2)] → aw_G D cA base ad σ d s H locs → W p l e rm_X11_loadOf s m args below meth c H locs 0 0 (aw_Ei D cA base ad σ below args s z) (F0 m 135 ls [])) {H : Heap} {locs : List Loc} {ls : Array Slot} (hl : lv_has ls 6 [(0, .ref (ad x0)), (2, .int x2), (3, .int x3)]) (G : aw_G D cA base ad σ d s H locs) : W p l e rm_X11_loadOf s m args below meth c H locs 0 0 (aw_Ei D cA base ad σ below args s z) (F0 m 16 ls []) := by
  have hx := X.1; have hb := X.2.1; have hml := X.2.2.1; have hown := X.2.2.2.1
  unfold f_X11_loadOf_B16 at hf
  refine lv_iload_n hx hb dX11_loadOf_16 rfl (lv_at hl 2 rfl) ?_
  refine lv_aload_n hx hb dX11_loadOf_17 rfl (lv_at hl 0 rfl) ?_
  obtain ⟨hc_7, hf⟩ := aw_chk_some hf
  refine gf_X11_100 hx hb G hown hc_7 dX11_loadOf_18 ?_
  refine lv_icmp_ge (tgt := 135) hx hb dX11_loadOf_21 (by decide) (fun hc => ?_) (fun hc => ?_)
  · have hf := aw_ite_t hc hf
    exact hk16 _ _ hf _ _ _ (lv_sub hl [1] rfl) G
  · have hf := aw_ite_f hc hf
    refine lv_iconst (v := (1 : Int32)) hx hb dX11_loadOf_24 (by decide) ?_
    refine lv_istore (lv' := [(4, .int ((1 : Int32))), (0, .ref (ad x0)), (2, .int x2), (3, .int x3)]) hx hb dX11_loadOf_25 hl (by decide) rfl (fun ls hl => ?_)
    refine lv_iconst (v := (0 : Int32)) hx hb dX11_loadOf_27 (by decide) ?_
    refine lv_istore (lv' := [(5, .int ((0 : Int32))), (4, .int ((1 : Int32))), (0, .ref (ad x0)), (2, .int x2), (3, .int x3)]) hx hb dX11_loadOf_28 hl (by decide) rfl (fun ls hl => ?_)
    refine w_X11_loadOf_L30 X aw_FU hf  (fun x4_15 d_16 hf H locs ls hl G => ?_) (lv_sub hl [2, 3, 4, 1, 0] rfl) G
    refine lv_iload_n hx hb dX11_loadOf_111 rfl (lv_at hl 1 rfl) ?_
    refine lv_iload hx hb dX11_loadOf_112 (lv_at hl 3 rfl) ?_
    refine lv_if_eq (tgt := 121) hx hb dX11_loadOf_114 (by decide) (fun hc => ?_) (fun hc => ?_)
    · have hf := aw_ite_t hc hf
      refine lv_aload_n hx hb dX11_loadOf_121 rfl (lv_at hl 0 rfl) ?_
      obtain ⟨q_17, hq_18, hf⟩ := aw_bind_some hf
      refine gf_X11_19 hx hb G hown hc_7 hq_18 dX11_loadOf_122 ?_
      refine lv_iload_n hx hb dX11_loadOf_125 rfl (lv_at hl 2 rfl) ?_
      obtain ⟨hc_19, hf⟩ := aw_chk_some hf
      refine aw_ial hx hb G hc_19 dX11_loadOf_126 ?_
      exact w_X11_loadOf_J127 X hf hkb16 (lv_sub hl [0, 2] rfl) G
    · have hf := aw_ite_f hc hf
      refine lv_iconst (v := (0 : Int32)) hx hb dX11_loadOf_117 (by decide) ?_
      refine lv_goto (tgt := 127) hx hb dX11_loadOf_118 (by decide) ?_
      exact w_X11_loadOf_J127 X hf hkb16 (lv_sub hl [0, 2] rfl) G
theorem w_X11_loadOf_L16 {z : Int32 × Dt} (X : aw_X p c cX11_loadOf 6 s RX11 m meth (some .int)) {k16 : Int32 → Dt → Option (Int32 × Dt)} {x0 : Nat} (n : Nat) {x2 : Int32} {x3 : Int32} {d : Dt} (hf : f_X11_loadOf_L16 σ n k16 x0 x2 x3 d = some z) (hk16 : ∀ (y2 : Int32) (d : Dt), k16 y2 d = some z → ∀ (H : Heap) (locs : List Loc) (ls : Array Slot), lv_has ls 6 [(2, .int y2)] → aw_G D cA base ad σ d s H locs → W p l e rm_X11_loadOf s m args below meth c H locs 0 0 (aw_Ei D cA base ad σ below args s z) (F0 m 135 ls [])) {H : Heap} {locs : List Loc} {ls : Array Slot} (hl : lv_has ls 6 [(0, .ref (ad x0)), (2, .int x2), (3, .int x3)]) (G : aw_G D cA base ad σ d s H locs) : W p l e rm_X11_loadOf s m args below meth c H locs 0 0 (aw_Ei D cA base ad σ below args s z) (F0 m 16 ls []) := by
  induction n generalizing x2 x3 d H locs ls with
  | zero => exact absurd (show (none : Option (Int32 × Dt)) = some z from hf) (by simp)
  | succ n ih => exact w_X11_loadOf_B16 X (kb16 := f_X11_loadOf_L16 σ n k16 x0) hf  (fun x2 x3 d hf H locs ls hl G => ih hf hl G) hk16 hl G
end W_X11_loadOf
set_option maxHeartbeats 4000000 in
set_option maxRecDepth 100000 in
theorem c_X11_loadOf (l : Launch) {σ : Sg} {x0 : Nat} {x1 : Int32} {d : Dt} {z : Int32 × Dt} (hf : f_X11_loadOf σ x0 x1 d = some z) : aw_Mi l yX11_loadOf (Cond.code yX11_loadOf cX11_loadOf 6 (some .int)) rm_X11_loadOf (fun ad => [.ref (ad x0), .int x1]) σ d z := by
  intro D cA base ad
  refine aw_ofW (own := RX11) (cc := cX11_loadOf) (nL := 6) (ret := some .int) (by decide) rfl rfl ?_
  intro p e s m below meth c X hnm G
  have hx := X.1; have hb := X.2.1; have hml := X.2.2.1; have hown := X.2.2.2.1
  refine aw_ls (lv := [(0, .ref (ad x0)), (1, .int x1)]) (Nat.le_of_ble_eq_true rfl) rfl (fun ls hl => ?_)
  unfold f_X11_loadOf at hf
  refine lv_aload_n hx hb dX11_loadOf_0 rfl (lv_at hl 0 rfl) ?_
  refine lv_iload_n hx hb dX11_loadOf_1 rfl (lv_at hl 1 rfl) ?_
  refine lv_aload_n hx hb dX11_loadOf_2 rfl (lv_at hl 0 rfl) ?_
  obtain ⟨hc_1, hf⟩ := aw_chk_some hf
  obtain ⟨q_2, hq_3, hf⟩ := aw_bind_some hf
  refine gf_X11_41 hx hb G hown hc_1 hq_3 dX11_loadOf_3 ?_
  refine lv_iload_n hx hb dX11_loadOf_6 rfl (lv_at hl 1 rfl) ?_
  obtain ⟨hc_4, hf⟩ := aw_chk_some hf
  refine aw_ial hx hb G hc_4 dX11_loadOf_7 ?_
  refine lv_iconst (v := (0 : Int32)) hx hb dX11_loadOf_8 (by decide) ?_
  obtain ⟨z_5, hz_6, hf⟩ := aw_bind_some hf
  refine aw_VV (As := [.int x1, .int (d.1 q_2 x1.toNatClampNeg), .int ((0 : Int32))]) (rest := []) X G hl.1 cr_X11_156 (c_X11_spellsAll l hz_6) ⟨rfl, rfl⟩ rfl rfl rfl (by decide) hc_1 rfl ⟨Nat.le_of_ble_eq_true rfl, Nat.le_of_ble_eq_true rfl⟩ (Nat.le_of_ble_eq_true rfl) dX11_loadOf_9 ⟨Nat.zero_le _, Nat.zero_le _⟩ (fun H locs G => ?_)
  refine lv_iconst (v := (0 : Int32)) hx hb dX11_loadOf_12 (by decide) ?_
  refine lv_istore_n (lv' := [(2, .int ((0 : Int32))), (0, .ref (ad x0)), (1, .int x1)]) hx hb dX11_loadOf_13 rfl hl (by decide) rfl (fun ls hl => ?_)
  refine lv_iconst (v := (0 : Int32)) hx hb dX11_loadOf_14 (by decide) ?_
  refine lv_istore_n (lv' := [(3, .int ((0 : Int32))), (2, .int ((0 : Int32))), (0, .ref (ad x0)), (1, .int x1)]) hx hb dX11_loadOf_15 rfl hl (by decide) rfl (fun ls hl => ?_)
  refine w_X11_loadOf_L16 X aw_FU hf  (fun x2_20 d_21 hf H locs ls hl G => ?_) (lv_sub hl [2, 1, 0] rfl) G
  refine lv_iload_n hx hb dX11_loadOf_135 rfl (lv_at hl 0 rfl) ?_
  exact aw_reti X G hf dX11_loadOf_136
def rm_X11_load : Room := { frames := 5, cells := 0, slots := 0, locals := 125 }
def f_X11_load_J29 (σ : Sg) (t0 : Int32) (d : Dt) : Option (Int32 × Dt) :=
  some (t0, d)
def f_X11_load_J14 (σ : Sg) (t1 : Int32) (t0 : Nat) (x0 : Nat) (x1 : Int32) (d : Dt) : Option (Int32 × Dt) :=
  aw_chk (aw_O σ 11 32 t0) ((f_X11_fails σ t0 t1 d).bind (fun z_4 => if z_4.1 = 0 then aw_chk (aw_O σ 11 32 x0) ((f_X11_loadOf σ x0 x1 z_4.2).bind (fun z_7 => f_X11_load_J29 σ z_7.1 z_7.2)) else f_X11_load_J29 σ ((0 : Int32)) z_4.2))
def f_X11_load (σ : Sg) (x0 : Nat) (x1 : Int32) (d : Dt) : Option (Int32 × Dt) :=
  aw_chk (aw_O σ 11 32 x0) ((f_X11_isDesign σ x0 x1 d).bind (fun z_1 => if z_1.1 = 0 then f_X11_load_J14 σ ((1 : Int32)) x0 x0 x1 z_1.2 else f_X11_load_J14 σ ((0 : Int32)) x0 x0 x1 z_1.2))
section W_X11_load
variable {p : Program} {l : Launch} {e : Env} {s : State} {m : MethodId} {args : Array Value} {below : List Frame} {meth : Method} {c : Code}
variable {D : va_G} {cA : Nat → ClassId} {base : Nat} {ad : Nat → Nat} {σ : Sg}
set_option maxHeartbeats 4000000 in
set_option maxRecDepth 100000 in
theorem w_X11_load_J29 {z : Int32 × Dt} (X : aw_X p c cX11_load 2 s RX11 m meth (some .int)) {t0 : Int32} {d : Dt} (hf : f_X11_load_J29 σ t0 d = some z)  {H : Heap} {locs : List Loc} {ls : Array Slot} (hl : lv_has ls 2 []) (G : aw_G D cA base ad σ d s H locs) : W p l e rm_X11_load s m args below meth c H locs 0 0 (aw_Ei D cA base ad σ below args s z) (F0 m 29 ls [.int t0]) := by
  have hx := X.1; have hb := X.2.1; have hml := X.2.2.1; have hown := X.2.2.2.1
  unfold f_X11_load_J29 at hf
  exact aw_reti X G hf dX11_load_29
set_option maxHeartbeats 4000000 in
set_option maxRecDepth 100000 in
theorem w_X11_load_J14 {z : Int32 × Dt} (X : aw_X p c cX11_load 2 s RX11 m meth (some .int)) {t1 : Int32} {t0 : Nat} {x0 : Nat} {x1 : Int32} {d : Dt} (hf : f_X11_load_J14 σ t1 t0 x0 x1 d = some z)  {H : Heap} {locs : List Loc} {ls : Array Slot} (hl : lv_has ls 2 [(0, .ref (ad x0)), (1, .int x1)]) (G : aw_G D cA base ad σ d s H locs) : W p l e rm_X11_load s m args below meth c H locs 0 0 (aw_Ei D cA base ad σ below args s z) (F0 m 14 ls [.int t1, .ref (ad t0)]) := by
  have hx := X.1; have hb := X.2.1; have hml := X.2.2.1; have hown := X.2.2.2.1
  unfold f_X11_load_J14 at hf
  obtain ⟨hc_6, hf⟩ := aw_chk_some hf
  obtain ⟨z_4, hz_5, hf⟩ := aw_bind_some hf
  refine aw_VI (As := [.int t1]) (rest := []) X G hl.1 cr_X11_113 (c_X11_fails l hz_5) ⟨rfl, rfl⟩ rfl rfl rfl (by decide) hc_6 rfl ⟨Nat.le_of_ble_eq_true rfl, Nat.le_of_ble_eq_true rfl⟩ (Nat.le_of_ble_eq_true rfl) dX11_load_14 ⟨Nat.zero_le _, Nat.zero_le _⟩ (fun H locs G => ?_)
  refine lv_if_eq (tgt := 24) hx hb dX11_load_17 (by decide) (fun hc => ?_) (fun hc => ?_)
  · have hf := aw_ite_t hc hf
    refine lv_aload_n hx hb dX11_load_24 rfl (lv_at hl 0 rfl) ?_
    refine lv_iload_n hx hb dX11_load_25 rfl (lv_at hl 1 rfl) ?_
    obtain ⟨hc_9, hf⟩ := aw_chk_some hf
    obtain ⟨z_7, hz_8, hf⟩ := aw_bind_some hf
    refine aw_VI (As := [.int x1]) (rest := []) X G hl.1 cr_X11_163 (c_X11_loadOf l hz_8) ⟨rfl, rfl⟩ rfl rfl rfl (by decide) hc_9 rfl ⟨Nat.le_of_ble_eq_true rfl, Nat.le_of_ble_eq_true rfl⟩ (Nat.le_of_ble_eq_true rfl) dX11_load_26 ⟨Nat.zero_le _, Nat.zero_le _⟩ (fun H locs G => ?_)
    exact w_X11_load_J29 X hf  (lv_sub hl [] rfl) G
  · have hf := aw_ite_f hc hf
    refine lv_iconst (v := (0 : Int32)) hx hb dX11_load_20 (by decide) ?_
    refine lv_goto (tgt := 29) hx hb dX11_load_21 (by decide) ?_
    exact w_X11_load_J29 X hf  (lv_sub hl [] rfl) G
end W_X11_load
set_option maxHeartbeats 4000000 in
set_option maxRecDepth 100000 in
theorem c_X11_load (l : Launch) {σ : Sg} {x0 : Nat} {x1 : Int32} {d : Dt} {z : Int32 × Dt} (hf : f_X11_load σ x0 x1 d = some z) : aw_Mi l yX11_load (Cond.code yX11_load cX11_load 2 (some .int)) rm_X11_load (fun ad => [.ref (ad x0), .int x1]) σ d z := by
  intro D cA base ad
  refine aw_ofW (own := RX11) (cc := cX11_load) (nL := 2) (ret := some .int) (by decide) rfl rfl ?_
  intro p e s m below meth c X hnm G
  have hx := X.1; have hb := X.2.1; have hml := X.2.2.1; have hown := X.2.2.2.1
  refine aw_ls (lv := [(0, .ref (ad x0)), (1, .int x1)]) (Nat.le_of_ble_eq_true rfl) rfl (fun ls hl => ?_)
  unfold f_X11_load at hf
  refine lv_aload_n hx hb dX11_load_0 rfl (lv_at hl 0 rfl) ?_
  refine lv_aload_n hx hb dX11_load_1 rfl (lv_at hl 0 rfl) ?_
  refine lv_iload_n hx hb dX11_load_2 rfl (lv_at hl 1 rfl) ?_
  obtain ⟨hc_3, hf⟩ := aw_chk_some hf
  obtain ⟨z_1, hz_2, hf⟩ := aw_bind_some hf
  refine aw_VI (As := [.int x1]) (rest := [.ref (ad x0)]) X G hl.1 cr_X11_146 (c_X11_isDesign l hz_2) ⟨rfl, rfl⟩ rfl rfl rfl (by decide) hc_3 rfl ⟨Nat.le_of_ble_eq_true rfl, Nat.le_of_ble_eq_true rfl⟩ (Nat.le_of_ble_eq_true rfl) dX11_load_3 ⟨Nat.zero_le _, Nat.zero_le _⟩ (fun H locs G => ?_)
  refine lv_if_eq (tgt := 13) hx hb dX11_load_6 (by decide) (fun hc => ?_) (fun hc => ?_)
  · have hf := aw_ite_t hc hf
    refine lv_iconst (v := (1 : Int32)) hx hb dX11_load_13 (by decide) ?_
    exact w_X11_load_J14 X hf  (lv_sub hl [0, 1] rfl) G
  · have hf := aw_ite_f hc hf
    refine lv_iconst (v := (0 : Int32)) hx hb dX11_load_9 (by decide) ?_
    refine lv_goto (tgt := 14) hx hb dX11_load_10 (by decide) ?_
    exact w_X11_load_J14 X hf  (lv_sub hl [0, 1] rfl) G
def rm_X11_loadIf : Room := { frames := 5, cells := 0, slots := 0, locals := 125 }
def f_X11_loadIf_J92 (σ : Sg) (t2 : Int32) (t1 : Int32) (t0 : Nat) (x3 : Int32) (d : Dt) : Option (Int32 × Dt) :=
  aw_chk (aw_I σ 22 t0 t1) (some (x3, aw_sI d t0 t1.toNatClampNeg (vp_nar .boolean t2)))
def f_X11_loadIf_J58 (σ : Sg) (t2 : Int32) (t1 : Int32) (t0 : Nat) (x0 : Nat) (x1 : Int32) (x2 : Int32) (d : Dt) : Option (Int32 × Dt) :=
  aw_chk (aw_I σ 22 t0 t1) (aw_chk (aw_O σ 11 32 x0) ((f_X11_loadOf σ x0 x1 (aw_sI d t0 t1.toNatClampNeg (vp_nar .boolean t2))).bind (fun z_12 => (σ.2.2 x0 15).bind (fun q_15 => aw_chk (aw_I σ 22 q_15 ((((3 : Int32)) * x1) + x2)) (if (z_12.2.1 q_15 ((((3 : Int32)) * x1) + x2).toNatClampNeg) = 0 then f_X11_loadIf_J92 σ ((1 : Int32)) ((((3 : Int32)) * x1) + x2) q_15 z_12.1 z_12.2 else f_X11_loadIf_J92 σ ((0 : Int32)) ((((3 : Int32)) * x1) + x2) q_15 z_12.1 z_12.2)))))
def f_X11_loadIf_J23 (σ : Sg) (t1 : Int32) (t0 : Nat) (x0 : Nat) (x1 : Int32) (x2 : Int32) (d : Dt) : Option (Int32 × Dt) :=
  aw_chk (aw_O σ 11 32 t0) ((f_X11_fails σ t0 t1 d).bind (fun z_4 => if z_4.1 = 0 then aw_chk (aw_O σ 11 32 x0) ((σ.2.2 x0 15).bind (fun q_8 => aw_chk (aw_I σ 22 q_8 ((((3 : Int32)) * x1) + x2)) (if (z_4.2.1 q_8 ((((3 : Int32)) * x1) + x2).toNatClampNeg) = 0 then f_X11_loadIf_J58 σ ((1 : Int32)) ((((3 : Int32)) * x1) + x2) q_8 x0 x1 x2 z_4.2 else f_X11_loadIf_J58 σ ((0 : Int32)) ((((3 : Int32)) * x1) + x2) q_8 x0 x1 x2 z_4.2))) else some ((0 : Int32), z_4.2)))
def f_X11_loadIf_J22 (σ : Sg) (t0 : Nat) (x0 : Nat) (x1 : Int32) (x2 : Int32) (d : Dt) : Option (Int32 × Dt) :=
  f_X11_loadIf_J23 σ ((1 : Int32)) t0 x0 x1 x2 d
def f_X11_loadIf (σ : Sg) (x0 : Nat) (x1 : Int32) (x2 : Int32) (d : Dt) : Option (Int32 × Dt) :=
  aw_chk (aw_O σ 11 32 x0) ((f_X11_isDesign σ x0 x1 d).bind (fun z_1 => if z_1.1 = 0 then f_X11_loadIf_J22 σ x0 x0 x1 x2 z_1.2 else (f_X11_isIn σ x2 ((0 : Int32)) ((2 : Int32)) z_1.2).bind (fun z_19 => if z_19.1 = 0 then f_X11_loadIf_J22 σ x0 x0 x1 x2 z_19.2 else f_X11_loadIf_J23 σ ((0 : Int32)) x0 x0 x1 x2 z_19.2)))
section W_X11_loadIf
variable {p : Program} {l : Launch} {e : Env} {s : State} {m : MethodId} {args : Array Value} {below : List Frame} {meth : Method} {c : Code}
variable {D : va_G} {cA : Nat → ClassId} {base : Nat} {ad : Nat → Nat} {σ : Sg}
set_option maxHeartbeats 4000000 in
set_option maxRecDepth 100000 in
theorem w_X11_loadIf_J92 {z : Int32 × Dt} (X : aw_X p c cX11_loadIf 4 s RX11 m meth (some .int)) {t2 : Int32} {t1 : Int32} {t0 : Nat} {x3 : Int32} {d : Dt} (hf : f_X11_loadIf_J92 σ t2 t1 t0 x3 d = some z)  {H : Heap} {locs : List Loc} {ls : Array Slot} (hl : lv_has ls 4 [(3, .int x3)]) (G : aw_G D cA base ad σ d s H locs) : W p l e rm_X11_loadIf s m args below meth c H locs 0 0 (aw_Ei D cA base ad σ below args s z) (F0 m 92 ls [.int t2, .int t1, .ref (ad t0)]) := by
  have hx := X.1; have hb := X.2.1; have hml := X.2.2.1; have hown := X.2.2.2.1
  unfold f_X11_loadIf_J92 at hf
  obtain ⟨hc_18, hf⟩ := aw_chk_some hf
  refine aw_zas hx hb G hc_18 dX11_loadIf_92 (fun H locs G => ?_)
  refine lv_iload_n hx hb dX11_loadIf_93 rfl (lv_at hl 0 rfl) ?_
  exact aw_reti X G hf dX11_loadIf_94
set_option maxHeartbeats 4000000 in
set_option maxRecDepth 100000 in
theorem w_X11_loadIf_J58 {z : Int32 × Dt} (X : aw_X p c cX11_loadIf 4 s RX11 m meth (some .int)) {t2 : Int32} {t1 : Int32} {t0 : Nat} {x0 : Nat} {x1 : Int32} {x2 : Int32} {d : Dt} (hf : f_X11_loadIf_J58 σ t2 t1 t0 x0 x1 x2 d = some z)  {H : Heap} {locs : List Loc} {ls : Array Slot} (hl : lv_has ls 4 [(0, .ref (ad x0)), (1, .int x1), (2, .int x2)]) (G : aw_G D cA base ad σ d s H locs) : W p l e rm_X11_loadIf s m args below meth c H locs 0 0 (aw_Ei D cA base ad σ below args s z) (F0 m 58 ls [.int t2, .int t1, .ref (ad t0)]) := by
  have hx := X.1; have hb := X.2.1; have hml := X.2.2.1; have hown := X.2.2.2.1
  unfold f_X11_loadIf_J58 at hf
  obtain ⟨hc_11, hf⟩ := aw_chk_some hf
  refine aw_zas hx hb G hc_11 dX11_loadIf_58 (fun H locs G => ?_)
  refine lv_aload_n hx hb dX11_loadIf_59 rfl (lv_at hl 0 rfl) ?_
  refine lv_iload_n hx hb dX11_loadIf_60 rfl (lv_at hl 1 rfl) ?_
  obtain ⟨hc_14, hf⟩ := aw_chk_some hf
  obtain ⟨z_12, hz_13, hf⟩ := aw_bind_some hf
  refine aw_VI (As := [.int x1]) (rest := []) X G hl.1 cr_X11_163 (c_X11_loadOf l hz_13) ⟨rfl, rfl⟩ rfl rfl rfl (by decide) hc_14 rfl ⟨Nat.le_of_ble_eq_true rfl, Nat.le_of_ble_eq_true rfl⟩ (Nat.le_of_ble_eq_true rfl) dX11_loadIf_61 ⟨Nat.zero_le _, Nat.zero_le _⟩ (fun H locs G => ?_)
  refine lv_istore_n (lv' := [(3, .int z_12.1), (0, .ref (ad x0)), (1, .int x1), (2, .int x2)]) hx hb dX11_loadIf_64 rfl hl (by decide) rfl (fun ls hl => ?_)
  refine lv_aload_n hx hb dX11_loadIf_65 rfl (lv_at hl 1 rfl) ?_
  obtain ⟨q_15, hq_16, hf⟩ := aw_bind_some hf
  refine gf_X11_47 hx hb G hown hc_14 hq_16 dX11_loadIf_66 ?_
  refine lv_iconst (v := (3 : Int32)) hx hb dX11_loadIf_69 (by decide) ?_
  refine lv_iload_n hx hb dX11_loadIf_70 rfl (lv_at hl 2 rfl) ?_
  refine lv_imul hx hb dX11_loadIf_71 ?_
  refine lv_iload_n hx hb dX11_loadIf_72 rfl (lv_at hl 3 rfl) ?_
  refine lv_iadd hx hb dX11_loadIf_73 ?_
  refine lv_aload_n hx hb dX11_loadIf_74 rfl (lv_at hl 1 rfl) ?_
  refine gf_X11_47 hx hb G hown hc_14 hq_16 dX11_loadIf_75 ?_
  refine lv_iconst (v := (3 : Int32)) hx hb dX11_loadIf_78 (by decide) ?_
  refine lv_iload_n hx hb dX11_loadIf_79 rfl (lv_at hl 2 rfl) ?_
  refine lv_imul hx hb dX11_loadIf_80 ?_
  refine lv_iload_n hx hb dX11_loadIf_81 rfl (lv_at hl 3 rfl) ?_
  refine lv_iadd hx hb dX11_loadIf_82 ?_
  obtain ⟨hc_17, hf⟩ := aw_chk_some hf
  refine aw_zal hx hb G hc_17 dX11_loadIf_83 ?_
  refine lv_if_ne (tgt := 91) hx hb dX11_loadIf_84 (by decide) (fun hc => ?_) (fun hc => ?_)
  · have hf := aw_ite_f hc hf
    refine lv_iconst (v := (0 : Int32)) hx hb dX11_loadIf_91 (by decide) ?_
    exact w_X11_loadIf_J92 X hf  (lv_sub hl [0] rfl) G
  · have hf := aw_ite_t hc hf
    refine lv_iconst (v := (1 : Int32)) hx hb dX11_loadIf_87 (by decide) ?_
    refine lv_goto (tgt := 92) hx hb dX11_loadIf_88 (by decide) ?_
    exact w_X11_loadIf_J92 X hf  (lv_sub hl [0] rfl) G
set_option maxHeartbeats 4000000 in
set_option maxRecDepth 100000 in
theorem w_X11_loadIf_J23 {z : Int32 × Dt} (X : aw_X p c cX11_loadIf 4 s RX11 m meth (some .int)) {t1 : Int32} {t0 : Nat} {x0 : Nat} {x1 : Int32} {x2 : Int32} {d : Dt} (hf : f_X11_loadIf_J23 σ t1 t0 x0 x1 x2 d = some z)  {H : Heap} {locs : List Loc} {ls : Array Slot} (hl : lv_has ls 4 [(0, .ref (ad x0)), (1, .int x1), (2, .int x2)]) (G : aw_G D cA base ad σ d s H locs) : W p l e rm_X11_loadIf s m args below meth c H locs 0 0 (aw_Ei D cA base ad σ below args s z) (F0 m 23 ls [.int t1, .ref (ad t0)]) := by
  have hx := X.1; have hb := X.2.1; have hml := X.2.2.1; have hown := X.2.2.2.1
  unfold f_X11_loadIf_J23 at hf
  obtain ⟨hc_6, hf⟩ := aw_chk_some hf
  obtain ⟨z_4, hz_5, hf⟩ := aw_bind_some hf
  refine aw_VI (As := [.int t1]) (rest := []) X G hl.1 cr_X11_113 (c_X11_fails l hz_5) ⟨rfl, rfl⟩ rfl rfl rfl (by decide) hc_6 rfl ⟨Nat.le_of_ble_eq_true rfl, Nat.le_of_ble_eq_true rfl⟩ (Nat.le_of_ble_eq_true rfl) dX11_loadIf_23 ⟨Nat.zero_le _, Nat.zero_le _⟩ (fun H locs G => ?_)
  refine lv_if_eq (tgt := 31) hx hb dX11_loadIf_26 (by decide) (fun hc => ?_) (fun hc => ?_)
  · have hf := aw_ite_t hc hf
    refine lv_aload_n hx hb dX11_loadIf_31 rfl (lv_at hl 0 rfl) ?_
    obtain ⟨hc_7, hf⟩ := aw_chk_some hf
    obtain ⟨q_8, hq_9, hf⟩ := aw_bind_some hf
    refine gf_X11_47 hx hb G hown hc_7 hq_9 dX11_loadIf_32 ?_
    refine lv_iconst (v := (3 : Int32)) hx hb dX11_loadIf_35 (by decide) ?_
    refine lv_iload_n hx hb dX11_loadIf_36 rfl (lv_at hl 1 rfl) ?_
    refine lv_imul hx hb dX11_loadIf_37 ?_
    refine lv_iload_n hx hb dX11_loadIf_38 rfl (lv_at hl 2 rfl) ?_
    refine lv_iadd hx hb dX11_loadIf_39 ?_
    refine lv_aload_n hx hb dX11_loadIf_40 rfl (lv_at hl 0 rfl) ?_
    refine gf_X11_47 hx hb G hown hc_7 hq_9 dX11_loadIf_41 ?_
    refine lv_iconst (v := (3 : Int32)) hx hb dX11_loadIf_44 (by decide) ?_
    refine lv_iload_n hx hb dX11_loadIf_45 rfl (lv_at hl 1 rfl) ?_
    refine lv_imul hx hb dX11_loadIf_46 ?_
    refine lv_iload_n hx hb dX11_loadIf_47 rfl (lv_at hl 2 rfl) ?_
    refine lv_iadd hx hb dX11_loadIf_48 ?_
    obtain ⟨hc_10, hf⟩ := aw_chk_some hf
    refine aw_zal hx hb G hc_10 dX11_loadIf_49 ?_
    refine lv_if_ne (tgt := 57) hx hb dX11_loadIf_50 (by decide) (fun hc => ?_) (fun hc => ?_)
    · have hf := aw_ite_f hc hf
      refine lv_iconst (v := (0 : Int32)) hx hb dX11_loadIf_57 (by decide) ?_
      exact w_X11_loadIf_J58 X hf  (lv_sub hl [0, 1, 2] rfl) G
    · have hf := aw_ite_t hc hf
      refine lv_iconst (v := (1 : Int32)) hx hb dX11_loadIf_53 (by decide) ?_
      refine lv_goto (tgt := 58) hx hb dX11_loadIf_54 (by decide) ?_
      exact w_X11_loadIf_J58 X hf  (lv_sub hl [0, 1, 2] rfl) G
  · have hf := aw_ite_f hc hf
    refine lv_iconst (v := (0 : Int32)) hx hb dX11_loadIf_29 (by decide) ?_
    exact aw_reti X G hf dX11_loadIf_30
set_option maxHeartbeats 4000000 in
set_option maxRecDepth 100000 in
theorem w_X11_loadIf_J22 {z : Int32 × Dt} (X : aw_X p c cX11_loadIf 4 s RX11 m meth (some .int)) {t0 : Nat} {x0 : Nat} {x1 : Int32} {x2 : Int32} {d : Dt} (hf : f_X11_loadIf_J22 σ t0 x0 x1 x2 d = some z)  {H : Heap} {locs : List Loc} {ls : Array Slot} (hl : lv_has ls 4 [(0, .ref (ad x0)), (1, .int x1), (2, .int x2)]) (G : aw_G D cA base ad σ d s H locs) : W p l e rm_X11_loadIf s m args below meth c H locs 0 0 (aw_Ei D cA base ad σ below args s z) (F0 m 22 ls [.ref (ad t0)]) := by
  have hx := X.1; have hb := X.2.1; have hml := X.2.2.1; have hown := X.2.2.2.1
  unfold f_X11_loadIf_J22 at hf
  refine lv_iconst (v := (1 : Int32)) hx hb dX11_loadIf_22 (by decide) ?_
  exact w_X11_loadIf_J23 X hf  (lv_sub hl [0, 1, 2] rfl) G
end W_X11_loadIf
set_option maxHeartbeats 4000000 in
set_option maxRecDepth 100000 in
theorem c_X11_loadIf (l : Launch) {σ : Sg} {x0 : Nat} {x1 : Int32} {x2 : Int32} {d : Dt} {z : Int32 × Dt} (hf : f_X11_loadIf σ x0 x1 x2 d = some z) : aw_Mi l yX11_loadIf (Cond.code yX11_loadIf cX11_loadIf 4 (some .int)) rm_X11_loadIf (fun ad => [.ref (ad x0), .int x1, .int x2]) σ d z := by
  intro D cA base ad
  refine aw_ofW (own := RX11) (cc := cX11_loadIf) (nL := 4) (ret := some .int) (by decide) rfl rfl ?_
  intro p e s m below meth c X hnm G
  have hx := X.1; have hb := X.2.1; have hml := X.2.2.1; have hown := X.2.2.2.1
  refine aw_ls (lv := [(0, .ref (ad x0)), (1, .int x1), (2, .int x2)]) (Nat.le_of_ble_eq_true rfl) rfl (fun ls hl => ?_)
  unfold f_X11_loadIf at hf
  refine lv_aload_n hx hb dX11_loadIf_0 rfl (lv_at hl 0 rfl) ?_
  refine lv_aload_n hx hb dX11_loadIf_1 rfl (lv_at hl 0 rfl) ?_
  refine lv_iload_n hx hb dX11_loadIf_2 rfl (lv_at hl 1 rfl) ?_
  obtain ⟨hc_3, hf⟩ := aw_chk_some hf
  obtain ⟨z_1, hz_2, hf⟩ := aw_bind_some hf
  refine aw_VI (As := [.int x1]) (rest := [.ref (ad x0)]) X G hl.1 cr_X11_146 (c_X11_isDesign l hz_2) ⟨rfl, rfl⟩ rfl rfl rfl (by decide) hc_3 rfl ⟨Nat.le_of_ble_eq_true rfl, Nat.le_of_ble_eq_true rfl⟩ (Nat.le_of_ble_eq_true rfl) dX11_loadIf_3 ⟨Nat.zero_le _, Nat.zero_le _⟩ (fun H locs G => ?_)
  refine lv_if_eq (tgt := 22) hx hb dX11_loadIf_6 (by decide) (fun hc => ?_) (fun hc => ?_)
  · have hf := aw_ite_t hc hf
    exact w_X11_loadIf_J22 X hf  (lv_sub hl [0, 1, 2] rfl) G
  · have hf := aw_ite_f hc hf
    refine lv_iload_n hx hb dX11_loadIf_9 rfl (lv_at hl 2 rfl) ?_
    refine lv_iconst (v := (0 : Int32)) hx hb dX11_loadIf_10 (by decide) ?_
    refine lv_iconst (v := (2 : Int32)) hx hb dX11_loadIf_11 (by decide) ?_
    obtain ⟨z_19, hz_20, hf⟩ := aw_bind_some hf
    refine aw_SI (As := [.int x2, .int ((0 : Int32)), .int ((2 : Int32))]) (rest := [.ref (ad x0)]) X G hl.1 cr_X11_103 (c_X11_isIn l hz_20) ⟨rfl, rfl⟩ rfl rfl rfl ⟨Nat.le_of_ble_eq_true rfl, Nat.le_of_ble_eq_true rfl⟩ (Nat.le_of_ble_eq_true rfl) dX11_loadIf_12 ⟨Nat.zero_le _, Nat.zero_le _⟩ (fun H locs G => ?_)
    refine lv_if_eq (tgt := 22) hx hb dX11_loadIf_15 (by decide) (fun hc => ?_) (fun hc => ?_)
    · have hf := aw_ite_t hc hf
      exact w_X11_loadIf_J22 X hf  (lv_sub hl [0, 1, 2] rfl) G
    · have hf := aw_ite_f hc hf
      refine lv_iconst (v := (0 : Int32)) hx hb dX11_loadIf_18 (by decide) ?_
      refine lv_goto (tgt := 23) hx hb dX11_loadIf_19 (by decide) ?_
      exact w_X11_loadIf_J23 X hf  (lv_sub hl [0, 1, 2] rfl) G
def rm_X11_tones : Room := { frames := 0, cells := 0, slots := 0, locals := 0 }
def f_X11_tones_J89 (σ : Sg) (kb5 : Int32 → Int32 → Dt → Option (Int32 × Dt)) (t1 : Int32) (t0 : Int32) (x0 : Nat) (x1 : Int32) (x2 : Int32) (x4 : Int32) (d : Dt) : Option (Int32 × Dt) :=
  kb5 (t0 + t1) (x4 + 1) d
def f_X11_tones_J76 (σ : Sg) (kb5 : Int32 → Int32 → Dt → Option (Int32 × Dt)) (t0 : Int32) (x0 : Nat) (x1 : Int32) (x2 : Int32) (x3 : Int32) (x4 : Int32) (d : Dt) : Option (Int32 × Dt) :=
  if t0 = 0 then f_X11_tones_J89 σ kb5 ((0 : Int32)) x3 x0 x1 x2 x4 d else f_X11_tones_J89 σ kb5 ((1 : Int32)) x3 x0 x1 x2 x4 d
def f_X11_tones_J75 (σ : Sg) (kb5 : Int32 → Int32 → Dt → Option (Int32 × Dt)) (x0 : Nat) (x1 : Int32) (x2 : Int32) (x3 : Int32) (x4 : Int32) (d : Dt) : Option (Int32 × Dt) :=
  f_X11_tones_J76 σ kb5 ((0 : Int32)) x0 x1 x2 x3 x4 d
def f_X11_tones_B5 (σ : Sg) (kb5 : Int32 → Int32 → Dt → Option (Int32 × Dt)) (k5 : Int32 → Dt → Option (Int32 × Dt)) (x0 : Nat) (x1 : Int32) (x2 : Int32) (x3 : Int32) (x4 : Int32) (d : Dt) : Option (Int32 × Dt) :=
  if ((3 : Int32)) ≤ x4 then k5 x3 d else if x2 = ((-1 : Int32)) then aw_chk (aw_O σ 11 32 x0) ((σ.2.2 x0 15).bind (fun q_9 => aw_chk (aw_I σ 22 q_9 ((((3 : Int32)) * x1) + x4)) (if (d.1 q_9 ((((3 : Int32)) * x1) + x4).toNatClampNeg) = 0 then f_X11_tones_J76 σ kb5 ((1 : Int32)) x0 x1 x2 x3 x4 d else f_X11_tones_J76 σ kb5 ((0 : Int32)) x0 x1 x2 x3 x4 d))) else aw_chk (aw_O σ 11 32 x0) ((σ.2.2 x0 15).bind (fun q_2 => aw_chk (aw_I σ 22 q_2 ((((3 : Int32)) * x1) + x4)) (if (d.1 q_2 ((((3 : Int32)) * x1) + x4).toNatClampNeg) = 0 then f_X11_tones_J75 σ kb5 x0 x1 x2 x3 x4 d else (σ.2.2 x0 14).bind (fun q_5 => aw_chk (aw_I σ 20 q_5 (((((47 : Int32)) * x1) + ((44 : Int32))) + x4)) (if (d.1 q_5 (((((47 : Int32)) * x1) + ((44 : Int32))) + x4).toNatClampNeg) = x2 then f_X11_tones_J76 σ kb5 ((1 : Int32)) x0 x1 x2 x3 x4 d else f_X11_tones_J75 σ kb5 x0 x1 x2 x3 x4 d)))))
def f_X11_tones_L5 (σ : Sg) (n : Nat) (k5 : Int32 → Dt → Option (Int32 × Dt)) (x0 : Nat) (x1 : Int32) (x2 : Int32) : Int32 → Int32 → Dt → Option (Int32 × Dt) := match n with
  | 0 => fun _ _ _ => none
  | n + 1 => fun x3 x4 d => f_X11_tones_B5 σ (f_X11_tones_L5 σ n k5 x0 x1 x2) k5 x0 x1 x2 x3 x4 d
def f_X11_tones (σ : Sg) (x0 : Nat) (x1 : Int32) (x2 : Int32) (d : Dt) : Option (Int32 × Dt) :=
  f_X11_tones_L5 σ aw_FU (fun x3_12 d_13 => some (x3_12, d_13)) x0 x1 x2 ((0 : Int32)) ((0 : Int32)) d
section W_X11_tones
variable {p : Program} {l : Launch} {e : Env} {s : State} {m : MethodId} {args : Array Value} {below : List Frame} {meth : Method} {c : Code}
variable {D : va_G} {cA : Nat → ClassId} {base : Nat} {ad : Nat → Nat} {σ : Sg}
set_option maxHeartbeats 4000000 in
set_option maxRecDepth 100000 in
theorem w_X11_tones_J89 {z : Int32 × Dt} (X : aw_X p c cX11_tones 6 s RX11 m meth (some .int)) {kb5 : Int32 → Int32 → Dt → Option (Int32 × Dt)} {t1 : Int32} {t0 : Int32} {x0 : Nat} {x1 : Int32} {x2 : Int32} {x4 : Int32} {d : Dt} (hf : f_X11_tones_J89 σ kb5 t1 t0 x0 x1 x2 x4 d = some z) (hkb5 : ∀ (y3 : Int32) (y4 : Int32) (d : Dt), kb5 y3 y4 d = some z → ∀ (H : Heap) (locs : List Loc) (ls : Array Slot), lv_has ls 6 [(0, .ref (ad x0)), (1, .int x1), (2, .int x2), (3, .int y3), (4, .int y4)] → aw_G D cA base ad σ d s H locs → W p l e rm_X11_tones s m args below meth c H locs 0 0 (aw_Ei D cA base ad σ below args s z) (F0 m 5 ls [])) {H : Heap} {locs : List Loc} {ls : Array Slot} (hl : lv_has ls 6 [(0, .ref (ad x0)), (1, .int x1), (2, .int x2), (4, .int x4)]) (G : aw_G D cA base ad σ d s H locs) : W p l e rm_X11_tones s m args below meth c H locs 0 0 (aw_Ei D cA base ad σ below args s z) (F0 m 89 ls [.int t1, .int t0]) := by
  have hx := X.1; have hb := X.2.1; have hml := X.2.2.1; have hown := X.2.2.2.1
  unfold f_X11_tones_J89 at hf
  refine lv_iadd hx hb dX11_tones_89 ?_
  refine lv_istore_n (lv' := [(3, .int (t0 + t1)), (0, .ref (ad x0)), (1, .int x1), (2, .int x2), (4, .int x4)]) hx hb dX11_tones_90 rfl hl (by decide) rfl (fun ls hl => ?_)
  refine lv_iinc (v := x4 + 1) (lv' := [(4, .int (x4 + 1)), (3, .int (t0 + t1)), (0, .ref (ad x0)), (1, .int x1), (2, .int x2)]) hx hb dX11_tones_91 hl (k := 4) rfl rfl (by decide) rfl (fun ls hl => ?_)
  refine lv_goto (tgt := 5) hx hb dX11_tones_94 (by decide) ?_
  exact hkb5 _ _ _ hf _ _ _ (lv_sub hl [2, 3, 4, 1, 0] rfl) G
set_option maxHeartbeats 4000000 in
set_option maxRecDepth 100000 in
theorem w_X11_tones_J76 {z : Int32 × Dt} (X : aw_X p c cX11_tones 6 s RX11 m meth (some .int)) {kb5 : Int32 → Int32 → Dt → Option (Int32 × Dt)} {t0 : Int32} {x0 : Nat} {x1 : Int32} {x2 : Int32} {x3 : Int32} {x4 : Int32} {d : Dt} (hf : f_X11_tones_J76 σ kb5 t0 x0 x1 x2 x3 x4 d = some z) (hkb5 : ∀ (y3 : Int32) (y4 : Int32) (d : Dt), kb5 y3 y4 d = some z → ∀ (H : Heap) (locs : List Loc) (ls : Array Slot), lv_has ls 6 [(0, .ref (ad x0)), (1, .int x1), (2, .int x2), (3, .int y3), (4, .int y4)] → aw_G D cA base ad σ d s H locs → W p l e rm_X11_tones s m args below meth c H locs 0 0 (aw_Ei D cA base ad σ below args s z) (F0 m 5 ls [])) {H : Heap} {locs : List Loc} {ls : Array Slot} (hl : lv_has ls 6 [(0, .ref (ad x0)), (1, .int x1), (2, .int x2), (3, .int x3), (4, .int x4)]) (G : aw_G D cA base ad σ d s H locs) : W p l e rm_X11_tones s m args below meth c H locs 0 0 (aw_Ei D cA base ad σ below args s z) (F0 m 76 ls [.int t0]) := by
  have hx := X.1; have hb := X.2.1; have hml := X.2.2.1; have hown := X.2.2.2.1
  unfold f_X11_tones_J76 at hf
  refine lv_istore (lv' := [(5, .int t0), (0, .ref (ad x0)), (1, .int x1), (2, .int x2), (3, .int x3), (4, .int x4)]) hx hb dX11_tones_76 hl (by decide) rfl (fun ls hl => ?_)
  refine lv_iload_n hx hb dX11_tones_78 rfl (lv_at hl 4 rfl) ?_
  refine lv_iload hx hb dX11_tones_79 (lv_at hl 0 rfl) ?_
  refine lv_if_eq (tgt := 88) hx hb dX11_tones_81 (by decide) (fun hc => ?_) (fun hc => ?_)
  · have hf := aw_ite_t hc hf
    refine lv_iconst (v := (0 : Int32)) hx hb dX11_tones_88 (by decide) ?_
    exact w_X11_tones_J89 X hf hkb5 (lv_sub hl [1, 2, 3, 5] rfl) G
  · have hf := aw_ite_f hc hf
    refine lv_iconst (v := (1 : Int32)) hx hb dX11_tones_84 (by decide) ?_
    refine lv_goto (tgt := 89) hx hb dX11_tones_85 (by decide) ?_
    exact w_X11_tones_J89 X hf hkb5 (lv_sub hl [1, 2, 3, 5] rfl) G
set_option maxHeartbeats 4000000 in
set_option maxRecDepth 100000 in
theorem w_X11_tones_J75 {z : Int32 × Dt} (X : aw_X p c cX11_tones 6 s RX11 m meth (some .int)) {kb5 : Int32 → Int32 → Dt → Option (Int32 × Dt)} {x0 : Nat} {x1 : Int32} {x2 : Int32} {x3 : Int32} {x4 : Int32} {d : Dt} (hf : f_X11_tones_J75 σ kb5 x0 x1 x2 x3 x4 d = some z) (hkb5 : ∀ (y3 : Int32) (y4 : Int32) (d : Dt), kb5 y3 y4 d = some z → ∀ (H : Heap) (locs : List Loc) (ls : Array Slot), lv_has ls 6 [(0, .ref (ad x0)), (1, .int x1), (2, .int x2), (3, .int y3), (4, .int y4)] → aw_G D cA base ad σ d s H locs → W p l e rm_X11_tones s m args below meth c H locs 0 0 (aw_Ei D cA base ad σ below args s z) (F0 m 5 ls [])) {H : Heap} {locs : List Loc} {ls : Array Slot} (hl : lv_has ls 6 [(0, .ref (ad x0)), (1, .int x1), (2, .int x2), (3, .int x3), (4, .int x4)]) (G : aw_G D cA base ad σ d s H locs) : W p l e rm_X11_tones s m args below meth c H locs 0 0 (aw_Ei D cA base ad σ below args s z) (F0 m 75 ls []) := by
  have hx := X.1; have hb := X.2.1; have hml := X.2.2.1; have hown := X.2.2.2.1
  unfold f_X11_tones_J75 at hf
  refine lv_iconst (v := (0 : Int32)) hx hb dX11_tones_75 (by decide) ?_
  exact w_X11_tones_J76 X hf hkb5 (lv_sub hl [0, 1, 2, 3, 4] rfl) G
set_option maxHeartbeats 4000000 in
set_option maxRecDepth 100000 in
theorem w_X11_tones_B5 {z : Int32 × Dt} (X : aw_X p c cX11_tones 6 s RX11 m meth (some .int)) {kb5 : Int32 → Int32 → Dt → Option (Int32 × Dt)} {k5 : Int32 → Dt → Option (Int32 × Dt)} {x0 : Nat} {x1 : Int32} {x2 : Int32} {x3 : Int32} {x4 : Int32} {d : Dt} (hf : f_X11_tones_B5 σ kb5 k5 x0 x1 x2 x3 x4 d = some z) (hkb5 : ∀ (y3 : Int32) (y4 : Int32) (d : Dt), kb5 y3 y4 d = some z → ∀ (H : Heap) (locs : List Loc) (ls : Array Slot), lv_has ls 6 [(0, .ref (ad x0)), (1, .int x1), (2, .int x2), (3, .int y3), (4, .int y4)] → aw_G D cA base ad σ d s H locs → W p l e rm_X11_tones s m args below meth c H locs 0 0 (aw_Ei D cA base ad σ below args s z) (F0 m 5 ls [])) (hk5 : ∀ (y3 : Int32) (d : Dt), k5 y3 d = some z → ∀ (H : Heap) (locs : List Loc) (ls : Array Slot), lv_has ls 6 [(3, .int y3)] → aw_G D cA base ad σ d s H locs → W p l e rm_X11_tones s m args below meth c H locs 0 0 (aw_Ei D cA base ad σ below args s z) (F0 m 97 ls [])) {H : Heap} {locs : List Loc} {ls : Array Slot} (hl : lv_has ls 6 [(0, .ref (ad x0)), (1, .int x1), (2, .int x2), (3, .int x3), (4, .int x4)]) (G : aw_G D cA base ad σ d s H locs) : W p l e rm_X11_tones s m args below meth c H locs 0 0 (aw_Ei D cA base ad σ below args s z) (F0 m 5 ls []) := by
  have hx := X.1; have hb := X.2.1; have hml := X.2.2.1; have hown := X.2.2.2.1
  unfold f_X11_tones_B5 at hf
  refine lv_iload hx hb dX11_tones_5 (lv_at hl 4 rfl) ?_
  refine lv_iconst (v := (3 : Int32)) hx hb dX11_tones_7 (by decide) ?_
  refine lv_icmp_ge (tgt := 97) hx hb dX11_tones_8 (by decide) (fun hc => ?_) (fun hc => ?_)
  · have hf := aw_ite_t hc hf
    exact hk5 _ _ hf _ _ _ (lv_sub hl [3] rfl) G
  · have hf := aw_ite_f hc hf
    refine lv_iload_n hx hb dX11_tones_11 rfl (lv_at hl 2 rfl) ?_
    refine lv_iconst (v := (-1 : Int32)) hx hb dX11_tones_12 (by decide) ?_
    refine lv_icmp_ne (tgt := 38) hx hb dX11_tones_13 (by decide) (fun hc => ?_) (fun hc => ?_)
    · have hf := aw_ite_f hc hf
      refine lv_aload_n hx hb dX11_tones_38 rfl (lv_at hl 0 rfl) ?_
      obtain ⟨hc_1, hf⟩ := aw_chk_some hf
      obtain ⟨q_2, hq_3, hf⟩ := aw_bind_some hf
      refine gf_X11_47 hx hb G hown hc_1 hq_3 dX11_tones_39 ?_
      refine lv_iconst (v := (3 : Int32)) hx hb dX11_tones_42 (by decide) ?_
      refine lv_iload_n hx hb dX11_tones_43 rfl (lv_at hl 1 rfl) ?_
      refine lv_imul hx hb dX11_tones_44 ?_
      refine lv_iload hx hb dX11_tones_45 (lv_at hl 4 rfl) ?_
      refine lv_iadd hx hb dX11_tones_47 ?_
      obtain ⟨hc_4, hf⟩ := aw_chk_some hf
      refine aw_zal hx hb G hc_4 dX11_tones_48 ?_
      refine lv_if_eq (tgt := 75) hx hb dX11_tones_49 (by decide) (fun hc => ?_) (fun hc => ?_)
      · have hf := aw_ite_t hc hf
        exact w_X11_tones_J75 X hf hkb5 (lv_sub hl [0, 1, 2, 3, 4] rfl) G
      · have hf := aw_ite_f hc hf
        refine lv_aload_n hx hb dX11_tones_52 rfl (lv_at hl 0 rfl) ?_
        obtain ⟨q_5, hq_6, hf⟩ := aw_bind_some hf
        refine gf_X11_44 hx hb G hown hc_1 hq_6 dX11_tones_53 ?_
        refine lv_bipush (v := (47 : Int32)) hx hb dX11_tones_56 (by decide) ?_
        refine lv_iload_n hx hb dX11_tones_58 rfl (lv_at hl 1 rfl) ?_
        refine lv_imul hx hb dX11_tones_59 ?_
        refine lv_bipush (v := (44 : Int32)) hx hb dX11_tones_60 (by decide) ?_
        refine lv_iadd hx hb dX11_tones_62 ?_
        refine lv_iload hx hb dX11_tones_63 (lv_at hl 4 rfl) ?_
        refine lv_iadd hx hb dX11_tones_65 ?_
        obtain ⟨hc_7, hf⟩ := aw_chk_some hf
        refine aw_ial hx hb G hc_7 dX11_tones_66 ?_
        refine lv_iload_n hx hb dX11_tones_67 rfl (lv_at hl 2 rfl) ?_
        refine lv_icmp_ne (tgt := 75) hx hb dX11_tones_68 (by decide) (fun hc => ?_) (fun hc => ?_)
        · have hf := aw_ite_f hc hf
          exact w_X11_tones_J75 X hf hkb5 (lv_sub hl [0, 1, 2, 3, 4] rfl) G
        · have hf := aw_ite_t hc hf
          refine lv_iconst (v := (1 : Int32)) hx hb dX11_tones_71 (by decide) ?_
          refine lv_goto (tgt := 76) hx hb dX11_tones_72 (by decide) ?_
          exact w_X11_tones_J76 X hf hkb5 (lv_sub hl [0, 1, 2, 3, 4] rfl) G
    · have hf := aw_ite_t hc hf
      refine lv_aload_n hx hb dX11_tones_16 rfl (lv_at hl 0 rfl) ?_
      obtain ⟨hc_8, hf⟩ := aw_chk_some hf
      obtain ⟨q_9, hq_10, hf⟩ := aw_bind_some hf
      refine gf_X11_47 hx hb G hown hc_8 hq_10 dX11_tones_17 ?_
      refine lv_iconst (v := (3 : Int32)) hx hb dX11_tones_20 (by decide) ?_
      refine lv_iload_n hx hb dX11_tones_21 rfl (lv_at hl 1 rfl) ?_
      refine lv_imul hx hb dX11_tones_22 ?_
      refine lv_iload hx hb dX11_tones_23 (lv_at hl 4 rfl) ?_
      refine lv_iadd hx hb dX11_tones_25 ?_
      obtain ⟨hc_11, hf⟩ := aw_chk_some hf
      refine aw_zal hx hb G hc_11 dX11_tones_26 ?_
      refine lv_if_ne (tgt := 34) hx hb dX11_tones_27 (by decide) (fun hc => ?_) (fun hc => ?_)
      · have hf := aw_ite_f hc hf
        refine lv_iconst (v := (0 : Int32)) hx hb dX11_tones_34 (by decide) ?_
        refine lv_goto (tgt := 76) hx hb dX11_tones_35 (by decide) ?_
        exact w_X11_tones_J76 X hf hkb5 (lv_sub hl [0, 1, 2, 3, 4] rfl) G
      · have hf := aw_ite_t hc hf
        refine lv_iconst (v := (1 : Int32)) hx hb dX11_tones_30 (by decide) ?_
        refine lv_goto (tgt := 76) hx hb dX11_tones_31 (by decide) ?_
        exact w_X11_tones_J76 X hf hkb5 (lv_sub hl [0, 1, 2, 3, 4] rfl) G
theorem w_X11_tones_L5 {z : Int32 × Dt} (X : aw_X p c cX11_tones 6 s RX11 m meth (some .int)) {k5 : Int32 → Dt → Option (Int32 × Dt)} {x0 : Nat} {x1 : Int32} {x2 : Int32} (n : Nat) {x3 : Int32} {x4 : Int32} {d : Dt} (hf : f_X11_tones_L5 σ n k5 x0 x1 x2 x3 x4 d = some z) (hk5 : ∀ (y3 : Int32) (d : Dt), k5 y3 d = some z → ∀ (H : Heap) (locs : List Loc) (ls : Array Slot), lv_has ls 6 [(3, .int y3)] → aw_G D cA base ad σ d s H locs → W p l e rm_X11_tones s m args below meth c H locs 0 0 (aw_Ei D cA base ad σ below args s z) (F0 m 97 ls [])) {H : Heap} {locs : List Loc} {ls : Array Slot} (hl : lv_has ls 6 [(0, .ref (ad x0)), (1, .int x1), (2, .int x2), (3, .int x3), (4, .int x4)]) (G : aw_G D cA base ad σ d s H locs) : W p l e rm_X11_tones s m args below meth c H locs 0 0 (aw_Ei D cA base ad σ below args s z) (F0 m 5 ls []) := by
  induction n generalizing x3 x4 d H locs ls with
  | zero => exact absurd (show (none : Option (Int32 × Dt)) = some z from hf) (by simp)
  | succ n ih => exact w_X11_tones_B5 X (kb5 := f_X11_tones_L5 σ n k5 x0 x1 x2) hf  (fun x3 x4 d hf H locs ls hl G => ih hf hl G) hk5 hl G
end W_X11_tones
set_option maxHeartbeats 4000000 in
set_option maxRecDepth 100000 in
theorem c_X11_tones (l : Launch) {σ : Sg} {x0 : Nat} {x1 : Int32} {x2 : Int32} {d : Dt} {z : Int32 × Dt} (hf : f_X11_tones σ x0 x1 x2 d = some z) : aw_Mi l yX11_tones (Cond.code yX11_tones cX11_tones 6 (some .int)) rm_X11_tones (fun ad => [.ref (ad x0), .int x1, .int x2]) σ d z := by
  intro D cA base ad
  refine aw_ofW (own := RX11) (cc := cX11_tones) (nL := 6) (ret := some .int) (by decide) rfl rfl ?_
  intro p e s m below meth c X hnm G
  have hx := X.1; have hb := X.2.1; have hml := X.2.2.1; have hown := X.2.2.2.1
  refine aw_ls (lv := [(0, .ref (ad x0)), (1, .int x1), (2, .int x2)]) (Nat.le_of_ble_eq_true rfl) rfl (fun ls hl => ?_)
  unfold f_X11_tones at hf
  refine lv_iconst (v := (0 : Int32)) hx hb dX11_tones_0 (by decide) ?_
  refine lv_istore_n (lv' := [(3, .int ((0 : Int32))), (0, .ref (ad x0)), (1, .int x1), (2, .int x2)]) hx hb dX11_tones_1 rfl hl (by decide) rfl (fun ls hl => ?_)
  refine lv_iconst (v := (0 : Int32)) hx hb dX11_tones_2 (by decide) ?_
  refine lv_istore (lv' := [(4, .int ((0 : Int32))), (3, .int ((0 : Int32))), (0, .ref (ad x0)), (1, .int x1), (2, .int x2)]) hx hb dX11_tones_3 hl (by decide) rfl (fun ls hl => ?_)
  refine w_X11_tones_L5 X aw_FU hf  (fun x3_12 d_13 hf H locs ls hl G => ?_) (lv_sub hl [2, 3, 4, 1, 0] rfl) G
  refine lv_iload_n hx hb dX11_tones_97 rfl (lv_at hl 0 rfl) ?_
  exact aw_reti X G hf dX11_tones_98
