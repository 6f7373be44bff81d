/-! X11_travels X11_travel X11_swaps X11_exchange X11_group X11_scoreOf X11_score X11_isFor X11_votes X11_elected -/
def rm_X11_travels : Room := { frames := 0, cells := 0, slots := 0, locals := 0 }
def f_X11_travels_J95 (σ : Sg) (kb20 : Int32 → Int32 → Dt → Option (Int32 × Dt)) (t2 : Int32) (t1 : Int32) (t0 : Int32) (x0 : Nat) (x1 : Int32) (x3 : Int32) (x4 : Int32) (d : Dt) : Option (Int32 × Dt) :=
  kb20 (t0 + (t1 * t2)) (x4 + 1) d
def f_X11_travels_B20 (σ : Sg) (kb20 : Int32 → Int32 → Dt → Option (Int32 × Dt)) (k20 : Int32 → Dt → Option (Int32 × Dt)) (x0 : Nat) (x1 : Int32) (x3 : Int32) (x2 : Int32) (x4 : Int32) (d : Dt) : Option (Int32 × Dt) :=
  aw_chk (aw_O σ 11 32 x0) ((σ.2.2 x0 22).bind (fun q_3 => aw_chk (aw_I σ 20 q_3 x3) (if ((((16 : Int32)) * x3) + (d.1 q_3 x3.toNatClampNeg)) ≤ x4 then k20 x2 d else (σ.2.2 x0 16).bind (fun q_6 => (σ.2.2 x0 21).bind (fun q_8 => aw_chk (aw_I σ 20 q_8 x4) (aw_chk (aw_I σ 20 q_6 ((((50 : Int32)) * x1) + (d.1 q_8 x4.toNatClampNeg))) (aw_chk (aw_I σ 20 q_8 (x4 - ((1 : Int32)))) (aw_chk (aw_I σ 20 q_6 ((((50 : Int32)) * x1) + (d.1 q_8 (x4 - ((1 : Int32))).toNatClampNeg))) ((σ.2.2 x0 5).bind (fun q_14 => aw_chk (aw_I σ 20 q_14 x3) (if 0 ≤ ((d.1 q_6 ((((50 : Int32)) * x1) + (d.1 q_8 x4.toNatClampNeg)).toNatClampNeg) - (d.1 q_6 ((((50 : Int32)) * x1) + (d.1 q_8 (x4 - ((1 : Int32))).toNatClampNeg)).toNatClampNeg)) then f_X11_travels_J95 σ kb20 ((d.1 q_6 ((((50 : Int32)) * x1) + (d.1 q_8 x4.toNatClampNeg)).toNatClampNeg) - (d.1 q_6 ((((50 : Int32)) * x1) + (d.1 q_8 (x4 - ((1 : Int32))).toNatClampNeg)).toNatClampNeg)) (d.1 q_14 x3.toNatClampNeg) x2 x0 x1 x3 x4 d else f_X11_travels_J95 σ kb20 (-((d.1 q_6 ((((50 : Int32)) * x1) + (d.1 q_8 x4.toNatClampNeg)).toNatClampNeg) - (d.1 q_6 ((((50 : Int32)) * x1) + (d.1 q_8 (x4 - ((1 : Int32))).toNatClampNeg)).toNatClampNeg))) (d.1 q_14 x3.toNatClampNeg) x2 x0 x1 x3 x4 d)))))))))))
def f_X11_travels_L20 (σ : Sg) (n : Nat) (k20 : Int32 → Dt → Option (Int32 × Dt)) (x0 : Nat) (x1 : Int32) (x3 : Int32) : Int32 → Int32 → Dt → Option (Int32 × Dt) := match n with
  | 0 => fun _ _ _ => none
  | n + 1 => fun x2 x4 d => f_X11_travels_B20 σ (f_X11_travels_L20 σ n k20 x0 x1 x3) k20 x0 x1 x3 x2 x4 d
def f_X11_travels_B4 (σ : Sg) (kb4 : Int32 → Int32 → Dt → Option (Int32 × Dt)) (k4 : Int32 → Dt → Option (Int32 × Dt)) (x0 : Nat) (x1 : Int32) (x2 : Int32) (x3 : Int32) (d : Dt) : Option (Int32 × Dt) :=
  aw_chk (aw_O σ 11 32 x0) (if (d.1 x0 2) ≤ x3 then k4 x2 d else f_X11_travels_L20 σ aw_FU (fun x2_17 d_18 => kb4 x2_17 (x3 + 1) d_18) x0 x1 x3 x2 ((((16 : Int32)) * x3) + ((1 : Int32))) d)
def f_X11_travels_L4 (σ : Sg) (n : Nat) (k4 : Int32 → Dt → Option (Int32 × Dt)) (x0 : Nat) (x1 : Int32) : Int32 → Int32 → Dt → Option (Int32 × Dt) := match n with
  | 0 => fun _ _ _ => none
  | n + 1 => fun x2 x3 d => f_X11_travels_B4 σ (f_X11_travels_L4 σ n k4 x0 x1) k4 x0 x1 x2 x3 d
def f_X11_travels (σ : Sg) (x0 : Nat) (x1 : Int32) (d : Dt) : Option (Int32 × Dt) :=
  f_X11_travels_L4 σ aw_FU (fun x2_19 d_20 => some (x2_19, d_20)) x0 x1 ((0 : Int32)) ((0 : Int32)) d
section W_X11_travels
variable {p : Program} {l : Launch} {e : Env} {s : State} {m : MethodId} {args : Array Value} {below : List Frame} {meth : Method} {c : Code}
variable {D : va_G} {cA : Nat → ClassId} {base : Nat} {ad : Nat → Nat} {σ : Sg}
set_option maxHeartbeats 4000000 in
set_option maxRecDepth 100000 in
theorem w_X11_travels_J95 {z : Int32 × Dt} (X : aw_X p c cX11_travels 6 s RX11 m meth (some .int)) {kb20 : Int32 → Int32 → Dt → Option (Int32 × Dt)} {t2 : Int32} {t1 : Int32} {t0 : Int32} {x0 : Nat} {x1 : Int32} {x3 : Int32} {x4 : Int32} {d : Dt} (hf : f_X11_travels_J95 σ kb20 t2 t1 t0 x0 x1 x3 x4 d = some z) (hkb20 : ∀ (y2 : Int32) (y4 : Int32) (d : Dt), kb20 y2 y4 d = some z → ∀ (H : Heap) (locs : List Loc) (ls : Array Slot), lv_has ls 6 [(0, .ref (ad x0)), (1, .int x1), (2, .int y2), (3, .int x3), (4, .int y4)] → aw_G D cA base ad σ d s H locs → W p l e rm_X11_travels s m args below meth c H locs 0 0 (aw_Ei D cA base ad σ below args s z) (F0 m 20 ls [])) {H : Heap} {locs : List Loc} {ls : Array Slot} (hl : lv_has ls 6 [(0, .ref (ad x0)), (1, .int x1), (3, .int x3), (4, .int x4)]) (G : aw_G D cA base ad σ d s H locs) : W p l e rm_X11_travels s m args below meth c H locs 0 0 (aw_Ei D cA base ad σ below args s z) (F0 m 95 ls [.int t2, .int t1, .int t0]) := by
  have hx := X.1; have hb := X.2.1; have hml := X.2.2.1; have hown := X.2.2.2.1
  unfold f_X11_travels_J95 at hf
  refine lv_imul hx hb dX11_travels_95 ?_
  refine lv_iadd hx hb dX11_travels_96 ?_
  refine lv_istore_n (lv' := [(2, .int (t0 + (t1 * t2))), (0, .ref (ad x0)), (1, .int x1), (3, .int x3), (4, .int x4)]) hx hb dX11_travels_97 rfl hl (by decide) rfl (fun ls hl => ?_)
  refine lv_iinc (v := x4 + 1) (lv' := [(4, .int (x4 + 1)), (2, .int (t0 + (t1 * t2))), (0, .ref (ad x0)), (1, .int x1), (3, .int x3)]) hx hb dX11_travels_98 hl (k := 4) rfl rfl (by decide) rfl (fun ls hl => ?_)
  refine lv_goto (tgt := 20) hx hb dX11_travels_101 (by decide) ?_
  exact hkb20 _ _ _ hf _ _ _ (lv_sub hl [2, 3, 1, 4, 0] rfl) G
set_option maxHeartbeats 4000000 in
set_option maxRecDepth 100000 in
theorem w_X11_travels_B20 {z : Int32 × Dt} (X : aw_X p c cX11_travels 6 s RX11 m meth (some .int)) {kb20 : Int32 → Int32 → Dt → Option (Int32 × Dt)} {k20 : Int32 → Dt → Option (Int32 × Dt)} {x0 : Nat} {x1 : Int32} {x3 : Int32} {x2 : Int32} {x4 : Int32} {d : Dt} (hf : f_X11_travels_B20 σ kb20 k20 x0 x1 x3 x2 x4 d = some z) (hkb20 : ∀ (y2 : Int32) (y4 : Int32) (d : Dt), kb20 y2 y4 d = some z → ∀ (H : Heap) (locs : List Loc) (ls : Array Slot), lv_has ls 6 [(0, .ref (ad x0)), (1, .int x1), (2, .int y2), (3, .int x3), (4, .int y4)] → aw_G D cA base ad σ d s H locs → W p l e rm_X11_travels s m args below meth c H locs 0 0 (aw_Ei D cA base ad σ below args s z) (F0 m 20 ls [])) (hk20 : ∀ (y2 : Int32) (d : Dt), k20 y2 d = some z → ∀ (H : Heap) (locs : List Loc) (ls : Array Slot), lv_has ls 6 [(0, .ref (ad x0)), (1, .int x1), (2, .int y2), (3, .int x3)] → aw_G D cA base ad σ d s H locs → W p l e rm_X11_travels s m args below meth c H locs 0 0 (aw_Ei D cA base ad σ below args s z) (F0 m 104 ls [])) {H : Heap} {locs : List Loc} {ls : Array Slot} (hl : lv_has ls 6 [(0, .ref (ad x0)), (1, .int x1), (2, .int x2), (3, .int x3), (4, .int x4)]) (G : aw_G D cA base ad σ d s H locs) : W p l e rm_X11_travels s m args below meth c H locs 0 0 (aw_Ei D cA base ad σ below args s z) (F0 m 20 ls []) := by
  have hx := X.1; have hb := X.2.1; have hml := X.2.2.1; have hown := X.2.2.2.1
  unfold f_X11_travels_B20 at hf
  refine lv_iload hx hb dX11_travels_20 (lv_at hl 4 rfl) ?_
  refine lv_bipush (v := (16 : Int32)) hx hb dX11_travels_22 (by decide) ?_
  refine lv_iload_n hx hb dX11_travels_24 rfl (lv_at hl 3 rfl) ?_
  refine lv_imul hx hb dX11_travels_25 ?_
  refine lv_aload_n hx hb dX11_travels_26 rfl (lv_at hl 0 rfl) ?_
  obtain ⟨hc_2, hf⟩ := aw_chk_some hf
  obtain ⟨q_3, hq_4, hf⟩ := aw_bind_some hf
  refine gf_X11_68 hx hb G hown hc_2 hq_4 dX11_travels_27 ?_
  refine lv_iload_n hx hb dX11_travels_30 rfl (lv_at hl 3 rfl) ?_
  obtain ⟨hc_5, hf⟩ := aw_chk_some hf
  refine aw_ial hx hb G hc_5 dX11_travels_31 ?_
  refine lv_iadd hx hb dX11_travels_32 ?_
  refine lv_icmp_ge (tgt := 104) hx hb dX11_travels_33 (by decide) (fun hc => ?_) (fun hc => ?_)
  · have hf := aw_ite_t hc hf
    exact hk20 _ _ hf _ _ _ (lv_sub hl [0, 1, 2, 3] rfl) G
  · have hf := aw_ite_f hc hf
    refine lv_aload_n hx hb dX11_travels_36 rfl (lv_at hl 0 rfl) ?_
    obtain ⟨q_6, hq_7, hf⟩ := aw_bind_some hf
    refine gf_X11_50 hx hb G hown hc_2 hq_7 dX11_travels_37 ?_
    refine lv_bipush (v := (50 : Int32)) hx hb dX11_travels_40 (by decide) ?_
    refine lv_iload_n hx hb dX11_travels_42 rfl (lv_at hl 1 rfl) ?_
    refine lv_imul hx hb dX11_travels_43 ?_
    refine lv_aload_n hx hb dX11_travels_44 rfl (lv_at hl 0 rfl) ?_
    obtain ⟨q_8, hq_9, hf⟩ := aw_bind_some hf
    refine gf_X11_65 hx hb G hown hc_2 hq_9 dX11_travels_45 ?_
    refine lv_iload hx hb dX11_travels_48 (lv_at hl 4 rfl) ?_
    obtain ⟨hc_10, hf⟩ := aw_chk_some hf
    refine aw_ial hx hb G hc_10 dX11_travels_50 ?_
    refine lv_iadd hx hb dX11_travels_51 ?_
    obtain ⟨hc_11, hf⟩ := aw_chk_some hf
    refine aw_ial hx hb G hc_11 dX11_travels_52 ?_
    refine lv_aload_n hx hb dX11_travels_53 rfl (lv_at hl 0 rfl) ?_
    refine gf_X11_50 hx hb G hown hc_2 hq_7 dX11_travels_54 ?_
    refine lv_bipush (v := (50 : Int32)) hx hb dX11_travels_57 (by decide) ?_
    refine lv_iload_n hx hb dX11_travels_59 rfl (lv_at hl 1 rfl) ?_
    refine lv_imul hx hb dX11_travels_60 ?_
    refine lv_aload_n hx hb dX11_travels_61 rfl (lv_at hl 0 rfl) ?_
    refine gf_X11_65 hx hb G hown hc_2 hq_9 dX11_travels_62 ?_
    refine lv_iload hx hb dX11_travels_65 (lv_at hl 4 rfl) ?_
    refine lv_iconst (v := (1 : Int32)) hx hb dX11_travels_67 (by decide) ?_
    refine lv_isub hx hb dX11_travels_68 ?_
    obtain ⟨hc_12, hf⟩ := aw_chk_some hf
    refine aw_ial hx hb G hc_12 dX11_travels_69 ?_
    refine lv_iadd hx hb dX11_travels_70 ?_
    obtain ⟨hc_13, hf⟩ := aw_chk_some hf
    refine aw_ial hx hb G hc_13 dX11_travels_71 ?_
    refine lv_isub hx hb dX11_travels_72 ?_
    refine lv_istore (lv' := [(5, .int ((d.1 q_6 ((((50 : Int32)) * x1) + (d.1 q_8 x4.toNatClampNeg)).toNatClampNeg) - (d.1 q_6 ((((50 : Int32)) * x1) + (d.1 q_8 (x4 - ((1 : Int32))).toNatClampNeg)).toNatClampNeg))), (0, .ref (ad x0)), (1, .int x1), (2, .int x2), (3, .int x3), (4, .int x4)]) hx hb dX11_travels_73 hl (by decide) rfl (fun ls hl => ?_)
    refine lv_iload_n hx hb dX11_travels_75 rfl (lv_at hl 3 rfl) ?_
    refine lv_aload_n hx hb dX11_travels_76 rfl (lv_at hl 1 rfl) ?_
    obtain ⟨q_14, hq_15, hf⟩ := aw_bind_some hf
    refine gf_X11_19 hx hb G hown hc_2 hq_15 dX11_travels_77 ?_
    refine lv_iload_n hx hb dX11_travels_80 rfl (lv_at hl 4 rfl) ?_
    obtain ⟨hc_16, hf⟩ := aw_chk_some hf
    refine aw_ial hx hb G hc_16 dX11_travels_81 ?_
    refine lv_iload hx hb dX11_travels_82 (lv_at hl 0 rfl) ?_
    refine lv_if_ge (tgt := 93) hx hb dX11_travels_84 (by decide) (fun hc => ?_) (fun hc => ?_)
    · have hf := aw_ite_t hc hf
      refine lv_iload hx hb dX11_travels_93 (lv_at hl 0 rfl) ?_
      exact w_X11_travels_J95 X hf hkb20 (lv_sub hl [1, 2, 4, 5] rfl) G
    · have hf := aw_ite_f hc hf
      refine lv_iload hx hb dX11_travels_87 (lv_at hl 0 rfl) ?_
      refine lv_ineg hx hb dX11_travels_89 ?_
      refine lv_goto (tgt := 95) hx hb dX11_travels_90 (by decide) ?_
      exact w_X11_travels_J95 X hf hkb20 (lv_sub hl [1, 2, 4, 5] rfl) G
theorem w_X11_travels_L20 {z : Int32 × Dt} (X : aw_X p c cX11_travels 6 s RX11 m meth (some .int)) {k20 : Int32 → Dt → Option (Int32 × Dt)} {x0 : Nat} {x1 : Int32} {x3 : Int32} (n : Nat) {x2 : Int32} {x4 : Int32} {d : Dt} (hf : f_X11_travels_L20 σ n k20 x0 x1 x3 x2 x4 d = some z) (hk20 : ∀ (y2 : Int32) (d : Dt), k20 y2 d = some z → ∀ (H : Heap) (locs : List Loc) (ls : Array Slot), lv_has ls 6 [(0, .ref (ad x0)), (1, .int x1), (2, .int y2), (3, .int x3)] → aw_G D cA base ad σ d s H locs → W p l e rm_X11_travels s m args below meth c H locs 0 0 (aw_Ei D cA base ad σ below args s z) (F0 m 104 ls [])) {H : Heap} {locs : List Loc} {ls : Array Slot} (hl : lv_has ls 6 [(0, .ref (ad x0)), (1, .int x1), (2, .int x2), (3, .int x3), (4, .int x4)]) (G : aw_G D cA base ad σ d s H locs) : W p l e rm_X11_travels s m args below meth c H locs 0 0 (aw_Ei D cA base ad σ below args s z) (F0 m 20 ls []) := by
  induction n generalizing x2 x4 d H locs ls with
  | zero => exact absurd (show (none : Option (Int32 × Dt)) = some z from hf) (by simp)
  | succ n ih => exact w_X11_travels_B20 X (kb20 := f_X11_travels_L20 σ n k20 x0 x1 x3) hf  (fun x2 x4 d hf H locs ls hl G => ih hf hl G) hk20 hl G
set_option maxHeartbeats 4000000 in
set_option maxRecDepth 100000 in
theorem w_X11_travels_B4 {z : Int32 × Dt} (X : aw_X p c cX11_travels 6 s RX11 m meth (some .int)) {kb4 : Int32 → Int32 → Dt → Option (Int32 × Dt)} {k4 : Int32 → Dt → Option (Int32 × Dt)} {x0 : Nat} {x1 : Int32} {x2 : Int32} {x3 : Int32} {d : Dt} (hf : f_X11_travels_B4 σ kb4 k4 x0 x1 x2 x3 d = some z) (hkb4 : ∀ (y2 : Int32) (y3 : Int32) (d : Dt), kb4 y2 y3 d = some z → ∀ (H : Heap) (locs : List Loc) (ls : Array Slot), lv_has ls 6 [(0, .ref (ad x0)), (1, .int x1), (2, .int y2), (3, .int y3)] → aw_G D cA base ad σ d s H locs → W p l e rm_X11_travels s m args below meth c H locs 0 0 (aw_Ei D cA base ad σ below args s z) (F0 m 4 ls [])) (hk4 : ∀ (y2 : Int32) (d : Dt), k4 y2 d = some z → ∀ (H : Heap) (locs : List Loc) (ls : Array Slot), lv_has ls 6 [(2, .int y2)] → aw_G D cA base ad σ d s H locs → W p l e rm_X11_travels s m args below meth c H locs 0 0 (aw_Ei D cA base ad σ below args s z) (F0 m 110 ls [])) {H : Heap} {locs : List Loc} {ls : Array Slot} (hl : lv_has ls 6 [(0, .ref (ad x0)), (1, .int x1), (2, .int x2), (3, .int x3)]) (G : aw_G D cA base ad σ d s H locs) : W p l e rm_X11_travels s m args below meth c H locs 0 0 (aw_Ei D cA base ad σ below args s z) (F0 m 4 ls []) := by
  have hx := X.1; have hb := X.2.1; have hml := X.2.2.1; have hown := X.2.2.2.1
  unfold f_X11_travels_B4 at hf
  refine lv_iload_n hx hb dX11_travels_4 rfl (lv_at hl 3 rfl) ?_
  refine lv_aload_n hx hb dX11_travels_5 rfl (lv_at hl 0 rfl) ?_
  obtain ⟨hc_1, hf⟩ := aw_chk_some hf
  refine gf_X11_100 hx hb G hown hc_1 dX11_travels_6 ?_
  refine lv_icmp_ge (tgt := 110) hx hb dX11_travels_9 (by decide) (fun hc => ?_) (fun hc => ?_)
  · have hf := aw_ite_t hc hf
    exact hk4 _ _ hf _ _ _ (lv_sub hl [2] rfl) G
  · have hf := aw_ite_f hc hf
    refine lv_bipush (v := (16 : Int32)) hx hb dX11_travels_12 (by decide) ?_
    refine lv_iload_n hx hb dX11_travels_14 rfl (lv_at hl 3 rfl) ?_
    refine lv_imul hx hb dX11_travels_15 ?_
    refine lv_iconst (v := (1 : Int32)) hx hb dX11_travels_16 (by decide) ?_
    refine lv_iadd hx hb dX11_travels_17 ?_
    refine lv_istore (lv' := [(4, .int ((((16 : Int32)) * x3) + ((1 : Int32)))), (0, .ref (ad x0)), (1, .int x1), (2, .int x2), (3, .int x3)]) hx hb dX11_travels_18 hl (by decide) rfl (fun ls hl => ?_)
    refine w_X11_travels_L20 X aw_FU hf  (fun x2_17 d_18 hf H locs ls hl G => ?_) (lv_sub hl [1, 2, 3, 4, 0] rfl) G
    refine lv_iinc (v := x3 + 1) (lv' := [(3, .int (x3 + 1)), (0, .ref (ad x0)), (1, .int x1), (2, .int x2_17)]) hx hb dX11_travels_104 hl (k := 3) rfl rfl (by decide) rfl (fun ls hl => ?_)
    refine lv_goto (tgt := 4) hx hb dX11_travels_107 (by decide) ?_
    exact hkb4 _ _ _ hf _ _ _ (lv_sub hl [1, 2, 3, 0] rfl) G
theorem w_X11_travels_L4 {z : Int32 × Dt} (X : aw_X p c cX11_travels 6 s RX11 m meth (some .int)) {k4 : Int32 → Dt → Option (Int32 × Dt)} {x0 : Nat} {x1 : Int32} (n : Nat) {x2 : Int32} {x3 : Int32} {d : Dt} (hf : f_X11_travels_L4 σ n k4 x0 x1 x2 x3 d = some z) (hk4 : ∀ (y2 : Int32) (d : Dt), k4 y2 d = some z → ∀ (H : Heap) (locs : List Loc) (ls : Array Slot), lv_has ls 6 [(2, .int y2)] → aw_G D cA base ad σ d s H locs → W p l e rm_X11_travels s m args below meth c H locs 0 0 (aw_Ei D cA base ad σ below args s z) (F0 m 110 ls [])) {H : Heap} {locs : List Loc} {ls : Array Slot} (hl : lv_has ls 6 [(0, .ref (ad x0)), (1, .int x1), (2, .int x2), (3, .int x3)]) (G : aw_G D cA base ad σ d s H locs) : W p l e rm_X11_travels s m args below meth c H locs 0 0 (aw_Ei D cA base ad σ below args s z) (F0 m 4 ls []) := by
  induction n generalizing x2 x3 d H locs ls with
  | zero => exact absurd (show (none : Option (Int32 × Dt)) = some z from hf) (by simp)
  | succ n ih => exact w_X11_travels_B4 X (kb4 := f_X11_travels_L4 σ n k4 x0 x1) hf  (fun x2 x3 d hf H locs ls hl G => ih hf hl G) hk4 hl G
end W_X11_travels
set_option maxHeartbeats 4000000 in
set_option maxRecDepth 100000 in
theorem c_X11_travels (l : Launch) {σ : Sg} {x0 : Nat} {x1 : Int32} {d : Dt} {z : Int32 × Dt} (hf : f_X11_travels σ x0 x1 d = some z) : aw_Mi l yX11_travels (Cond.code yX11_travels cX11_travels 6 (some .int)) rm_X11_travels (fun ad => [.ref (ad x0), .int x1]) σ d z := by
  intro D cA base ad
  refine aw_ofW (own := RX11) (cc := cX11_travels) (nL := 6) (ret := some .int) (by decide) rfl rfl ?_
  intro p e s m below meth c X hnm G
  have hx := X.1; have hb := X.2.1; have hml := X.2.2.1; have hown := X.2.2.2.1
  refine aw_ls (lv := [(0, .ref (ad x0)), (1, .int x1)]) (Nat.le_of_ble_eq_true rfl) rfl (fun ls hl => ?_)
  unfold f_X11_travels at hf
  refine lv_iconst (v := (0 : Int32)) hx hb dX11_travels_0 (by decide) ?_
  refine lv_istore_n (lv' := [(2, .int ((0 : Int32))), (0, .ref (ad x0)), (1, .int x1)]) hx hb dX11_travels_1 rfl hl (by decide) rfl (fun ls hl => ?_)
  refine lv_iconst (v := (0 : Int32)) hx hb dX11_travels_2 (by decide) ?_
  refine lv_istore_n (lv' := [(3, .int ((0 : Int32))), (2, .int ((0 : Int32))), (0, .ref (ad x0)), (1, .int x1)]) hx hb dX11_travels_3 rfl hl (by decide) rfl (fun ls hl => ?_)
  refine w_X11_travels_L4 X aw_FU hf  (fun x2_19 d_20 hf H locs ls hl G => ?_) (lv_sub hl [2, 3, 1, 0] rfl) G
  refine lv_iload_n hx hb dX11_travels_110 rfl (lv_at hl 0 rfl) ?_
  exact aw_reti X G hf dX11_travels_111
def rm_X11_travel : Room := { frames := 4, cells := 0, slots := 0, locals := 100 }
def f_X11_travel_J14 (σ : Sg) (t1 : Int32) (t0 : Nat) (x0 : Nat) (x1 : Int32) (d : Dt) : Option (Int32 × Dt) :=
  aw_chk (aw_O σ 11 32 t0) ((f_X11_fails σ t0 t1 d).bind (fun z_4 => if z_4.1 = 0 then aw_chk (aw_O σ 11 32 x0) ((σ.2.2 x0 13).bind (fun q_8 => aw_chk (aw_I σ 20 q_8 x1) ((f_X11_spellsAll σ x0 x1 (z_4.2.1 q_8 x1.toNatClampNeg) ((0 : Int32)) z_4.2).bind (fun z_11 => (f_X11_travels σ x0 x1 z_11.2).bind (fun z_13 => some (z_13.1, z_13.2)))))) else some ((0 : Int32), z_4.2)))
def f_X11_travel (σ : Sg) (x0 : Nat) (x1 : Int32) (d : Dt) : Option (Int32 × Dt) :=
  aw_chk (aw_O σ 11 32 x0) ((f_X11_isDesign σ x0 x1 d).bind (fun z_1 => if z_1.1 = 0 then f_X11_travel_J14 σ ((1 : Int32)) x0 x0 x1 z_1.2 else f_X11_travel_J14 σ ((0 : Int32)) x0 x0 x1 z_1.2))
section W_X11_travel
variable {p : Program} {l : Launch} {e : Env} {s : State} {m : MethodId} {args : Array Value} {below : List Frame} {meth : Method} {c : Code}
variable {D : va_G} {cA : Nat → ClassId} {base : Nat} {ad : Nat → Nat} {σ : Sg}
set_option maxHeartbeats 4000000 in
set_option maxRecDepth 100000 in
theorem w_X11_travel_J14 {z : Int32 × Dt} (X : aw_X p c cX11_travel 2 s RX11 m meth (some .int)) {t1 : Int32} {t0 : Nat} {x0 : Nat} {x1 : Int32} {d : Dt} (hf : f_X11_travel_J14 σ t1 t0 x0 x1 d = some z)  {H : Heap} {locs : List Loc} {ls : Array Slot} (hl : lv_has ls 2 [(0, .ref (ad x0)), (1, .int x1)]) (G : aw_G D cA base ad σ d s H locs) : W p l e rm_X11_travel s m args below meth c H locs 0 0 (aw_Ei D cA base ad σ below args s z) (F0 m 14 ls [.int t1, .ref (ad t0)]) := by
  have hx := X.1; have hb := X.2.1; have hml := X.2.2.1; have hown := X.2.2.2.1
  unfold f_X11_travel_J14 at hf
  obtain ⟨hc_6, hf⟩ := aw_chk_some hf
  obtain ⟨z_4, hz_5, hf⟩ := aw_bind_some hf
  refine aw_VI (As := [.int t1]) (rest := []) X G hl.1 cr_X11_113 (c_X11_fails l hz_5) ⟨rfl, rfl⟩ rfl rfl rfl (by decide) hc_6 rfl ⟨Nat.le_of_ble_eq_true rfl, Nat.le_of_ble_eq_true rfl⟩ (Nat.le_of_ble_eq_true rfl) dX11_travel_14 ⟨Nat.zero_le _, Nat.zero_le _⟩ (fun H locs G => ?_)
  refine lv_if_eq (tgt := 22) hx hb dX11_travel_17 (by decide) (fun hc => ?_) (fun hc => ?_)
  · have hf := aw_ite_t hc hf
    refine lv_aload_n hx hb dX11_travel_22 rfl (lv_at hl 0 rfl) ?_
    refine lv_iload_n hx hb dX11_travel_23 rfl (lv_at hl 1 rfl) ?_
    refine lv_aload_n hx hb dX11_travel_24 rfl (lv_at hl 0 rfl) ?_
    obtain ⟨hc_7, hf⟩ := aw_chk_some hf
    obtain ⟨q_8, hq_9, hf⟩ := aw_bind_some hf
    refine gf_X11_41 hx hb G hown hc_7 hq_9 dX11_travel_25 ?_
    refine lv_iload_n hx hb dX11_travel_28 rfl (lv_at hl 1 rfl) ?_
    obtain ⟨hc_10, hf⟩ := aw_chk_some hf
    refine aw_ial hx hb G hc_10 dX11_travel_29 ?_
    refine lv_iconst (v := (0 : Int32)) hx hb dX11_travel_30 (by decide) ?_
    obtain ⟨z_11, hz_12, hf⟩ := aw_bind_some hf
    refine aw_VV (As := [.int x1, .int (z_4.2.1 q_8 x1.toNatClampNeg), .int ((0 : Int32))]) (rest := []) X G hl.1 cr_X11_156 (c_X11_spellsAll l hz_12) ⟨rfl, rfl⟩ rfl rfl rfl (by decide) hc_7 rfl ⟨Nat.le_of_ble_eq_true rfl, Nat.le_of_ble_eq_true rfl⟩ (Nat.le_of_ble_eq_true rfl) dX11_travel_31 ⟨Nat.zero_le _, Nat.zero_le _⟩ (fun H locs G => ?_)
    refine lv_aload_n hx hb dX11_travel_34 rfl (lv_at hl 0 rfl) ?_
    refine lv_iload_n hx hb dX11_travel_35 rfl (lv_at hl 1 rfl) ?_
    obtain ⟨z_13, hz_14, hf⟩ := aw_bind_some hf
    refine aw_VI (As := [.int x1]) (rest := []) X G hl.1 cr_X11_204 (c_X11_travels l hz_14) ⟨rfl, rfl⟩ rfl rfl rfl (by decide) hc_7 rfl ⟨Nat.le_of_ble_eq_true rfl, Nat.le_of_ble_eq_true rfl⟩ (Nat.le_of_ble_eq_true rfl) dX11_travel_36 ⟨Nat.zero_le _, Nat.zero_le _⟩ (fun H locs G => ?_)
    exact aw_reti X G hf dX11_travel_39
  · have hf := aw_ite_f hc hf
    refine lv_iconst (v := (0 : Int32)) hx hb dX11_travel_20 (by decide) ?_
    exact aw_reti X G hf dX11_travel_21
end W_X11_travel
set_option maxHeartbeats 4000000 in
set_option maxRecDepth 100000 in
theorem c_X11_travel (l : Launch) {σ : Sg} {x0 : Nat} {x1 : Int32} {d : Dt} {z : Int32 × Dt} (hf : f_X11_travel σ x0 x1 d = some z) : aw_Mi l yX11_travel (Cond.code yX11_travel cX11_travel 2 (some .int)) rm_X11_travel (fun ad => [.ref (ad x0), .int x1]) σ d z := by
  intro D cA base ad
  refine aw_ofW (own := RX11) (cc := cX11_travel) (nL := 2) (ret := some .int) (by decide) rfl rfl ?_
  intro p e s m below meth c X hnm G
  have hx := X.1; have hb := X.2.1; have hml := X.2.2.1; have hown := X.2.2.2.1
  refine aw_ls (lv := [(0, .ref (ad x0)), (1, .int x1)]) (Nat.le_of_ble_eq_true rfl) rfl (fun ls hl => ?_)
  unfold f_X11_travel at hf
  refine lv_aload_n hx hb dX11_travel_0 rfl (lv_at hl 0 rfl) ?_
  refine lv_aload_n hx hb dX11_travel_1 rfl (lv_at hl 0 rfl) ?_
  refine lv_iload_n hx hb dX11_travel_2 rfl (lv_at hl 1 rfl) ?_
  obtain ⟨hc_3, hf⟩ := aw_chk_some hf
  obtain ⟨z_1, hz_2, hf⟩ := aw_bind_some hf
  refine aw_VI (As := [.int x1]) (rest := [.ref (ad x0)]) X G hl.1 cr_X11_146 (c_X11_isDesign l hz_2) ⟨rfl, rfl⟩ rfl rfl rfl (by decide) hc_3 rfl ⟨Nat.le_of_ble_eq_true rfl, Nat.le_of_ble_eq_true rfl⟩ (Nat.le_of_ble_eq_true rfl) dX11_travel_3 ⟨Nat.zero_le _, Nat.zero_le _⟩ (fun H locs G => ?_)
  refine lv_if_eq (tgt := 13) hx hb dX11_travel_6 (by decide) (fun hc => ?_) (fun hc => ?_)
  · have hf := aw_ite_t hc hf
    refine lv_iconst (v := (1 : Int32)) hx hb dX11_travel_13 (by decide) ?_
    exact w_X11_travel_J14 X hf  (lv_sub hl [0, 1] rfl) G
  · have hf := aw_ite_f hc hf
    refine lv_iconst (v := (0 : Int32)) hx hb dX11_travel_9 (by decide) ?_
    refine lv_goto (tgt := 14) hx hb dX11_travel_10 (by decide) ?_
    exact w_X11_travel_J14 X hf  (lv_sub hl [0, 1] rfl) G
def rm_X11_swaps : Room := { frames := 0, cells := 0, slots := 0, locals := 0 }
def f_X11_swaps (σ : Sg) (x0 : Nat) (x1 : Int32) (x2 : Int32) (d : Dt) : Option (Unit × Dt) :=
  aw_chk (aw_O σ 11 32 x0) ((σ.2.2 x0 16).bind (fun q_2 => aw_chk (aw_I σ 20 q_2 x1) (aw_chk (aw_I σ 20 q_2 x2) (some ((), aw_sI (aw_sI d q_2 x1.toNatClampNeg (d.1 q_2 x2.toNatClampNeg)) q_2 x2.toNatClampNeg (d.1 q_2 x1.toNatClampNeg))))))
section W_X11_swaps
variable {p : Program} {l : Launch} {e : Env} {s : State} {m : MethodId} {args : Array Value} {below : List Frame} {meth : Method} {c : Code}
variable {D : va_G} {cA : Nat → ClassId} {base : Nat} {ad : Nat → Nat} {σ : Sg}
end W_X11_swaps
set_option maxHeartbeats 4000000 in
set_option maxRecDepth 100000 in
theorem c_X11_swaps (l : Launch) {σ : Sg} {x0 : Nat} {x1 : Int32} {x2 : Int32} {d : Dt} {z : Unit × Dt} (hf : f_X11_swaps σ x0 x1 x2 d = some z) : aw_Mv l yX11_swaps (Cond.code yX11_swaps cX11_swaps 4 (none)) rm_X11_swaps (fun ad => [.ref (ad x0), .int x1, .int x2]) σ d z := by
  intro D cA base ad
  refine aw_ofW (own := RX11) (cc := cX11_swaps) (nL := 4) (ret := none) (by decide) rfl rfl ?_
  intro p e s m below meth c X hnm G
  have hx := X.1; have hb := X.2.1; have hml := X.2.2.1; have hown := X.2.2.2.1
  refine aw_ls (lv := [(0, .ref (ad x0)), (1, .int x1), (2, .int x2)]) (Nat.le_of_ble_eq_true rfl) rfl (fun ls hl => ?_)
  unfold f_X11_swaps at hf
  refine lv_aload_n hx hb dX11_swaps_0 rfl (lv_at hl 0 rfl) ?_
  obtain ⟨hc_1, hf⟩ := aw_chk_some hf
  obtain ⟨q_2, hq_3, hf⟩ := aw_bind_some hf
  refine gf_X11_50 hx hb G hown hc_1 hq_3 dX11_swaps_1 ?_
  refine lv_iload_n hx hb dX11_swaps_4 rfl (lv_at hl 1 rfl) ?_
  obtain ⟨hc_4, hf⟩ := aw_chk_some hf
  refine aw_ial hx hb G hc_4 dX11_swaps_5 ?_
  refine lv_istore_n (lv' := [(3, .int (d.1 q_2 x1.toNatClampNeg)), (0, .ref (ad x0)), (1, .int x1), (2, .int x2)]) hx hb dX11_swaps_6 rfl hl (by decide) rfl (fun ls hl => ?_)
  refine lv_aload_n hx hb dX11_swaps_7 rfl (lv_at hl 1 rfl) ?_
  refine gf_X11_50 hx hb G hown hc_1 hq_3 dX11_swaps_8 ?_
  refine lv_iload_n hx hb dX11_swaps_11 rfl (lv_at hl 2 rfl) ?_
  refine lv_aload_n hx hb dX11_swaps_12 rfl (lv_at hl 1 rfl) ?_
  refine gf_X11_50 hx hb G hown hc_1 hq_3 dX11_swaps_13 ?_
  refine lv_iload_n hx hb dX11_swaps_16 rfl (lv_at hl 3 rfl) ?_
  obtain ⟨hc_5, hf⟩ := aw_chk_some hf
  refine aw_ial hx hb G hc_5 dX11_swaps_17 ?_
  refine aw_ias hx hb G hc_4 dX11_swaps_18 (fun H locs G => ?_)
  refine lv_aload_n hx hb dX11_swaps_19 rfl (lv_at hl 1 rfl) ?_
  refine gf_X11_50 hx hb G hown hc_1 hq_3 dX11_swaps_20 ?_
  refine lv_iload_n hx hb dX11_swaps_23 rfl (lv_at hl 3 rfl) ?_
  refine lv_iload_n hx hb dX11_swaps_24 rfl (lv_at hl 0 rfl) ?_
  refine aw_ias hx hb G hc_5 dX11_swaps_25 (fun H locs G => ?_)
  exact aw_retv X G hf dX11_swaps_26
def rm_X11_exchange : Room := { frames := 5, cells := 0, slots := 0, locals := 125 }
def f_X11_exchange_J164 (σ : Sg) (kb52 : Int32 → Int32 → Int32 → Dt → Option (Int32 × Dt)) (t0 : Int32) (x0 : Nat) (x1 : Int32) (x2 : Int32) (x4 : Int32) (x5 : Int32) (x6 : Int32) (d : Dt) : Option (Int32 × Dt) :=
  kb52 t0 x4 (x6 + 1) d
def f_X11_exchange_J150 (σ : Sg) (kb52 : Int32 → Int32 → Int32 → Dt → Option (Int32 × Dt)) (t0 : Int32) (x0 : Nat) (x1 : Int32) (x2 : Int32) (x3 : Int32) (x5 : Int32) (x6 : Int32) (x7 : Int32) (d : Dt) : Option (Int32 × Dt) :=
  if x3 ≤ x7 then f_X11_exchange_J164 σ kb52 x3 x0 x1 x2 t0 x5 x6 d else f_X11_exchange_J164 σ kb52 x7 x0 x1 x2 t0 x5 x6 d
def f_X11_exchange_B52 (σ : Sg) (kb52 : Int32 → Int32 → Int32 → Dt → Option (Int32 × Dt)) (k52 : Int32 → Int32 → Dt → Option (Int32 × Dt)) (x0 : Nat) (x1 : Int32) (x2 : Int32) (x5 : Int32) (x3 : Int32) (x4 : Int32) (x6 : Int32) (d : Dt) : Option (Int32 × Dt) :=
  if x2 ≤ x6 then k52 x3 x4 d else aw_chk (aw_O σ 11 32 x0) ((σ.2.2 x0 26).bind (fun q_13 => aw_chk (aw_I σ 20 q_13 x5) (aw_chk (aw_I σ 20 q_13 x6) ((f_X11_swaps σ x0 ((((50 : Int32)) * x1) + (d.1 q_13 x5.toNatClampNeg)) ((((50 : Int32)) * x1) + (d.1 q_13 x6.toNatClampNeg)) d).bind (fun z_17 => (f_X11_travels σ x0 x1 z_17.2).bind (fun z_19 => (f_X11_swaps σ x0 ((((50 : Int32)) * x1) + (z_19.2.1 q_13 x5.toNatClampNeg)) ((((50 : Int32)) * x1) + (z_19.2.1 q_13 x6.toNatClampNeg)) z_19.2).bind (fun z_21 => if x3 ≤ z_19.1 then f_X11_exchange_J150 σ kb52 x4 x0 x1 x2 x3 x5 x6 z_19.1 z_21.2 else f_X11_exchange_J150 σ kb52 ((((100 : Int32)) * (z_21.2.1 q_13 x5.toNatClampNeg)) + (z_21.2.1 q_13 x6.toNatClampNeg)) x0 x1 x2 x3 x5 x6 z_19.1 z_21.2)))))))
def f_X11_exchange_L52 (σ : Sg) (n : Nat) (k52 : Int32 → Int32 → Dt → Option (Int32 × Dt)) (x0 : Nat) (x1 : Int32) (x2 : Int32) (x5 : Int32) : Int32 → Int32 → Int32 → Dt → Option (Int32 × Dt) := match n with
  | 0 => fun _ _ _ _ => none
  | n + 1 => fun x3 x4 x6 d => f_X11_exchange_B52 σ (f_X11_exchange_L52 σ n k52 x0 x1 x2 x5) k52 x0 x1 x2 x5 x3 x4 x6 d
def f_X11_exchange_B40 (σ : Sg) (kb40 : Int32 → Int32 → Int32 → Dt → Option (Int32 × Dt)) (k40 : Int32 → Dt → Option (Int32 × Dt)) (x0 : Nat) (x1 : Int32) (x2 : Int32) (x3 : Int32) (x4 : Int32) (x5 : Int32) (d : Dt) : Option (Int32 × Dt) :=
  if x2 ≤ x5 then k40 x4 d else f_X11_exchange_L52 σ aw_FU (fun x3_23 x4_24 d_25 => kb40 x3_23 x4_24 (x5 + 1) d_25) x0 x1 x2 x5 x3 x4 (x5 + ((1 : Int32))) d
def f_X11_exchange_L40 (σ : Sg) (n : Nat) (k40 : Int32 → Dt → Option (Int32 × Dt)) (x0 : Nat) (x1 : Int32) (x2 : Int32) : Int32 → Int32 → Int32 → Dt → Option (Int32 × Dt) := match n with
  | 0 => fun _ _ _ _ => none
  | n + 1 => fun x3 x4 x5 d => f_X11_exchange_B40 σ (f_X11_exchange_L40 σ n k40 x0 x1 x2) k40 x0 x1 x2 x3 x4 x5 d
def f_X11_exchange_J14 (σ : Sg) (t1 : Int32) (t0 : Nat) (x0 : Nat) (x1 : Int32) (d : Dt) : Option (Int32 × Dt) :=
  aw_chk (aw_O σ 11 32 t0) ((f_X11_fails σ t0 t1 d).bind (fun z_4 => if z_4.1 = 0 then aw_chk (aw_O σ 11 32 x0) ((f_X11_uses σ x0 x1 z_4.2).bind (fun z_7 => (f_X11_travels σ x0 x1 z_7.2).bind (fun z_10 => f_X11_exchange_L40 σ aw_FU (fun x4_26 d_27 => some (x4_26, d_27)) x0 x1 z_7.1 z_10.1 ((-1 : Int32)) ((0 : Int32)) z_10.2))) else some ((0 : Int32), z_4.2)))
def f_X11_exchange (σ : Sg) (x0 : Nat) (x1 : Int32) (d : Dt) : Option (Int32 × Dt) :=
  aw_chk (aw_O σ 11 32 x0) ((f_X11_isDesign σ x0 x1 d).bind (fun z_1 => if z_1.1 = 0 then f_X11_exchange_J14 σ ((1 : Int32)) x0 x0 x1 z_1.2 else f_X11_exchange_J14 σ ((0 : Int32)) x0 x0 x1 z_1.2))
section W_X11_exchange
variable {p : Program} {l : Launch} {e : Env} {s : State} {m : MethodId} {args : Array Value} {below : List Frame} {meth : Method} {c : Code}
variable {D : va_G} {cA : Nat → ClassId} {base : Nat} {ad : Nat → Nat} {σ : Sg}
set_option maxHeartbeats 4000000 in
set_option maxRecDepth 100000 in
theorem w_X11_exchange_J164 {z : Int32 × Dt} (X : aw_X p c cX11_exchange 8 s RX11 m meth (some .int)) {kb52 : Int32 → Int32 → Int32 → Dt → Option (Int32 × Dt)} {t0 : Int32} {x0 : Nat} {x1 : Int32} {x2 : Int32} {x4 : Int32} {x5 : Int32} {x6 : Int32} {d : Dt} (hf : f_X11_exchange_J164 σ kb52 t0 x0 x1 x2 x4 x5 x6 d = some z) (hkb52 : ∀ (y3 : Int32) (y4 : Int32) (y6 : Int32) (d : Dt), kb52 y3 y4 y6 d = some z → ∀ (H : Heap) (locs : List Loc) (ls : Array Slot), lv_has ls 8 [(0, .ref (ad x0)), (1, .int x1), (2, .int x2), (3, .int y3), (4, .int y4), (5, .int x5), (6, .int y6)] → aw_G D cA base ad σ d s H locs → W p l e rm_X11_exchange s m args below meth c H locs 0 0 (aw_Ei D cA base ad σ below args s z) (F0 m 52 ls [])) {H : Heap} {locs : List Loc} {ls : Array Slot} (hl : lv_has ls 8 [(0, .ref (ad x0)), (1, .int x1), (2, .int x2), (4, .int x4), (5, .int x5), (6, .int x6)]) (G : aw_G D cA base ad σ d s H locs) : W p l e rm_X11_exchange s m args below meth c H locs 0 0 (aw_Ei D cA base ad σ below args s z) (F0 m 164 ls [.int t0]) := by
  have hx := X.1; have hb := X.2.1; have hml := X.2.2.1; have hown := X.2.2.2.1
  unfold f_X11_exchange_J164 at hf
  refine lv_istore_n (lv' := [(3, .int t0), (0, .ref (ad x0)), (1, .int x1), (2, .int x2), (4, .int x4), (5, .int x5), (6, .int x6)]) hx hb dX11_exchange_164 rfl hl (by decide) rfl (fun ls hl => ?_)
  refine lv_iinc (v := x6 + 1) (lv' := [(6, .int (x6 + 1)), (3, .int t0), (0, .ref (ad x0)), (1, .int x1), (2, .int x2), (4, .int x4), (5, .int x5)]) hx hb dX11_exchange_165 hl (k := 6) rfl rfl (by decide) rfl (fun ls hl => ?_)
  refine lv_goto (tgt := 52) hx hb dX11_exchange_168 (by decide) ?_
  exact hkb52 _ _ _ _ hf _ _ _ (lv_sub hl [2, 3, 4, 1, 5, 6, 0] rfl) G
set_option maxHeartbeats 4000000 in
set_option maxRecDepth 100000 in
theorem w_X11_exchange_J150 {z : Int32 × Dt} (X : aw_X p c cX11_exchange 8 s RX11 m meth (some .int)) {kb52 : Int32 → Int32 → Int32 → Dt → Option (Int32 × Dt)} {t0 : Int32} {x0 : Nat} {x1 : Int32} {x2 : Int32} {x3 : Int32} {x5 : Int32} {x6 : Int32} {x7 : Int32} {d : Dt} (hf : f_X11_exchange_J150 σ kb52 t0 x0 x1 x2 x3 x5 x6 x7 d = some z) (hkb52 : ∀ (y3 : Int32) (y4 : Int32) (y6 : Int32) (d : Dt), kb52 y3 y4 y6 d = some z → ∀ (H : Heap) (locs : List Loc) (ls : Array Slot), lv_has ls 8 [(0, .ref (ad x0)), (1, .int x1), (2, .int x2), (3, .int y3), (4, .int y4), (5, .int x5), (6, .int y6)] → aw_G D cA base ad σ d s H locs → W p l e rm_X11_exchange s m args below meth c H locs 0 0 (aw_Ei D cA base ad σ below args s z) (F0 m 52 ls [])) {H : Heap} {locs : List Loc} {ls : Array Slot} (hl : lv_has ls 8 [(0, .ref (ad x0)), (1, .int x1), (2, .int x2), (3, .int x3), (5, .int x5), (6, .int x6), (7, .int x7)]) (G : aw_G D cA base ad σ d s H locs) : W p l e rm_X11_exchange s m args below meth c H locs 0 0 (aw_Ei D cA base ad σ below args s z) (F0 m 150 ls [.int t0]) := by
  have hx := X.1; have hb := X.2.1; have hml := X.2.2.1; have hown := X.2.2.2.1
  unfold f_X11_exchange_J150 at hf
  refine lv_istore (lv' := [(4, .int t0), (0, .ref (ad x0)), (1, .int x1), (2, .int x2), (3, .int x3), (5, .int x5), (6, .int x6), (7, .int x7)]) hx hb dX11_exchange_150 hl (by decide) rfl (fun ls hl => ?_)
  refine lv_iload hx hb dX11_exchange_152 (lv_at hl 7 rfl) ?_
  refine lv_iload_n hx hb dX11_exchange_154 rfl (lv_at hl 4 rfl) ?_
  refine lv_icmp_ge (tgt := 163) hx hb dX11_exchange_155 (by decide) (fun hc => ?_) (fun hc => ?_)
  · have hf := aw_ite_t hc hf
    refine lv_iload_n hx hb dX11_exchange_163 rfl (lv_at hl 4 rfl) ?_
    exact w_X11_exchange_J164 X hf hkb52 (lv_sub hl [1, 2, 3, 0, 5, 6] rfl) G
  · have hf := aw_ite_f hc hf
    refine lv_iload hx hb dX11_exchange_158 (lv_at hl 7 rfl) ?_
    refine lv_goto (tgt := 164) hx hb dX11_exchange_160 (by decide) ?_
    exact w_X11_exchange_J164 X hf hkb52 (lv_sub hl [1, 2, 3, 0, 5, 6] rfl) G
set_option maxHeartbeats 4000000 in
set_option maxRecDepth 100000 in
theorem w_X11_exchange_B52 {z : Int32 × Dt} (X : aw_X p c cX11_exchange 8 s RX11 m meth (some .int)) {kb52 : Int32 → Int32 → Int32 → Dt → Option (Int32 × Dt)} {k52 : Int32 → Int32 → Dt → Option (Int32 × Dt)} {x0 : Nat} {x1 : Int32} {x2 : Int32} {x5 : Int32} {x3 : Int32} {x4 : Int32} {x6 : Int32} {d : Dt} (hf : f_X11_exchange_B52 σ kb52 k52 x0 x1 x2 x5 x3 x4 x6 d = some z) (hkb52 : ∀ (y3 : Int32) (y4 : Int32) (y6 : Int32) (d : Dt), kb52 y3 y4 y6 d = some z → ∀ (H : Heap) (locs : List Loc) (ls : Array Slot), lv_has ls 8 [(0, .ref (ad x0)), (1, .int x1), (2, .int x2), (3, .int y3), (4, .int y4), (5, .int x5), (6, .int y6)] → aw_G D cA base ad σ d s H locs → W p l e rm_X11_exchange s m args below meth c H locs 0 0 (aw_Ei D cA base ad σ below args s z) (F0 m 52 ls [])) (hk52 : ∀ (y3 : Int32) (y4 : Int32) (d : Dt), k52 y3 y4 d = some z → ∀ (H : Heap) (locs : List Loc) (ls : Array Slot), lv_has ls 8 [(0, .ref (ad x0)), (1, .int x1), (2, .int x2), (3, .int y3), (4, .int y4), (5, .int x5)] → aw_G D cA base ad σ d s H locs → W p l e rm_X11_exchange s m args below meth c H locs 0 0 (aw_Ei D cA base ad σ below args s z) (F0 m 171 ls [])) {H : Heap} {locs : List Loc} {ls : Array Slot} (hl : lv_has ls 8 [(0, .ref (ad x0)), (1, .int x1), (2, .int x2), (3, .int x3), (4, .int x4), (5, .int x5), (6, .int x6)]) (G : aw_G D cA base ad σ d s H locs) : W p l e rm_X11_exchange s m args below meth c H locs 0 0 (aw_Ei D cA base ad σ below args s z) (F0 m 52 ls []) := by
  have hx := X.1; have hb := X.2.1; have hml := X.2.2.1; have hown := X.2.2.2.1
  unfold f_X11_exchange_B52 at hf
  refine lv_iload hx hb dX11_exchange_52 (lv_at hl 6 rfl) ?_
  refine lv_iload_n hx hb dX11_exchange_54 rfl (lv_at hl 2 rfl) ?_
  refine lv_icmp_ge (tgt := 171) hx hb dX11_exchange_55 (by decide) (fun hc => ?_) (fun hc => ?_)
  · have hf := aw_ite_t hc hf
    exact hk52 _ _ _ hf _ _ _ (lv_sub hl [0, 1, 2, 3, 4, 5] rfl) G
  · have hf := aw_ite_f hc hf
    refine lv_aload_n hx hb dX11_exchange_58 rfl (lv_at hl 0 rfl) ?_
    refine lv_bipush (v := (50 : Int32)) hx hb dX11_exchange_59 (by decide) ?_
    refine lv_iload_n hx hb dX11_exchange_61 rfl (lv_at hl 1 rfl) ?_
    refine lv_imul hx hb dX11_exchange_62 ?_
    refine lv_aload_n hx hb dX11_exchange_63 rfl (lv_at hl 0 rfl) ?_
    obtain ⟨hc_12, hf⟩ := aw_chk_some hf
    obtain ⟨q_13, hq_14, hf⟩ := aw_bind_some hf
    refine gf_X11_81 hx hb G hown hc_12 hq_14 dX11_exchange_64 ?_
    refine lv_iload hx hb dX11_exchange_67 (lv_at hl 5 rfl) ?_
    obtain ⟨hc_15, hf⟩ := aw_chk_some hf
    refine aw_ial hx hb G hc_15 dX11_exchange_69 ?_
    refine lv_iadd hx hb dX11_exchange_70 ?_
    refine lv_bipush (v := (50 : Int32)) hx hb dX11_exchange_71 (by decide) ?_
    refine lv_iload_n hx hb dX11_exchange_73 rfl (lv_at hl 1 rfl) ?_
    refine lv_imul hx hb dX11_exchange_74 ?_
    refine lv_aload_n hx hb dX11_exchange_75 rfl (lv_at hl 0 rfl) ?_
    refine gf_X11_81 hx hb G hown hc_12 hq_14 dX11_exchange_76 ?_
    refine lv_iload hx hb dX11_exchange_79 (lv_at hl 6 rfl) ?_
    obtain ⟨hc_16, hf⟩ := aw_chk_some hf
    refine aw_ial hx hb G hc_16 dX11_exchange_81 ?_
    refine lv_iadd hx hb dX11_exchange_82 ?_
    obtain ⟨z_17, hz_18, hf⟩ := aw_bind_some hf
    refine aw_VV (As := [.int ((((50 : Int32)) * x1) + (d.1 q_13 x5.toNatClampNeg)), .int ((((50 : Int32)) * x1) + (d.1 q_13 x6.toNatClampNeg))]) (rest := []) X G hl.1 cr_X11_207 (c_X11_swaps l hz_18) ⟨rfl, rfl⟩ rfl rfl rfl (by decide) hc_12 rfl ⟨Nat.le_of_ble_eq_true rfl, Nat.le_of_ble_eq_true rfl⟩ (Nat.le_of_ble_eq_true rfl) dX11_exchange_83 ⟨Nat.zero_le _, Nat.zero_le _⟩ (fun H locs G => ?_)
    refine lv_aload_n hx hb dX11_exchange_86 rfl (lv_at hl 0 rfl) ?_
    refine lv_iload_n hx hb dX11_exchange_87 rfl (lv_at hl 1 rfl) ?_
    obtain ⟨z_19, hz_20, hf⟩ := aw_bind_some hf
    refine aw_VI (As := [.int x1]) (rest := []) X G hl.1 cr_X11_204 (c_X11_travels l hz_20) ⟨rfl, rfl⟩ rfl rfl rfl (by decide) hc_12 rfl ⟨Nat.le_of_ble_eq_true rfl, Nat.le_of_ble_eq_true rfl⟩ (Nat.le_of_ble_eq_true rfl) dX11_exchange_88 ⟨Nat.zero_le _, Nat.zero_le _⟩ (fun H locs G => ?_)
    refine lv_istore (lv' := [(7, .int z_19.1), (0, .ref (ad x0)), (1, .int x1), (2, .int x2), (3, .int x3), (4, .int x4), (5, .int x5), (6, .int x6)]) hx hb dX11_exchange_91 hl (by decide) rfl (fun ls hl => ?_)
    refine lv_aload_n hx hb dX11_exchange_93 rfl (lv_at hl 1 rfl) ?_
    refine lv_bipush (v := (50 : Int32)) hx hb dX11_exchange_94 (by decide) ?_
    refine lv_iload_n hx hb dX11_exchange_96 rfl (lv_at hl 2 rfl) ?_
    refine lv_imul hx hb dX11_exchange_97 ?_
    refine lv_aload_n hx hb dX11_exchange_98 rfl (lv_at hl 1 rfl) ?_
    refine gf_X11_81 hx hb G hown hc_12 hq_14 dX11_exchange_99 ?_
    refine lv_iload hx hb dX11_exchange_102 (lv_at hl 6 rfl) ?_
    refine aw_ial hx hb G hc_15 dX11_exchange_104 ?_
    refine lv_iadd hx hb dX11_exchange_105 ?_
    refine lv_bipush (v := (50 : Int32)) hx hb dX11_exchange_106 (by decide) ?_
    refine lv_iload_n hx hb dX11_exchange_108 rfl (lv_at hl 2 rfl) ?_
    refine lv_imul hx hb dX11_exchange_109 ?_
    refine lv_aload_n hx hb dX11_exchange_110 rfl (lv_at hl 1 rfl) ?_
    refine gf_X11_81 hx hb G hown hc_12 hq_14 dX11_exchange_111 ?_
    refine lv_iload hx hb dX11_exchange_114 (lv_at hl 7 rfl) ?_
    refine aw_ial hx hb G hc_16 dX11_exchange_116 ?_
    refine lv_iadd hx hb dX11_exchange_117 ?_
    obtain ⟨z_21, hz_22, hf⟩ := aw_bind_some hf
    refine aw_VV (As := [.int ((((50 : Int32)) * x1) + (z_19.2.1 q_13 x5.toNatClampNeg)), .int ((((50 : Int32)) * x1) + (z_19.2.1 q_13 x6.toNatClampNeg))]) (rest := []) X G hl.1 cr_X11_207 (c_X11_swaps l hz_22) ⟨rfl, rfl⟩ rfl rfl rfl (by decide) hc_12 rfl ⟨Nat.le_of_ble_eq_true rfl, Nat.le_of_ble_eq_true rfl⟩ (Nat.le_of_ble_eq_true rfl) dX11_exchange_118 ⟨Nat.zero_le _, Nat.zero_le _⟩ (fun H locs G => ?_)
    refine lv_iload hx hb dX11_exchange_121 (lv_at hl 0 rfl) ?_
    refine lv_iload_n hx hb dX11_exchange_123 rfl (lv_at hl 4 rfl) ?_
    refine lv_icmp_ge (tgt := 148) hx hb dX11_exchange_124 (by decide) (fun hc => ?_) (fun hc => ?_)
    · have hf := aw_ite_t hc hf
      refine lv_iload hx hb dX11_exchange_148 (lv_at hl 5 rfl) ?_
      exact w_X11_exchange_J150 X hf hkb52 (lv_sub hl [1, 2, 3, 4, 6, 7, 0] rfl) G
    · have hf := aw_ite_f hc hf
      refine lv_bipush (v := (100 : Int32)) hx hb dX11_exchange_127 (by decide) ?_
      refine lv_aload_n hx hb dX11_exchange_129 rfl (lv_at hl 1 rfl) ?_
      refine gf_X11_81 hx hb G hown hc_12 hq_14 dX11_exchange_130 ?_
      refine lv_iload hx hb dX11_exchange_133 (lv_at hl 6 rfl) ?_
      refine aw_ial hx hb G hc_15 dX11_exchange_135 ?_
      refine lv_imul hx hb dX11_exchange_136 ?_
      refine lv_aload_n hx hb dX11_exchange_137 rfl (lv_at hl 1 rfl) ?_
      refine gf_X11_81 hx hb G hown hc_12 hq_14 dX11_exchange_138 ?_
      refine lv_iload hx hb dX11_exchange_141 (lv_at hl 7 rfl) ?_
      refine aw_ial hx hb G hc_16 dX11_exchange_143 ?_
      refine lv_iadd hx hb dX11_exchange_144 ?_
      refine lv_goto (tgt := 150) hx hb dX11_exchange_145 (by decide) ?_
      exact w_X11_exchange_J150 X hf hkb52 (lv_sub hl [1, 2, 3, 4, 6, 7, 0] rfl) G
theorem w_X11_exchange_L52 {z : Int32 × Dt} (X : aw_X p c cX11_exchange 8 s RX11 m meth (some .int)) {k52 : Int32 → Int32 → Dt → Option (Int32 × Dt)} {x0 : Nat} {x1 : Int32} {x2 : Int32} {x5 : Int32} (n : Nat) {x3 : Int32} {x4 : Int32} {x6 : Int32} {d : Dt} (hf : f_X11_exchange_L52 σ n k52 x0 x1 x2 x5 x3 x4 x6 d = some z) (hk52 : ∀ (y3 : Int32) (y4 : Int32) (d : Dt), k52 y3 y4 d = some z → ∀ (H : Heap) (locs : List Loc) (ls : Array Slot), lv_has ls 8 [(0, .ref (ad x0)), (1, .int x1), (2, .int x2), (3, .int y3), (4, .int y4), (5, .int x5)] → aw_G D cA base ad σ d s H locs → W p l e rm_X11_exchange s m args below meth c H locs 0 0 (aw_Ei D cA base ad σ below args s z) (F0 m 171 ls [])) {H : Heap} {locs : List Loc} {ls : Array Slot} (hl : lv_has ls 8 [(0, .ref (ad x0)), (1, .int x1), (2, .int x2), (3, .int x3), (4, .int x4), (5, .int x5), (6, .int x6)]) (G : aw_G D cA base ad σ d s H locs) : W p l e rm_X11_exchange s m args below meth c H locs 0 0 (aw_Ei D cA base ad σ below args s z) (F0 m 52 ls []) := by
  induction n generalizing x3 x4 x6 d H locs ls with
  | zero => exact absurd (show (none : Option (Int32 × Dt)) = some z from hf) (by simp)
  | succ n ih => exact w_X11_exchange_B52 X (kb52 := f_X11_exchange_L52 σ n k52 x0 x1 x2 x5) hf  (fun x3 x4 x6 d hf H locs ls hl G => ih hf hl G) hk52 hl G
set_option maxHeartbeats 4000000 in
set_option maxRecDepth 100000 in
theorem w_X11_exchange_B40 {z : Int32 × Dt} (X : aw_X p c cX11_exchange 8 s RX11 m meth (some .int)) {kb40 : Int32 → Int32 → Int32 → Dt → Option (Int32 × Dt)} {k40 : Int32 → Dt → Option (Int32 × Dt)} {x0 : Nat} {x1 : Int32} {x2 : Int32} {x3 : Int32} {x4 : Int32} {x5 : Int32} {d : Dt} (hf : f_X11_exchange_B40 σ kb40 k40 x0 x1 x2 x3 x4 x5 d = some z) (hkb40 : ∀ (y3 : Int32) (y4 : Int32) (y5 : Int32) (d : Dt), kb40 y3 y4 y5 d = some z → ∀ (H : Heap) (locs : List Loc) (ls : Array Slot), lv_has ls 8 [(0, .ref (ad x0)), (1, .int x1), (2, .int x2), (3, .int y3), (4, .int y4), (5, .int y5)] → aw_G D cA base ad σ d s H locs → W p l e rm_X11_exchange s m args below meth c H locs 0 0 (aw_Ei D cA base ad σ below args s z) (F0 m 40 ls [])) (hk40 : ∀ (y4 : Int32) (d : Dt), k40 y4 d = some z → ∀ (H : Heap) (locs : List Loc) (ls : Array Slot), lv_has ls 8 [(4, .int y4)] → aw_G D cA base ad σ d s H locs → W p l e rm_X11_exchange s m args below meth c H locs 0 0 (aw_Ei D cA base ad σ below args s z) (F0 m 177 ls [])) {H : Heap} {locs : List Loc} {ls : Array Slot} (hl : lv_has ls 8 [(0, .ref (ad x0)), (1, .int x1), (2, .int x2), (3, .int x3), (4, .int x4), (5, .int x5)]) (G : aw_G D cA base ad σ d s H locs) : W p l e rm_X11_exchange s m args below meth c H locs 0 0 (aw_Ei D cA base ad σ below args s z) (F0 m 40 ls []) := by
  have hx := X.1; have hb := X.2.1; have hml := X.2.2.1; have hown := X.2.2.2.1
  unfold f_X11_exchange_B40 at hf
  refine lv_iload hx hb dX11_exchange_40 (lv_at hl 5 rfl) ?_
  refine lv_iload_n hx hb dX11_exchange_42 rfl (lv_at hl 2 rfl) ?_
  refine lv_icmp_ge (tgt := 177) hx hb dX11_exchange_43 (by decide) (fun hc => ?_) (fun hc => ?_)
  · have hf := aw_ite_t hc hf
    exact hk40 _ _ hf _ _ _ (lv_sub hl [4] rfl) G
  · have hf := aw_ite_f hc hf
    refine lv_iload hx hb dX11_exchange_46 (lv_at hl 5 rfl) ?_
    refine lv_iconst (v := (1 : Int32)) hx hb dX11_exchange_48 (by decide) ?_
    refine lv_iadd hx hb dX11_exchange_49 ?_
    refine lv_istore (lv' := [(6, .int (x5 + ((1 : Int32)))), (0, .ref (ad x0)), (1, .int x1), (2, .int x2), (3, .int x3), (4, .int x4), (5, .int x5)]) hx hb dX11_exchange_50 hl (by decide) rfl (fun ls hl => ?_)
    refine w_X11_exchange_L52 X aw_FU hf  (fun x3_23 x4_24 d_25 hf H locs ls hl G => ?_) (lv_sub hl [1, 2, 3, 4, 5, 6, 0] rfl) G
    refine lv_iinc (v := x5 + 1) (lv' := [(5, .int (x5 + 1)), (0, .ref (ad x0)), (1, .int x1), (2, .int x2), (3, .int x3_23), (4, .int x4_24)]) hx hb dX11_exchange_171 hl (k := 5) rfl rfl (by decide) rfl (fun ls hl => ?_)
    refine lv_goto (tgt := 40) hx hb dX11_exchange_174 (by decide) ?_
    exact hkb40 _ _ _ _ hf _ _ _ (lv_sub hl [1, 2, 3, 4, 5, 0] rfl) G
theorem w_X11_exchange_L40 {z : Int32 × Dt} (X : aw_X p c cX11_exchange 8 s RX11 m meth (some .int)) {k40 : Int32 → Dt → Option (Int32 × Dt)} {x0 : Nat} {x1 : Int32} {x2 : Int32} (n : Nat) {x3 : Int32} {x4 : Int32} {x5 : Int32} {d : Dt} (hf : f_X11_exchange_L40 σ n k40 x0 x1 x2 x3 x4 x5 d = some z) (hk40 : ∀ (y4 : Int32) (d : Dt), k40 y4 d = some z → ∀ (H : Heap) (locs : List Loc) (ls : Array Slot), lv_has ls 8 [(4, .int y4)] → aw_G D cA base ad σ d s H locs → W p l e rm_X11_exchange s m args below meth c H locs 0 0 (aw_Ei D cA base ad σ below args s z) (F0 m 177 ls [])) {H : Heap} {locs : List Loc} {ls : Array Slot} (hl : lv_has ls 8 [(0, .ref (ad x0)), (1, .int x1), (2, .int x2), (3, .int x3), (4, .int x4), (5, .int x5)]) (G : aw_G D cA base ad σ d s H locs) : W p l e rm_X11_exchange s m args below meth c H locs 0 0 (aw_Ei D cA base ad σ below args s z) (F0 m 40 ls []) := by
  induction n generalizing x3 x4 x5 d H locs ls with
  | zero => exact absurd (show (none : Option (Int32 × Dt)) = some z from hf) (by simp)
  | succ n ih => exact w_X11_exchange_B40 X (kb40 := f_X11_exchange_L40 σ n k40 x0 x1 x2) hf  (fun x3 x4 x5 d hf H locs ls hl G => ih hf hl G) hk40 hl G
set_option maxHeartbeats 4000000 in
set_option maxRecDepth 100000 in
theorem w_X11_exchange_J14 {z : Int32 × Dt} (X : aw_X p c cX11_exchange 8 s RX11 m meth (some .int)) {t1 : Int32} {t0 : Nat} {x0 : Nat} {x1 : Int32} {d : Dt} (hf : f_X11_exchange_J14 σ t1 t0 x0 x1 d = some z)  {H : Heap} {locs : List Loc} {ls : Array Slot} (hl : lv_has ls 8 [(0, .ref (ad x0)), (1, .int x1)]) (G : aw_G D cA base ad σ d s H locs) : W p l e rm_X11_exchange s m args below meth c H locs 0 0 (aw_Ei D cA base ad σ below args s z) (F0 m 14 ls [.int t1, .ref (ad t0)]) := by
  have hx := X.1; have hb := X.2.1; have hml := X.2.2.1; have hown := X.2.2.2.1
  unfold f_X11_exchange_J14 at hf
  obtain ⟨hc_6, hf⟩ := aw_chk_some hf
  obtain ⟨z_4, hz_5, hf⟩ := aw_bind_some hf
  refine aw_VI (As := [.int t1]) (rest := []) X G hl.1 cr_X11_113 (c_X11_fails l hz_5) ⟨rfl, rfl⟩ rfl rfl rfl (by decide) hc_6 rfl ⟨Nat.le_of_ble_eq_true rfl, Nat.le_of_ble_eq_true rfl⟩ (Nat.le_of_ble_eq_true rfl) dX11_exchange_14 ⟨Nat.zero_le _, Nat.zero_le _⟩ (fun H locs G => ?_)
  refine lv_if_eq (tgt := 22) hx hb dX11_exchange_17 (by decide) (fun hc => ?_) (fun hc => ?_)
  · have hf := aw_ite_t hc hf
    refine lv_aload_n hx hb dX11_exchange_22 rfl (lv_at hl 0 rfl) ?_
    refine lv_iload_n hx hb dX11_exchange_23 rfl (lv_at hl 1 rfl) ?_
    obtain ⟨hc_9, hf⟩ := aw_chk_some hf
    obtain ⟨z_7, hz_8, hf⟩ := aw_bind_some hf
    refine aw_VI (As := [.int x1]) (rest := []) X G hl.1 cr_X11_194 (c_X11_uses l hz_8) ⟨rfl, rfl⟩ rfl rfl rfl (by decide) hc_9 rfl ⟨Nat.le_of_ble_eq_true rfl, Nat.le_of_ble_eq_true rfl⟩ (Nat.le_of_ble_eq_true rfl) dX11_exchange_24 ⟨Nat.zero_le _, Nat.zero_le _⟩ (fun H locs G => ?_)
    refine lv_istore_n (lv' := [(2, .int z_7.1), (0, .ref (ad x0)), (1, .int x1)]) hx hb dX11_exchange_27 rfl hl (by decide) rfl (fun ls hl => ?_)
    refine lv_aload_n hx hb dX11_exchange_28 rfl (lv_at hl 1 rfl) ?_
    refine lv_iload_n hx hb dX11_exchange_29 rfl (lv_at hl 2 rfl) ?_
    obtain ⟨z_10, hz_11, hf⟩ := aw_bind_some hf
    refine aw_VI (As := [.int x1]) (rest := []) X G hl.1 cr_X11_204 (c_X11_travels l hz_11) ⟨rfl, rfl⟩ rfl rfl rfl (by decide) hc_9 rfl ⟨Nat.le_of_ble_eq_true rfl, Nat.le_of_ble_eq_true rfl⟩ (Nat.le_of_ble_eq_true rfl) dX11_exchange_30 ⟨Nat.zero_le _, Nat.zero_le _⟩ (fun H locs G => ?_)
    refine lv_istore_n (lv' := [(3, .int z_10.1), (2, .int z_7.1), (0, .ref (ad x0)), (1, .int x1)]) hx hb dX11_exchange_33 rfl hl (by decide) rfl (fun ls hl => ?_)
    refine lv_iconst (v := (-1 : Int32)) hx hb dX11_exchange_34 (by decide) ?_
    refine lv_istore (lv' := [(4, .int ((-1 : Int32))), (3, .int z_10.1), (2, .int z_7.1), (0, .ref (ad x0)), (1, .int x1)]) hx hb dX11_exchange_35 hl (by decide) rfl (fun ls hl => ?_)
    refine lv_iconst (v := (0 : Int32)) hx hb dX11_exchange_37 (by decide) ?_
    refine lv_istore (lv' := [(5, .int ((0 : Int32))), (4, .int ((-1 : Int32))), (3, .int z_10.1), (2, .int z_7.1), (0, .ref (ad x0)), (1, .int x1)]) hx hb dX11_exchange_38 hl (by decide) rfl (fun ls hl => ?_)
    refine w_X11_exchange_L40 X aw_FU hf  (fun x4_26 d_27 hf H locs ls hl G => ?_) (lv_sub hl [4, 5, 3, 2, 1, 0] rfl) G
    refine lv_iload hx hb dX11_exchange_177 (lv_at hl 0 rfl) ?_
    exact aw_reti X G hf dX11_exchange_179
  · have hf := aw_ite_f hc hf
    refine lv_iconst (v := (0 : Int32)) hx hb dX11_exchange_20 (by decide) ?_
    exact aw_reti X G hf dX11_exchange_21
end W_X11_exchange
set_option maxHeartbeats 4000000 in
set_option maxRecDepth 100000 in
theorem c_X11_exchange (l : Launch) {σ : Sg} {x0 : Nat} {x1 : Int32} {d : Dt} {z : Int32 × Dt} (hf : f_X11_exchange σ x0 x1 d = some z) : aw_Mi l yX11_exchange (Cond.code yX11_exchange cX11_exchange 8 (some .int)) rm_X11_exchange (fun ad => [.ref (ad x0), .int x1]) σ d z := by
  intro D cA base ad
  refine aw_ofW (own := RX11) (cc := cX11_exchange) (nL := 8) (ret := some .int) (by decide) rfl rfl ?_
  intro p e s m below meth c X hnm G
  have hx := X.1; have hb := X.2.1; have hml := X.2.2.1; have hown := X.2.2.2.1
  refine aw_ls (lv := [(0, .ref (ad x0)), (1, .int x1)]) (Nat.le_of_ble_eq_true rfl) rfl (fun ls hl => ?_)
  unfold f_X11_exchange at hf
  refine lv_aload_n hx hb dX11_exchange_0 rfl (lv_at hl 0 rfl) ?_
  refine lv_aload_n hx hb dX11_exchange_1 rfl (lv_at hl 0 rfl) ?_
  refine lv_iload_n hx hb dX11_exchange_2 rfl (lv_at hl 1 rfl) ?_
  obtain ⟨hc_3, hf⟩ := aw_chk_some hf
  obtain ⟨z_1, hz_2, hf⟩ := aw_bind_some hf
  refine aw_VI (As := [.int x1]) (rest := [.ref (ad x0)]) X G hl.1 cr_X11_146 (c_X11_isDesign l hz_2) ⟨rfl, rfl⟩ rfl rfl rfl (by decide) hc_3 rfl ⟨Nat.le_of_ble_eq_true rfl, Nat.le_of_ble_eq_true rfl⟩ (Nat.le_of_ble_eq_true rfl) dX11_exchange_3 ⟨Nat.zero_le _, Nat.zero_le _⟩ (fun H locs G => ?_)
  refine lv_if_eq (tgt := 13) hx hb dX11_exchange_6 (by decide) (fun hc => ?_) (fun hc => ?_)
  · have hf := aw_ite_t hc hf
    refine lv_iconst (v := (1 : Int32)) hx hb dX11_exchange_13 (by decide) ?_
    exact w_X11_exchange_J14 X hf  (lv_sub hl [0, 1] rfl) G
  · have hf := aw_ite_f hc hf
    refine lv_iconst (v := (0 : Int32)) hx hb dX11_exchange_9 (by decide) ?_
    refine lv_goto (tgt := 14) hx hb dX11_exchange_10 (by decide) ?_
    exact w_X11_exchange_J14 X hf  (lv_sub hl [0, 1] rfl) G
def rm_X11_group : Room := { frames := 2, cells := 0, slots := 0, locals := 42 }
def f_X11_group_J73 (σ : Sg) (t1 : Int32) (t0 : Nat) (x0 : Nat) (x1 : Int32) (x2 : Int32) (x3 : Int32) (x4 : Int32) (d : Dt) : Option (Int32 × Dt) :=
  aw_chk (aw_O σ 11 32 t0) ((f_X11_fails σ t0 t1 d).bind (fun z_5 => if z_5.1 = 0 then aw_chk (aw_O σ 11 32 x0) ((σ.2.2 x0 18).bind (fun q_9 => aw_chk (aw_I σ 20 q_9 x1) ((σ.2.2 x0 19).bind (fun q_12 => aw_chk (aw_I σ 20 q_12 x1) ((σ.2.2 x0 20).bind (fun q_15 => aw_chk (aw_I σ 20 q_15 x1) (some (z_5.2.1 q_9 x1.toNatClampNeg, aw_sI (aw_sI (aw_sI z_5.2 q_9 x1.toNatClampNeg x2) q_12 x1.toNatClampNeg x3) q_15 x1.toNatClampNeg x4)))))))) else some ((0 : Int32), z_5.2)))
def f_X11_group_J51 (σ : Sg) (t0 : Int32) (x0 : Nat) (x1 : Int32) (x2 : Int32) (x3 : Int32) (x4 : Int32) (x5 : Int32) (d : Dt) : Option (Int32 × Dt) :=
  if x5 = 0 then f_X11_group_J73 σ ((1 : Int32)) x0 x0 x1 x2 x3 x4 d else if t0 = 0 then f_X11_group_J73 σ ((2 : Int32)) x0 x0 x1 x2 x3 x4 d else f_X11_group_J73 σ ((0 : Int32)) x0 x0 x1 x2 x3 x4 d
def f_X11_group_J50 (σ : Sg) (x0 : Nat) (x1 : Int32) (x2 : Int32) (x3 : Int32) (x4 : Int32) (x5 : Int32) (d : Dt) : Option (Int32 × Dt) :=
  f_X11_group_J51 σ ((0 : Int32)) x0 x1 x2 x3 x4 x5 d
def f_X11_group_J22 (σ : Sg) (t0 : Int32) (x0 : Nat) (x1 : Int32) (x2 : Int32) (x3 : Int32) (x4 : Int32) (d : Dt) : Option (Int32 × Dt) :=
  (f_X11_isIn σ x2 ((0 : Int32)) ((999 : Int32)) d).bind (fun z_3 => if z_3.1 = 0 then f_X11_group_J50 σ x0 x1 x2 x3 x4 t0 z_3.2 else (f_X11_isIn σ x3 ((0 : Int32)) ((999 : Int32)) z_3.2).bind (fun z_18 => if z_18.1 = 0 then f_X11_group_J50 σ x0 x1 x2 x3 x4 t0 z_18.2 else f_X11_group_J51 σ ((1 : Int32)) x0 x1 x2 x3 x4 t0 z_18.2))
def f_X11_group_J21 (σ : Sg) (x0 : Nat) (x1 : Int32) (x2 : Int32) (x3 : Int32) (x4 : Int32) (d : Dt) : Option (Int32 × Dt) :=
  f_X11_group_J22 σ ((0 : Int32)) x0 x1 x2 x3 x4 d
def f_X11_group (σ : Sg) (x0 : Nat) (x1 : Int32) (x2 : Int32) (x3 : Int32) (x4 : Int32) (d : Dt) : Option (Int32 × Dt) :=
  (f_X11_isIn σ x1 ((0 : Int32)) ((3 : Int32)) d).bind (fun z_1 => if z_1.1 = 0 then f_X11_group_J21 σ x0 x1 x2 x3 x4 z_1.2 else (f_X11_isDialect σ x4 z_1.2).bind (fun z_20 => if z_20.1 = 0 then f_X11_group_J21 σ x0 x1 x2 x3 x4 z_20.2 else f_X11_group_J22 σ ((1 : Int32)) x0 x1 x2 x3 x4 z_20.2))
section W_X11_group
variable {p : Program} {l : Launch} {e : Env} {s : State} {m : MethodId} {args : Array Value} {below : List Frame} {meth : Method} {c : Code}
variable {D : va_G} {cA : Nat → ClassId} {base : Nat} {ad : Nat → Nat} {σ : Sg}
set_option maxHeartbeats 4000000 in
set_option maxRecDepth 100000 in
theorem w_X11_group_J73 {z : Int32 × Dt} (X : aw_X p c cX11_group 8 s RX11 m meth (some .int)) {t1 : Int32} {t0 : Nat} {x0 : Nat} {x1 : Int32} {x2 : Int32} {x3 : Int32} {x4 : Int32} {d : Dt} (hf : f_X11_group_J73 σ t1 t0 x0 x1 x2 x3 x4 d = some z)  {H : Heap} {locs : List Loc} {ls : Array Slot} (hl : lv_has ls 8 [(0, .ref (ad x0)), (1, .int x1), (2, .int x2), (3, .int x3), (4, .int x4)]) (G : aw_G D cA base ad σ d s H locs) : W p l e rm_X11_group s m args below meth c H locs 0 0 (aw_Ei D cA base ad σ below args s z) (F0 m 73 ls [.int t1, .ref (ad t0)]) := by
  have hx := X.1; have hb := X.2.1; have hml := X.2.2.1; have hown := X.2.2.2.1
  unfold f_X11_group_J73 at hf
  obtain ⟨hc_7, hf⟩ := aw_chk_some hf
  obtain ⟨z_5, hz_6, hf⟩ := aw_bind_some hf
  refine aw_VI (As := [.int t1]) (rest := []) X G hl.1 cr_X11_113 (c_X11_fails l hz_6) ⟨rfl, rfl⟩ rfl rfl rfl (by decide) hc_7 rfl ⟨Nat.le_of_ble_eq_true rfl, Nat.le_of_ble_eq_true rfl⟩ (Nat.le_of_ble_eq_true rfl) dX11_group_73 ⟨Nat.zero_le _, Nat.zero_le _⟩ (fun H locs G => ?_)
  refine lv_if_eq (tgt := 81) hx hb dX11_group_76 (by decide) (fun hc => ?_) (fun hc => ?_)
  · have hf := aw_ite_t hc hf
    refine lv_aload_n hx hb dX11_group_81 rfl (lv_at hl 0 rfl) ?_
    obtain ⟨hc_8, hf⟩ := aw_chk_some hf
    obtain ⟨q_9, hq_10, hf⟩ := aw_bind_some hf
    refine gf_X11_56 hx hb G hown hc_8 hq_10 dX11_group_82 ?_
    refine lv_iload_n hx hb dX11_group_85 rfl (lv_at hl 1 rfl) ?_
    obtain ⟨hc_11, hf⟩ := aw_chk_some hf
    refine aw_ial hx hb G hc_11 dX11_group_86 ?_
    refine lv_istore (lv' := [(7, .int (z_5.2.1 q_9 x1.toNatClampNeg)), (0, .ref (ad x0)), (1, .int x1), (2, .int x2), (3, .int x3), (4, .int x4)]) hx hb dX11_group_87 hl (by decide) rfl (fun ls hl => ?_)
    refine lv_aload_n hx hb dX11_group_89 rfl (lv_at hl 1 rfl) ?_
    refine gf_X11_56 hx hb G hown hc_8 hq_10 dX11_group_90 ?_
    refine lv_iload_n hx hb dX11_group_93 rfl (lv_at hl 2 rfl) ?_
    refine lv_iload_n hx hb dX11_group_94 rfl (lv_at hl 3 rfl) ?_
    refine aw_ias hx hb G hc_11 dX11_group_95 (fun H locs G => ?_)
    refine lv_aload_n hx hb dX11_group_96 rfl (lv_at hl 1 rfl) ?_
    obtain ⟨q_12, hq_13, hf⟩ := aw_bind_some hf
    refine gf_X11_59 hx hb G hown hc_8 hq_13 dX11_group_97 ?_
    refine lv_iload_n hx hb dX11_group_100 rfl (lv_at hl 2 rfl) ?_
    refine lv_iload_n hx hb dX11_group_101 rfl (lv_at hl 4 rfl) ?_
    obtain ⟨hc_14, hf⟩ := aw_chk_some hf
    refine aw_ias hx hb G hc_14 dX11_group_102 (fun H locs G => ?_)
    refine lv_aload_n hx hb dX11_group_103 rfl (lv_at hl 1 rfl) ?_
    obtain ⟨q_15, hq_16, hf⟩ := aw_bind_some hf
    refine gf_X11_62 hx hb G hown hc_8 hq_16 dX11_group_104 ?_
    refine lv_iload_n hx hb dX11_group_107 rfl (lv_at hl 2 rfl) ?_
    refine lv_iload hx hb dX11_group_108 (lv_at hl 5 rfl) ?_
    obtain ⟨hc_17, hf⟩ := aw_chk_some hf
    refine aw_ias hx hb G hc_17 dX11_group_110 (fun H locs G => ?_)
    refine lv_iload hx hb dX11_group_111 (lv_at hl 0 rfl) ?_
    exact aw_reti X G hf dX11_group_113
  · have hf := aw_ite_f hc hf
    refine lv_iconst (v := (0 : Int32)) hx hb dX11_group_79 (by decide) ?_
    exact aw_reti X G hf dX11_group_80
set_option maxHeartbeats 4000000 in
set_option maxRecDepth 100000 in
theorem w_X11_group_J51 {z : Int32 × Dt} (X : aw_X p c cX11_group 8 s RX11 m meth (some .int)) {t0 : Int32} {x0 : Nat} {x1 : Int32} {x2 : Int32} {x3 : Int32} {x4 : Int32} {x5 : Int32} {d : Dt} (hf : f_X11_group_J51 σ t0 x0 x1 x2 x3 x4 x5 d = some z)  {H : Heap} {locs : List Loc} {ls : Array Slot} (hl : lv_has ls 8 [(0, .ref (ad x0)), (1, .int x1), (2, .int x2), (3, .int x3), (4, .int x4), (5, .int x5)]) (G : aw_G D cA base ad σ d s H locs) : W p l e rm_X11_group s m args below meth c H locs 0 0 (aw_Ei D cA base ad σ below args s z) (F0 m 51 ls [.int t0]) := by
  have hx := X.1; have hb := X.2.1; have hml := X.2.2.1; have hown := X.2.2.2.1
  unfold f_X11_group_J51 at hf
  refine lv_istore (lv' := [(6, .int t0), (0, .ref (ad x0)), (1, .int x1), (2, .int x2), (3, .int x3), (4, .int x4), (5, .int x5)]) hx hb dX11_group_51 hl (by decide) rfl (fun ls hl => ?_)
  refine lv_aload_n hx hb dX11_group_53 rfl (lv_at hl 1 rfl) ?_
  refine lv_iload hx hb dX11_group_54 (lv_at hl 6 rfl) ?_
  refine lv_if_ne (tgt := 63) hx hb dX11_group_56 (by decide) (fun hc => ?_) (fun hc => ?_)
  · have hf := aw_ite_f hc hf
    refine lv_iload hx hb dX11_group_63 (lv_at hl 0 rfl) ?_
    refine lv_if_eq (tgt := 72) hx hb dX11_group_65 (by decide) (fun hc => ?_) (fun hc => ?_)
    · have hf := aw_ite_t hc hf
      refine lv_iconst (v := (2 : Int32)) hx hb dX11_group_72 (by decide) ?_
      exact w_X11_group_J73 X hf  (lv_sub hl [1, 2, 3, 4, 5] rfl) G
    · have hf := aw_ite_f hc hf
      refine lv_iconst (v := (0 : Int32)) hx hb dX11_group_68 (by decide) ?_
      refine lv_goto (tgt := 73) hx hb dX11_group_69 (by decide) ?_
      exact w_X11_group_J73 X hf  (lv_sub hl [1, 2, 3, 4, 5] rfl) G
  · have hf := aw_ite_t hc hf
    refine lv_iconst (v := (1 : Int32)) hx hb dX11_group_59 (by decide) ?_
    refine lv_goto (tgt := 73) hx hb dX11_group_60 (by decide) ?_
    exact w_X11_group_J73 X hf  (lv_sub hl [1, 2, 3, 4, 5] rfl) G
set_option maxHeartbeats 4000000 in
set_option maxRecDepth 100000 in
theorem w_X11_group_J50 {z : Int32 × Dt} (X : aw_X p c cX11_group 8 s RX11 m meth (some .int)) {x0 : Nat} {x1 : Int32} {x2 : Int32} {x3 : Int32} {x4 : Int32} {x5 : Int32} {d : Dt} (hf : f_X11_group_J50 σ x0 x1 x2 x3 x4 x5 d = some z)  {H : Heap} {locs : List Loc} {ls : Array Slot} (hl : lv_has ls 8 [(0, .ref (ad x0)), (1, .int x1), (2, .int x2), (3, .int x3), (4, .int x4), (5, .int x5)]) (G : aw_G D cA base ad σ d s H locs) : W p l e rm_X11_group s m args below meth c H locs 0 0 (aw_Ei D cA base ad σ below args s z) (F0 m 50 ls []) := by
  have hx := X.1; have hb := X.2.1; have hml := X.2.2.1; have hown := X.2.2.2.1
  unfold f_X11_group_J50 at hf
  refine lv_iconst (v := (0 : Int32)) hx hb dX11_group_50 (by decide) ?_
  exact w_X11_group_J51 X hf  (lv_sub hl [0, 1, 2, 3, 4, 5] rfl) G
set_option maxHeartbeats 4000000 in
set_option maxRecDepth 100000 in
theorem w_X11_group_J22 {z : Int32 × Dt} (X : aw_X p c cX11_group 8 s RX11 m meth (some .int)) {t0 : Int32} {x0 : Nat} {x1 : Int32} {x2 : Int32} {x3 : Int32} {x4 : Int32} {d : Dt} (hf : f_X11_group_J22 σ t0 x0 x1 x2 x3 x4 d = some z)  {H : Heap} {locs : List Loc} {ls : Array Slot} (hl : lv_has ls 8 [(0, .ref (ad x0)), (1, .int x1), (2, .int x2), (3, .int x3), (4, .int x4)]) (G : aw_G D cA base ad σ d s H locs) : W p l e rm_X11_group s m args below meth c H locs 0 0 (aw_Ei D cA base ad σ below args s z) (F0 m 22 ls [.int t0]) := by
  have hx := X.1; have hb := X.2.1; have hml := X.2.2.1; have hown := X.2.2.2.1
  unfold f_X11_group_J22 at hf
  refine lv_istore (lv' := [(5, .int t0), (0, .ref (ad x0)), (1, .int x1), (2, .int x2), (3, .int x3), (4, .int x4)]) hx hb dX11_group_22 hl (by decide) rfl (fun ls hl => ?_)
  refine lv_iload_n hx hb dX11_group_24 rfl (lv_at hl 3 rfl) ?_
  refine lv_iconst (v := (0 : Int32)) hx hb dX11_group_25 (by decide) ?_
  refine lv_sipush (v := (999 : Int32)) hx hb dX11_group_26 (by decide) ?_
  obtain ⟨z_3, hz_4, hf⟩ := aw_bind_some hf
  refine aw_SI (As := [.int x2, .int ((0 : Int32)), .int ((999 : Int32))]) (rest := []) X G hl.1 cr_X11_103 (c_X11_isIn l hz_4) ⟨rfl, rfl⟩ rfl rfl rfl ⟨Nat.le_of_ble_eq_true rfl, Nat.le_of_ble_eq_true rfl⟩ (Nat.le_of_ble_eq_true rfl) dX11_group_29 ⟨Nat.zero_le _, Nat.zero_le _⟩ (fun H locs G => ?_)
  refine lv_if_eq (tgt := 50) hx hb dX11_group_32 (by decide) (fun hc => ?_) (fun hc => ?_)
  · have hf := aw_ite_t hc hf
    exact w_X11_group_J50 X hf  (lv_sub hl [1, 2, 3, 4, 5, 0] rfl) G
  · have hf := aw_ite_f hc hf
    refine lv_iload_n hx hb dX11_group_35 rfl (lv_at hl 4 rfl) ?_
    refine lv_iconst (v := (0 : Int32)) hx hb dX11_group_36 (by decide) ?_
    refine lv_sipush (v := (999 : Int32)) hx hb dX11_group_37 (by decide) ?_
    obtain ⟨z_18, hz_19, hf⟩ := aw_bind_some hf
    refine aw_SI (As := [.int x3, .int ((0 : Int32)), .int ((999 : Int32))]) (rest := []) X G hl.1 cr_X11_103 (c_X11_isIn l hz_19) ⟨rfl, rfl⟩ rfl rfl rfl ⟨Nat.le_of_ble_eq_true rfl, Nat.le_of_ble_eq_true rfl⟩ (Nat.le_of_ble_eq_true rfl) dX11_group_40 ⟨Nat.zero_le _, Nat.zero_le _⟩ (fun H locs G => ?_)
    refine lv_if_eq (tgt := 50) hx hb dX11_group_43 (by decide) (fun hc => ?_) (fun hc => ?_)
    · have hf := aw_ite_t hc hf
      exact w_X11_group_J50 X hf  (lv_sub hl [1, 2, 3, 4, 5, 0] rfl) G
    · have hf := aw_ite_f hc hf
      refine lv_iconst (v := (1 : Int32)) hx hb dX11_group_46 (by decide) ?_
      refine lv_goto (tgt := 51) hx hb dX11_group_47 (by decide) ?_
      exact w_X11_group_J51 X hf  (lv_sub hl [1, 2, 3, 4, 5, 0] rfl) G
set_option maxHeartbeats 4000000 in
set_option maxRecDepth 100000 in
theorem w_X11_group_J21 {z : Int32 × Dt} (X : aw_X p c cX11_group 8 s RX11 m meth (some .int)) {x0 : Nat} {x1 : Int32} {x2 : Int32} {x3 : Int32} {x4 : Int32} {d : Dt} (hf : f_X11_group_J21 σ x0 x1 x2 x3 x4 d = some z)  {H : Heap} {locs : List Loc} {ls : Array Slot} (hl : lv_has ls 8 [(0, .ref (ad x0)), (1, .int x1), (2, .int x2), (3, .int x3), (4, .int x4)]) (G : aw_G D cA base ad σ d s H locs) : W p l e rm_X11_group s m args below meth c H locs 0 0 (aw_Ei D cA base ad σ below args s z) (F0 m 21 ls []) := by
  have hx := X.1; have hb := X.2.1; have hml := X.2.2.1; have hown := X.2.2.2.1
  unfold f_X11_group_J21 at hf
  refine lv_iconst (v := (0 : Int32)) hx hb dX11_group_21 (by decide) ?_
  exact w_X11_group_J22 X hf  (lv_sub hl [0, 1, 2, 3, 4] rfl) G
end W_X11_group
set_option maxHeartbeats 4000000 in
set_option maxRecDepth 100000 in
theorem c_X11_group (l : Launch) {σ : Sg} {x0 : Nat} {x1 : Int32} {x2 : Int32} {x3 : Int32} {x4 : Int32} {d : Dt} {z : Int32 × Dt} (hf : f_X11_group σ x0 x1 x2 x3 x4 d = some z) : aw_Mi l yX11_group (Cond.code yX11_group cX11_group 8 (some .int)) rm_X11_group (fun ad => [.ref (ad x0), .int x1, .int x2, .int x3, .int x4]) σ d z := by
  intro D cA base ad
  refine aw_ofW (own := RX11) (cc := cX11_group) (nL := 8) (ret := some .int) (by decide) rfl rfl ?_
  intro p e s m below meth c X hnm G
  have hx := X.1; have hb := X.2.1; have hml := X.2.2.1; have hown := X.2.2.2.1
  refine aw_ls (lv := [(0, .ref (ad x0)), (1, .int x1), (2, .int x2), (3, .int x3), (4, .int x4)]) (Nat.le_of_ble_eq_true rfl) rfl (fun ls hl => ?_)
  unfold f_X11_group at hf
  refine lv_iload_n hx hb dX11_group_0 rfl (lv_at hl 1 rfl) ?_
  refine lv_iconst (v := (0 : Int32)) hx hb dX11_group_1 (by decide) ?_
  refine lv_iconst (v := (3 : Int32)) hx hb dX11_group_2 (by decide) ?_
  obtain ⟨z_1, hz_2, hf⟩ := aw_bind_some hf
  refine aw_SI (As := [.int x1, .int ((0 : Int32)), .int ((3 : Int32))]) (rest := []) X G hl.1 cr_X11_103 (c_X11_isIn l hz_2) ⟨rfl, rfl⟩ rfl rfl rfl ⟨Nat.le_of_ble_eq_true rfl, Nat.le_of_ble_eq_true rfl⟩ (Nat.le_of_ble_eq_true rfl) dX11_group_3 ⟨Nat.zero_le _, Nat.zero_le _⟩ (fun H locs G => ?_)
  refine lv_if_eq (tgt := 21) hx hb dX11_group_6 (by decide) (fun hc => ?_) (fun hc => ?_)
  · have hf := aw_ite_t hc hf
    exact w_X11_group_J21 X hf  (lv_sub hl [0, 1, 2, 3, 4] rfl) G
  · have hf := aw_ite_f hc hf
    refine lv_iload hx hb dX11_group_9 (lv_at hl 4 rfl) ?_
    obtain ⟨z_20, hz_21, hf⟩ := aw_bind_some hf
    refine aw_SI (As := [.int x4]) (rest := []) X G hl.1 cr_X11_117 (c_X11_isDialect l hz_21) ⟨rfl, rfl⟩ rfl rfl rfl ⟨Nat.le_of_ble_eq_true rfl, Nat.le_of_ble_eq_true rfl⟩ (Nat.le_of_ble_eq_true rfl) dX11_group_11 ⟨Nat.zero_le _, Nat.zero_le _⟩ (fun H locs G => ?_)
    refine lv_if_eq (tgt := 21) hx hb dX11_group_14 (by decide) (fun hc => ?_) (fun hc => ?_)
    · have hf := aw_ite_t hc hf
      exact w_X11_group_J21 X hf  (lv_sub hl [0, 1, 2, 3, 4] rfl) G
    · have hf := aw_ite_f hc hf
      refine lv_iconst (v := (1 : Int32)) hx hb dX11_group_17 (by decide) ?_
      refine lv_goto (tgt := 22) hx hb dX11_group_18 (by decide) ?_
      exact w_X11_group_J22 X hf  (lv_sub hl [0, 1, 2, 3, 4] rfl) G
def rm_X11_scoreOf : Room := { frames := 5, cells := 0, slots := 0, locals := 125 }
def f_X11_scoreOf_B43 (σ : Sg) (kb43 : Int32 → Int32 → Dt → Option (Int32 × Dt)) (k43 : Int32 → Dt → Option (Int32 × Dt)) (x0 : Nat) (x1 : Int32) (x2 : Int32) (x3 : Int32) (x4 : Int32) (x6 : Int32) (x5 : Int32) (x7 : Int32) (d : Dt) : Option (Int32 × Dt) :=
  aw_chk (aw_O σ 11 32 x0) ((σ.2.2 x0 22).bind (fun q_9 => aw_chk (aw_I σ 20 q_9 x6) (if ((((16 : Int32)) * x6) + (d.1 q_9 x6.toNatClampNeg)) ≤ x7 then k43 x5 d else (σ.2.2 x0 5).bind (fun q_12 => aw_chk (aw_I σ 20 q_12 x6) ((σ.2.2 x0 17).bind (fun q_15 => (σ.2.2 x0 21).bind (fun q_17 => aw_chk (aw_I σ 20 q_17 x7) (aw_chk (aw_I σ 20 q_15 (d.1 q_17 x7.toNatClampNeg)) ((f_X11_strokes σ (d.1 q_15 (d.1 q_17 x7.toNatClampNeg).toNatClampNeg) d).bind (fun z_21 => kb43 (x5 + ((d.1 q_12 x6.toNatClampNeg) * z_21.1)) (x7 + 1) z_21.2))))))))))
def f_X11_scoreOf_L43 (σ : Sg) (n : Nat) (k43 : Int32 → Dt → Option (Int32 × Dt)) (x0 : Nat) (x1 : Int32) (x2 : Int32) (x3 : Int32) (x4 : Int32) (x6 : Int32) : Int32 → Int32 → Dt → Option (Int32 × Dt) := match n with
  | 0 => fun _ _ _ => none
  | n + 1 => fun x5 x7 d => f_X11_scoreOf_B43 σ (f_X11_scoreOf_L43 σ n k43 x0 x1 x2 x3 x4 x6) k43 x0 x1 x2 x3 x4 x6 x5 x7 d
def f_X11_scoreOf_B15 (σ : Sg) (kb15 : Int32 → Int32 → Int32 → Dt → Option (Int32 × Dt)) (k15 : Int32 → Int32 → Dt → Option (Int32 × Dt)) (x0 : Nat) (x1 : Int32) (x2 : Int32) (x3 : Int32) (x4 : Int32) (x5 : Int32) (x6 : Int32) (d : Dt) : Option (Int32 × Dt) :=
  aw_chk (aw_O σ 11 32 x0) (if (d.1 x0 2) ≤ x6 then k15 x4 x5 d else (σ.2.2 x0 5).bind (fun q_5 => aw_chk (aw_I σ 20 q_5 x6) (f_X11_scoreOf_L43 σ aw_FU (fun x5_23 d_24 => kb15 (x4 + (d.1 q_5 x6.toNatClampNeg)) x5_23 (x6 + 1) d_24) x0 x1 x2 x3 (x4 + (d.1 q_5 x6.toNatClampNeg)) x6 x5 (((16 : Int32)) * x6) d)))
def f_X11_scoreOf_L15 (σ : Sg) (n : Nat) (k15 : Int32 → Int32 → Dt → Option (Int32 × Dt)) (x0 : Nat) (x1 : Int32) (x2 : Int32) (x3 : Int32) : Int32 → Int32 → Int32 → Dt → Option (Int32 × Dt) := match n with
  | 0 => fun _ _ _ _ => none
  | n + 1 => fun x4 x5 x6 d => f_X11_scoreOf_B15 σ (f_X11_scoreOf_L15 σ n k15 x0 x1 x2 x3) k15 x0 x1 x2 x3 x4 x5 x6 d
def f_X11_scoreOf (σ : Sg) (x0 : Nat) (x1 : Int32) (x2 : Int32) (d : Dt) : Option (Int32 × Dt) :=
  aw_chk (aw_O σ 11 32 x0) ((f_X11_loadOf σ x0 x2 d).bind (fun z_1 => f_X11_scoreOf_L15 σ aw_FU (fun x4_25 x5_26 d_27 => (σ.2.2 x0 19).bind (fun q_28 => aw_chk (aw_I σ 20 q_28 x1) ((σ.2.2 x0 20).bind (fun q_31 => aw_chk (aw_I σ 20 q_31 x1) ((f_X11_fitOf σ x0 x2 (d_27.1 q_31 x1.toNatClampNeg) d_27).bind (fun z_34 => some (((z_1.1 * ((d_27.1 q_28 x1.toNatClampNeg) / (100 : Int32))) + ((x5_26 / (100 : Int32)) * (((d_27.1 q_28 x1.toNatClampNeg) / (10 : Int32)) - ((d_27.1 q_28 x1.toNatClampNeg) / (10 : Int32)) / (10 : Int32) * (10 : Int32)))) + ((x4_25 - z_34.1) * ((z_34.2.1 q_28 x1.toNatClampNeg) - (z_34.2.1 q_28 x1.toNatClampNeg) / (10 : Int32) * (10 : Int32))), z_34.2))))))) x0 x1 x2 z_1.1 ((0 : Int32)) ((0 : Int32)) ((0 : Int32)) z_1.2))
section W_X11_scoreOf
variable {p : Program} {l : Launch} {e : Env} {s : State} {m : MethodId} {args : Array Value} {below : List Frame} {meth : Method} {c : Code}
variable {D : va_G} {cA : Nat → ClassId} {base : Nat} {ad : Nat → Nat} {σ : Sg}
set_option maxHeartbeats 4000000 in
set_option maxRecDepth 100000 in
theorem w_X11_scoreOf_B43 {z : Int32 × Dt} (X : aw_X p c cX11_scoreOf 8 s RX11 m meth (some .int)) {kb43 : Int32 → Int32 → Dt → Option (Int32 × Dt)} {k43 : Int32 → Dt → Option (Int32 × Dt)} {x0 : Nat} {x1 : Int32} {x2 : Int32} {x3 : Int32} {x4 : Int32} {x6 : Int32} {x5 : Int32} {x7 : Int32} {d : Dt} (hf : f_X11_scoreOf_B43 σ kb43 k43 x0 x1 x2 x3 x4 x6 x5 x7 d = some z) (hkb43 : ∀ (y5 : Int32) (y7 : Int32) (d : Dt), kb43 y5 y7 d = some z → ∀ (H : Heap) (locs : List Loc) (ls : Array Slot), lv_has ls 8 [(0, .ref (ad x0)), (1, .int x1), (2, .int x2), (3, .int x3), (4, .int x4), (5, .int y5), (6, .int x6), (7, .int y7)] → aw_G D cA base ad σ d s H locs → W p l e rm_X11_scoreOf s m args below meth c H locs 0 0 (aw_Ei D cA base ad σ below args s z) (F0 m 43 ls [])) (hk43 : ∀ (y5 : Int32) (d : Dt), k43 y5 d = some z → ∀ (H : Heap) (locs : List Loc) (ls : Array Slot), lv_has ls 8 [(0, .ref (ad x0)), (1, .int x1), (2, .int x2), (3, .int x3), (4, .int x4), (5, .int y5), (6, .int x6)] → aw_G D cA base ad σ d s H locs → W p l e rm_X11_scoreOf s m args below meth c H locs 0 0 (aw_Ei D cA base ad σ below args s z) (F0 m 95 ls [])) {H : Heap} {locs : List Loc} {ls : Array Slot} (hl : lv_has ls 8 [(0, .ref (ad x0)), (1, .int x1), (2, .int x2), (3, .int x3), (4, .int x4), (5, .int x5), (6, .int x6), (7, .int x7)]) (G : aw_G D cA base ad σ d s H locs) : W p l e rm_X11_scoreOf s m args below meth c H locs 0 0 (aw_Ei D cA base ad σ below args s z) (F0 m 43 ls []) := by
  have hx := X.1; have hb := X.2.1; have hml := X.2.2.1; have hown := X.2.2.2.1
  unfold f_X11_scoreOf_B43 at hf
  refine lv_iload hx hb dX11_scoreOf_43 (lv_at hl 7 rfl) ?_
  refine lv_bipush (v := (16 : Int32)) hx hb dX11_scoreOf_45 (by decide) ?_
  refine lv_iload hx hb dX11_scoreOf_47 (lv_at hl 6 rfl) ?_
  refine lv_imul hx hb dX11_scoreOf_49 ?_
  refine lv_aload_n hx hb dX11_scoreOf_50 rfl (lv_at hl 0 rfl) ?_
  obtain ⟨hc_8, hf⟩ := aw_chk_some hf
  obtain ⟨q_9, hq_10, hf⟩ := aw_bind_some hf
  refine gf_X11_68 hx hb G hown hc_8 hq_10 dX11_scoreOf_51 ?_
  refine lv_iload hx hb dX11_scoreOf_54 (lv_at hl 6 rfl) ?_
  obtain ⟨hc_11, hf⟩ := aw_chk_some hf
  refine aw_ial hx hb G hc_11 dX11_scoreOf_56 ?_
  refine lv_iadd hx hb dX11_scoreOf_57 ?_
  refine lv_icmp_ge (tgt := 95) hx hb dX11_scoreOf_58 (by decide) (fun hc => ?_) (fun hc => ?_)
  · have hf := aw_ite_t hc hf
    exact hk43 _ _ hf _ _ _ (lv_sub hl [0, 1, 2, 3, 4, 5, 6] rfl) G
  · have hf := aw_ite_f hc hf
    refine lv_iload hx hb dX11_scoreOf_61 (lv_at hl 5 rfl) ?_
    refine lv_aload_n hx hb dX11_scoreOf_63 rfl (lv_at hl 0 rfl) ?_
    obtain ⟨q_12, hq_13, hf⟩ := aw_bind_some hf
    refine gf_X11_19 hx hb G hown hc_8 hq_13 dX11_scoreOf_64 ?_
    refine lv_iload hx hb dX11_scoreOf_67 (lv_at hl 6 rfl) ?_
    obtain ⟨hc_14, hf⟩ := aw_chk_some hf
    refine aw_ial hx hb G hc_14 dX11_scoreOf_69 ?_
    refine lv_aload_n hx hb dX11_scoreOf_70 rfl (lv_at hl 0 rfl) ?_
    obtain ⟨q_15, hq_16, hf⟩ := aw_bind_some hf
    refine gf_X11_53 hx hb G hown hc_8 hq_16 dX11_scoreOf_71 ?_
    refine lv_aload_n hx hb dX11_scoreOf_74 rfl (lv_at hl 0 rfl) ?_
    obtain ⟨q_17, hq_18, hf⟩ := aw_bind_some hf
    refine gf_X11_65 hx hb G hown hc_8 hq_18 dX11_scoreOf_75 ?_
    refine lv_iload hx hb dX11_scoreOf_78 (lv_at hl 7 rfl) ?_
    obtain ⟨hc_19, hf⟩ := aw_chk_some hf
    refine aw_ial hx hb G hc_19 dX11_scoreOf_80 ?_
    obtain ⟨hc_20, hf⟩ := aw_chk_some hf
    refine aw_ial hx hb G hc_20 dX11_scoreOf_81 ?_
    obtain ⟨z_21, hz_22, hf⟩ := aw_bind_some hf
    refine aw_SI (As := [.int (d.1 q_15 (d.1 q_17 x7.toNatClampNeg).toNatClampNeg)]) (rest := [.int (d.1 q_12 x6.toNatClampNeg), .int x5]) X G hl.1 cr_X11_180 (c_X11_strokes l hz_22) ⟨rfl, rfl⟩ rfl rfl rfl ⟨Nat.le_of_ble_eq_true rfl, Nat.le_of_ble_eq_true rfl⟩ (Nat.le_of_ble_eq_true rfl) dX11_scoreOf_82 ⟨Nat.zero_le _, Nat.zero_le _⟩ (fun H locs G => ?_)
    refine lv_imul hx hb dX11_scoreOf_85 ?_
    refine lv_iadd hx hb dX11_scoreOf_86 ?_
    refine lv_istore (lv' := [(5, .int (x5 + ((d.1 q_12 x6.toNatClampNeg) * z_21.1))), (0, .ref (ad x0)), (1, .int x1), (2, .int x2), (3, .int x3), (4, .int x4), (6, .int x6), (7, .int x7)]) hx hb dX11_scoreOf_87 hl (by decide) rfl (fun ls hl => ?_)
    refine lv_iinc (v := x7 + 1) (lv' := [(7, .int (x7 + 1)), (5, .int (x5 + ((d.1 q_12 x6.toNatClampNeg) * z_21.1))), (0, .ref (ad x0)), (1, .int x1), (2, .int x2), (3, .int x3), (4, .int x4), (6, .int x6)]) hx hb dX11_scoreOf_89 hl (k := 7) rfl rfl (by decide) rfl (fun ls hl => ?_)
    refine lv_goto (tgt := 43) hx hb dX11_scoreOf_92 (by decide) ?_
    exact hkb43 _ _ _ hf _ _ _ (lv_sub hl [2, 3, 4, 5, 6, 1, 7, 0] rfl) G
theorem w_X11_scoreOf_L43 {z : Int32 × Dt} (X : aw_X p c cX11_scoreOf 8 s RX11 m meth (some .int)) {k43 : Int32 → Dt → Option (Int32 × Dt)} {x0 : Nat} {x1 : Int32} {x2 : Int32} {x3 : Int32} {x4 : Int32} {x6 : Int32} (n : Nat) {x5 : Int32} {x7 : Int32} {d : Dt} (hf : f_X11_scoreOf_L43 σ n k43 x0 x1 x2 x3 x4 x6 x5 x7 d = some z) (hk43 : ∀ (y5 : Int32) (d : Dt), k43 y5 d = some z → ∀ (H : Heap) (locs : List Loc) (ls : Array Slot), lv_has ls 8 [(0, .ref (ad x0)), (1, .int x1), (2, .int x2), (3, .int x3), (4, .int x4), (5, .int y5), (6, .int x6)] → aw_G D cA base ad σ d s H locs → W p l e rm_X11_scoreOf s m args below meth c H locs 0 0 (aw_Ei D cA base ad σ below args s z) (F0 m 95 ls [])) {H : Heap} {locs : List Loc} {ls : Array Slot} (hl : lv_has ls 8 [(0, .ref (ad x0)), (1, .int x1), (2, .int x2), (3, .int x3), (4, .int x4), (5, .int x5), (6, .int x6), (7, .int x7)]) (G : aw_G D cA base ad σ d s H locs) : W p l e rm_X11_scoreOf s m args below meth c H locs 0 0 (aw_Ei D cA base ad σ below args s z) (F0 m 43 ls []) := by
  induction n generalizing x5 x7 d H locs ls with
  | zero => exact absurd (show (none : Option (Int32 × Dt)) = some z from hf) (by simp)
  | succ n ih => exact w_X11_scoreOf_B43 X (kb43 := f_X11_scoreOf_L43 σ n k43 x0 x1 x2 x3 x4 x6) hf  (fun x5 x7 d hf H locs ls hl G => ih hf hl G) hk43 hl G
set_option maxHeartbeats 4000000 in
set_option maxRecDepth 100000 in
theorem w_X11_scoreOf_B15 {z : Int32 × Dt} (X : aw_X p c cX11_scoreOf 8 s RX11 m meth (some .int)) {kb15 : Int32 → Int32 → Int32 → Dt → Option (Int32 × Dt)} {k15 : Int32 → Int32 → Dt → Option (Int32 × Dt)} {x0 : Nat} {x1 : Int32} {x2 : Int32} {x3 : Int32} {x4 : Int32} {x5 : Int32} {x6 : Int32} {d : Dt} (hf : f_X11_scoreOf_B15 σ kb15 k15 x0 x1 x2 x3 x4 x5 x6 d = some z) (hkb15 : ∀ (y4 : Int32) (y5 : Int32) (y6 : Int32) (d : Dt), kb15 y4 y5 y6 d = some z → ∀ (H : Heap) (locs : List Loc) (ls : Array Slot), lv_has ls 8 [(0, .ref (ad x0)), (1, .int x1), (2, .int x2), (3, .int x3), (4, .int y4), (5, .int y5), (6, .int y6)] → aw_G D cA base ad σ d s H locs → W p l e rm_X11_scoreOf s m args below meth c H locs 0 0 (aw_Ei D cA base ad σ below args s z) (F0 m 15 ls [])) (hk15 : ∀ (y4 : Int32) (y5 : Int32) (d : Dt), k15 y4 y5 d = some z → ∀ (H : Heap) (locs : List Loc) (ls : Array Slot), lv_has ls 8 [(0, .ref (ad x0)), (1, .int x1), (2, .int x2), (3, .int x3), (4, .int y4), (5, .int y5)] → aw_G D cA base ad σ d s H locs → W p l e rm_X11_scoreOf s m args below meth c H locs 0 0 (aw_Ei D cA base ad σ below args s z) (F0 m 101 ls [])) {H : Heap} {locs : List Loc} {ls : Array Slot} (hl : lv_has ls 8 [(0, .ref (ad x0)), (1, .int x1), (2, .int x2), (3, .int x3), (4, .int x4), (5, .int x5), (6, .int x6)]) (G : aw_G D cA base ad σ d s H locs) : W p l e rm_X11_scoreOf s m args below meth c H locs 0 0 (aw_Ei D cA base ad σ below args s z) (F0 m 15 ls []) := by
  have hx := X.1; have hb := X.2.1; have hml := X.2.2.1; have hown := X.2.2.2.1
  unfold f_X11_scoreOf_B15 at hf
  refine lv_iload hx hb dX11_scoreOf_15 (lv_at hl 6 rfl) ?_
  refine lv_aload_n hx hb dX11_scoreOf_17 rfl (lv_at hl 0 rfl) ?_
  obtain ⟨hc_4, hf⟩ := aw_chk_some hf
  refine gf_X11_100 hx hb G hown hc_4 dX11_scoreOf_18 ?_
  refine lv_icmp_ge (tgt := 101) hx hb dX11_scoreOf_21 (by decide) (fun hc => ?_) (fun hc => ?_)
  · have hf := aw_ite_t hc hf
    exact hk15 _ _ _ hf _ _ _ (lv_sub hl [0, 1, 2, 3, 4, 5] rfl) G
  · have hf := aw_ite_f hc hf
    refine lv_iload hx hb dX11_scoreOf_24 (lv_at hl 4 rfl) ?_
    refine lv_aload_n hx hb dX11_scoreOf_26 rfl (lv_at hl 0 rfl) ?_
    obtain ⟨q_5, hq_6, hf⟩ := aw_bind_some hf
    refine gf_X11_19 hx hb G hown hc_4 hq_6 dX11_scoreOf_27 ?_
    refine lv_iload hx hb dX11_scoreOf_30 (lv_at hl 6 rfl) ?_
    obtain ⟨hc_7, hf⟩ := aw_chk_some hf
    refine aw_ial hx hb G hc_7 dX11_scoreOf_32 ?_
    refine lv_iadd hx hb dX11_scoreOf_33 ?_
    refine lv_istore (lv' := [(4, .int (x4 + (d.1 q_5 x6.toNatClampNeg))), (0, .ref (ad x0)), (1, .int x1), (2, .int x2), (3, .int x3), (5, .int x5), (6, .int x6)]) hx hb dX11_scoreOf_34 hl (by decide) rfl (fun ls hl => ?_)
    refine lv_bipush (v := (16 : Int32)) hx hb dX11_scoreOf_36 (by decide) ?_
    refine lv_iload hx hb dX11_scoreOf_38 (lv_at hl 6 rfl) ?_
    refine lv_imul hx hb dX11_scoreOf_40 ?_
    refine lv_istore (lv' := [(7, .int (((16 : Int32)) * x6)), (4, .int (x4 + (d.1 q_5 x6.toNatClampNeg))), (0, .ref (ad x0)), (1, .int x1), (2, .int x2), (3, .int x3), (5, .int x5), (6, .int x6)]) hx hb dX11_scoreOf_41 hl (by decide) rfl (fun ls hl => ?_)
    refine w_X11_scoreOf_L43 X aw_FU hf  (fun x5_23 d_24 hf H locs ls hl G => ?_) (lv_sub hl [2, 3, 4, 5, 1, 6, 7, 0] rfl) G
    refine lv_iinc (v := x6 + 1) (lv' := [(6, .int (x6 + 1)), (0, .ref (ad x0)), (1, .int x1), (2, .int x2), (3, .int x3), (4, .int (x4 + (d.1 q_5 x6.toNatClampNeg))), (5, .int x5_23)]) hx hb dX11_scoreOf_95 hl (k := 6) rfl rfl (by decide) rfl (fun ls hl => ?_)
    refine lv_goto (tgt := 15) hx hb dX11_scoreOf_98 (by decide) ?_
    exact hkb15 _ _ _ _ hf _ _ _ (lv_sub hl [1, 2, 3, 4, 5, 6, 0] rfl) G
theorem w_X11_scoreOf_L15 {z : Int32 × Dt} (X : aw_X p c cX11_scoreOf 8 s RX11 m meth (some .int)) {k15 : Int32 → Int32 → Dt → Option (Int32 × Dt)} {x0 : Nat} {x1 : Int32} {x2 : Int32} {x3 : Int32} (n : Nat) {x4 : Int32} {x5 : Int32} {x6 : Int32} {d : Dt} (hf : f_X11_scoreOf_L15 σ n k15 x0 x1 x2 x3 x4 x5 x6 d = some z) (hk15 : ∀ (y4 : Int32) (y5 : Int32) (d : Dt), k15 y4 y5 d = some z → ∀ (H : Heap) (locs : List Loc) (ls : Array Slot), lv_has ls 8 [(0, .ref (ad x0)), (1, .int x1), (2, .int x2), (3, .int x3), (4, .int y4), (5, .int y5)] → aw_G D cA base ad σ d s H locs → W p l e rm_X11_scoreOf s m args below meth c H locs 0 0 (aw_Ei D cA base ad σ below args s z) (F0 m 101 ls [])) {H : Heap} {locs : List Loc} {ls : Array Slot} (hl : lv_has ls 8 [(0, .ref (ad x0)), (1, .int x1), (2, .int x2), (3, .int x3), (4, .int x4), (5, .int x5), (6, .int x6)]) (G : aw_G D cA base ad σ d s H locs) : W p l e rm_X11_scoreOf s m args below meth c H locs 0 0 (aw_Ei D cA base ad σ below args s z) (F0 m 15 ls []) := by
  induction n generalizing x4 x5 x6 d H locs ls with
  | zero => exact absurd (show (none : Option (Int32 × Dt)) = some z from hf) (by simp)
  | succ n ih => exact w_X11_scoreOf_B15 X (kb15 := f_X11_scoreOf_L15 σ n k15 x0 x1 x2 x3) hf  (fun x4 x5 x6 d hf H locs ls hl G => ih hf hl G) hk15 hl G
end W_X11_scoreOf
set_option maxHeartbeats 4000000 in
set_option maxRecDepth 100000 in
theorem c_X11_scoreOf (l : Launch) {σ : Sg} {x0 : Nat} {x1 : Int32} {x2 : Int32} {d : Dt} {z : Int32 × Dt} (hf : f_X11_scoreOf σ x0 x1 x2 d = some z) : aw_Mi l yX11_scoreOf (Cond.code yX11_scoreOf cX11_scoreOf 8 (some .int)) rm_X11_scoreOf (fun ad => [.ref (ad x0), .int x1, .int x2]) σ d z := by
  intro D cA base ad
  refine aw_ofW (own := RX11) (cc := cX11_scoreOf) (nL := 8) (ret := some .int) (by decide) rfl rfl ?_
  intro p e s m below meth c X hnm G
  have hx := X.1; have hb := X.2.1; have hml := X.2.2.1; have hown := X.2.2.2.1
  refine aw_ls (lv := [(0, .ref (ad x0)), (1, .int x1), (2, .int x2)]) (Nat.le_of_ble_eq_true rfl) rfl (fun ls hl => ?_)
  unfold f_X11_scoreOf at hf
  refine lv_aload_n hx hb dX11_scoreOf_0 rfl (lv_at hl 0 rfl) ?_
  refine lv_iload_n hx hb dX11_scoreOf_1 rfl (lv_at hl 2 rfl) ?_
  obtain ⟨hc_3, hf⟩ := aw_chk_some hf
  obtain ⟨z_1, hz_2, hf⟩ := aw_bind_some hf
  refine aw_VI (As := [.int x2]) (rest := []) X G hl.1 cr_X11_163 (c_X11_loadOf l hz_2) ⟨rfl, rfl⟩ rfl rfl rfl (by decide) hc_3 rfl ⟨Nat.le_of_ble_eq_true rfl, Nat.le_of_ble_eq_true rfl⟩ (Nat.le_of_ble_eq_true rfl) dX11_scoreOf_2 ⟨Nat.zero_le _, Nat.zero_le _⟩ (fun H locs G => ?_)
  refine lv_istore_n (lv' := [(3, .int z_1.1), (0, .ref (ad x0)), (1, .int x1), (2, .int x2)]) hx hb dX11_scoreOf_5 rfl hl (by decide) rfl (fun ls hl => ?_)
  refine lv_iconst (v := (0 : Int32)) hx hb dX11_scoreOf_6 (by decide) ?_
  refine lv_istore (lv' := [(4, .int ((0 : Int32))), (3, .int z_1.1), (0, .ref (ad x0)), (1, .int x1), (2, .int x2)]) hx hb dX11_scoreOf_7 hl (by decide) rfl (fun ls hl => ?_)
  refine lv_iconst (v := (0 : Int32)) hx hb dX11_scoreOf_9 (by decide) ?_
  refine lv_istore (lv' := [(5, .int ((0 : Int32))), (4, .int ((0 : Int32))), (3, .int z_1.1), (0, .ref (ad x0)), (1, .int x1), (2, .int x2)]) hx hb dX11_scoreOf_10 hl (by decide) rfl (fun ls hl => ?_)
  refine lv_iconst (v := (0 : Int32)) hx hb dX11_scoreOf_12 (by decide) ?_
  refine lv_istore (lv' := [(6, .int ((0 : Int32))), (5, .int ((0 : Int32))), (4, .int ((0 : Int32))), (3, .int z_1.1), (0, .ref (ad x0)), (1, .int x1), (2, .int x2)]) hx hb dX11_scoreOf_13 hl (by decide) rfl (fun ls hl => ?_)
  refine w_X11_scoreOf_L15 X aw_FU hf  (fun x4_25 x5_26 d_27 hf H locs ls hl G => ?_) (lv_sub hl [4, 5, 6, 3, 2, 1, 0] rfl) G
  refine lv_iload_n hx hb dX11_scoreOf_101 rfl (lv_at hl 3 rfl) ?_
  refine lv_aload_n hx hb dX11_scoreOf_102 rfl (lv_at hl 0 rfl) ?_
  obtain ⟨q_28, hq_29, hf⟩ := aw_bind_some hf
  refine gf_X11_59 hx hb G hown hc_3 hq_29 dX11_scoreOf_103 ?_
  refine lv_iload_n hx hb dX11_scoreOf_106 rfl (lv_at hl 1 rfl) ?_
  obtain ⟨hc_30, hf⟩ := aw_chk_some hf
  refine aw_ial hx hb G hc_30 dX11_scoreOf_107 ?_
  refine lv_bipush (v := (100 : Int32)) hx hb dX11_scoreOf_108 (by decide) ?_
  refine lv_idiv hx hb dX11_scoreOf_110 (by decide) ?_
  refine lv_imul hx hb dX11_scoreOf_111 ?_
  refine lv_iload hx hb dX11_scoreOf_112 (lv_at hl 5 rfl) ?_
  refine lv_bipush (v := (100 : Int32)) hx hb dX11_scoreOf_114 (by decide) ?_
  refine lv_idiv hx hb dX11_scoreOf_116 (by decide) ?_
  refine lv_aload_n hx hb dX11_scoreOf_117 rfl (lv_at hl 0 rfl) ?_
  refine gf_X11_59 hx hb G hown hc_3 hq_29 dX11_scoreOf_118 ?_
  refine lv_iload_n hx hb dX11_scoreOf_121 rfl (lv_at hl 1 rfl) ?_
  refine aw_ial hx hb G hc_30 dX11_scoreOf_122 ?_
  refine lv_bipush (v := (10 : Int32)) hx hb dX11_scoreOf_123 (by decide) ?_
  refine lv_idiv hx hb dX11_scoreOf_125 (by decide) ?_
  refine lv_bipush (v := (10 : Int32)) hx hb dX11_scoreOf_126 (by decide) ?_
  refine lv_irem hx hb dX11_scoreOf_128 (by decide) ?_
  refine lv_imul hx hb dX11_scoreOf_129 ?_
  refine lv_iadd hx hb dX11_scoreOf_130 ?_
  refine lv_iload hx hb dX11_scoreOf_131 (lv_at hl 4 rfl) ?_
  refine lv_aload_n hx hb dX11_scoreOf_133 rfl (lv_at hl 0 rfl) ?_
  refine lv_iload_n hx hb dX11_scoreOf_134 rfl (lv_at hl 2 rfl) ?_
  refine lv_aload_n hx hb dX11_scoreOf_135 rfl (lv_at hl 0 rfl) ?_
  obtain ⟨q_31, hq_32, hf⟩ := aw_bind_some hf
  refine gf_X11_62 hx hb G hown hc_3 hq_32 dX11_scoreOf_136 ?_
  refine lv_iload_n hx hb dX11_scoreOf_139 rfl (lv_at hl 1 rfl) ?_
  obtain ⟨hc_33, hf⟩ := aw_chk_some hf
  refine aw_ial hx hb G hc_33 dX11_scoreOf_140 ?_
  obtain ⟨z_34, hz_35, hf⟩ := aw_bind_some hf
  refine aw_VI (As := [.int x2, .int (d_27.1 q_31 x1.toNatClampNeg)]) (rest := [.int x4_25, .int ((z_1.1 * ((d_27.1 q_28 x1.toNatClampNeg) / (100 : Int32))) + ((x5_26 / (100 : Int32)) * (((d_27.1 q_28 x1.toNatClampNeg) / (10 : Int32)) - ((d_27.1 q_28 x1.toNatClampNeg) / (10 : Int32)) / (10 : Int32) * (10 : Int32))))]) X G hl.1 cr_X11_177 (c_X11_fitOf l hz_35) ⟨rfl, rfl⟩ rfl rfl rfl (by decide) hc_3 rfl ⟨Nat.le_of_ble_eq_true rfl, Nat.le_of_ble_eq_true rfl⟩ (Nat.le_of_ble_eq_true rfl) dX11_scoreOf_141 ⟨Nat.zero_le _, Nat.zero_le _⟩ (fun H locs G => ?_)
  refine lv_isub hx hb dX11_scoreOf_144 ?_
  refine lv_aload_n hx hb dX11_scoreOf_145 rfl (lv_at hl 0 rfl) ?_
  refine gf_X11_59 hx hb G hown hc_3 hq_29 dX11_scoreOf_146 ?_
  refine lv_iload_n hx hb dX11_scoreOf_149 rfl (lv_at hl 1 rfl) ?_
  refine aw_ial hx hb G hc_30 dX11_scoreOf_150 ?_
  refine lv_bipush (v := (10 : Int32)) hx hb dX11_scoreOf_151 (by decide) ?_
  refine lv_irem hx hb dX11_scoreOf_153 (by decide) ?_
  refine lv_imul hx hb dX11_scoreOf_154 ?_
  refine lv_iadd hx hb dX11_scoreOf_155 ?_
  exact aw_reti X G hf dX11_scoreOf_156
def rm_X11_score : Room := { frames := 6, cells := 0, slots := 0, locals := 152 }
def f_X11_score_J39 (σ : Sg) (t0 : Int32) (d : Dt) : Option (Int32 × Dt) :=
  some (t0, d)
def f_X11_score_J23 (σ : Sg) (t1 : Int32) (t0 : Nat) (x0 : Nat) (x1 : Int32) (x2 : Int32) (d : Dt) : Option (Int32 × Dt) :=
  aw_chk (aw_O σ 11 32 t0) ((f_X11_fails σ t0 t1 d).bind (fun z_3 => if z_3.1 = 0 then aw_chk (aw_O σ 11 32 x0) ((f_X11_scoreOf σ x0 x1 x2 z_3.2).bind (fun z_6 => f_X11_score_J39 σ z_6.1 z_6.2)) else f_X11_score_J39 σ ((0 : Int32)) z_3.2))
def f_X11_score_J22 (σ : Sg) (t0 : Nat) (x0 : Nat) (x1 : Int32) (x2 : Int32) (d : Dt) : Option (Int32 × Dt) :=
  f_X11_score_J23 σ ((1 : Int32)) t0 x0 x1 x2 d
def f_X11_score (σ : Sg) (x0 : Nat) (x1 : Int32) (x2 : Int32) (d : Dt) : Option (Int32 × Dt) :=
  (f_X11_isIn σ x1 ((0 : Int32)) ((3 : Int32)) d).bind (fun z_1 => if z_1.1 = 0 then f_X11_score_J22 σ x0 x0 x1 x2 z_1.2 else aw_chk (aw_O σ 11 32 x0) ((f_X11_isDesign σ x0 x2 z_1.2).bind (fun z_9 => if z_9.1 = 0 then f_X11_score_J22 σ x0 x0 x1 x2 z_9.2 else f_X11_score_J23 σ ((0 : Int32)) x0 x0 x1 x2 z_9.2)))
section W_X11_score
variable {p : Program} {l : Launch} {e : Env} {s : State} {m : MethodId} {args : Array Value} {below : List Frame} {meth : Method} {c : Code}
variable {D : va_G} {cA : Nat → ClassId} {base : Nat} {ad : Nat → Nat} {σ : Sg}
set_option maxHeartbeats 4000000 in
set_option maxRecDepth 100000 in
theorem w_X11_score_J39 {z : Int32 × Dt} (X : aw_X p c cX11_score 3 s RX11 m meth (some .int)) {t0 : Int32} {d : Dt} (hf : f_X11_score_J39 σ t0 d = some z)  {H : Heap} {locs : List Loc} {ls : Array Slot} (hl : lv_has ls 3 []) (G : aw_G D cA base ad σ d s H locs) : W p l e rm_X11_score s m args below meth c H locs 0 0 (aw_Ei D cA base ad σ below args s z) (F0 m 39 ls [.int t0]) := by
  have hx := X.1; have hb := X.2.1; have hml := X.2.2.1; have hown := X.2.2.2.1
  unfold f_X11_score_J39 at hf
  exact aw_reti X G hf dX11_score_39
set_option maxHeartbeats 4000000 in
set_option maxRecDepth 100000 in
theorem w_X11_score_J23 {z : Int32 × Dt} (X : aw_X p c cX11_score 3 s RX11 m meth (some .int)) {t1 : Int32} {t0 : Nat} {x0 : Nat} {x1 : Int32} {x2 : Int32} {d : Dt} (hf : f_X11_score_J23 σ t1 t0 x0 x1 x2 d = some z)  {H : Heap} {locs : List Loc} {ls : Array Slot} (hl : lv_has ls 3 [(0, .ref (ad x0)), (1, .int x1), (2, .int x2)]) (G : aw_G D cA base ad σ d s H locs) : W p l e rm_X11_score s m args below meth c H locs 0 0 (aw_Ei D cA base ad σ below args s z) (F0 m 23 ls [.int t1, .ref (ad t0)]) := by
  have hx := X.1; have hb := X.2.1; have hml := X.2.2.1; have hown := X.2.2.2.1
  unfold f_X11_score_J23 at hf
  obtain ⟨hc_5, hf⟩ := aw_chk_some hf
  obtain ⟨z_3, hz_4, hf⟩ := aw_bind_some hf
  refine aw_VI (As := [.int t1]) (rest := []) X G hl.1 cr_X11_113 (c_X11_fails l hz_4) ⟨rfl, rfl⟩ rfl rfl rfl (by decide) hc_5 rfl ⟨Nat.le_of_ble_eq_true rfl, Nat.le_of_ble_eq_true rfl⟩ (Nat.le_of_ble_eq_true rfl) dX11_score_23 ⟨Nat.zero_le _, Nat.zero_le _⟩ (fun H locs G => ?_)
  refine lv_if_eq (tgt := 33) hx hb dX11_score_26 (by decide) (fun hc => ?_) (fun hc => ?_)
  · have hf := aw_ite_t hc hf
    refine lv_aload_n hx hb dX11_score_33 rfl (lv_at hl 0 rfl) ?_
    refine lv_iload_n hx hb dX11_score_34 rfl (lv_at hl 1 rfl) ?_
    refine lv_iload_n hx hb dX11_score_35 rfl (lv_at hl 2 rfl) ?_
    obtain ⟨hc_8, hf⟩ := aw_chk_some hf
    obtain ⟨z_6, hz_7, hf⟩ := aw_bind_some hf
    refine aw_VI (As := [.int x1, .int x2]) (rest := []) X G hl.1 cr_X11_210 (c_X11_scoreOf l hz_7) ⟨rfl, rfl⟩ rfl rfl rfl (by decide) hc_8 rfl ⟨Nat.le_of_ble_eq_true rfl, Nat.le_of_ble_eq_true rfl⟩ (Nat.le_of_ble_eq_true rfl) dX11_score_36 ⟨Nat.zero_le _, Nat.zero_le _⟩ (fun H locs G => ?_)
    exact w_X11_score_J39 X hf  (lv_sub hl [] rfl) G
  · have hf := aw_ite_f hc hf
    refine lv_iconst (v := (0 : Int32)) hx hb dX11_score_29 (by decide) ?_
    refine lv_goto (tgt := 39) hx hb dX11_score_30 (by decide) ?_
    exact w_X11_score_J39 X hf  (lv_sub hl [] rfl) G
set_option maxHeartbeats 4000000 in
set_option maxRecDepth 100000 in
theorem w_X11_score_J22 {z : Int32 × Dt} (X : aw_X p c cX11_score 3 s RX11 m meth (some .int)) {t0 : Nat} {x0 : Nat} {x1 : Int32} {x2 : Int32} {d : Dt} (hf : f_X11_score_J22 σ t0 x0 x1 x2 d = some z)  {H : Heap} {locs : List Loc} {ls : Array Slot} (hl : lv_has ls 3 [(0, .ref (ad x0)), (1, .int x1), (2, .int x2)]) (G : aw_G D cA base ad σ d s H locs) : W p l e rm_X11_score s m args below meth c H locs 0 0 (aw_Ei D cA base ad σ below args s z) (F0 m 22 ls [.ref (ad t0)]) := by
  have hx := X.1; have hb := X.2.1; have hml := X.2.2.1; have hown := X.2.2.2.1
  unfold f_X11_score_J22 at hf
  refine lv_iconst (v := (1 : Int32)) hx hb dX11_score_22 (by decide) ?_
  exact w_X11_score_J23 X hf  (lv_sub hl [0, 1, 2] rfl) G
end W_X11_score
set_option maxHeartbeats 4000000 in
set_option maxRecDepth 100000 in
theorem c_X11_score (l : Launch) {σ : Sg} {x0 : Nat} {x1 : Int32} {x2 : Int32} {d : Dt} {z : Int32 × Dt} (hf : f_X11_score σ x0 x1 x2 d = some z) : aw_Mi l yX11_score (Cond.code yX11_score cX11_score 3 (some .int)) rm_X11_score (fun ad => [.ref (ad x0), .int x1, .int x2]) σ d z := by
  intro D cA base ad
  refine aw_ofW (own := RX11) (cc := cX11_score) (nL := 3) (ret := some .int) (by decide) rfl rfl ?_
  intro p e s m below meth c X hnm G
  have hx := X.1; have hb := X.2.1; have hml := X.2.2.1; have hown := X.2.2.2.1
  refine aw_ls (lv := [(0, .ref (ad x0)), (1, .int x1), (2, .int x2)]) (Nat.le_of_ble_eq_true rfl) rfl (fun ls hl => ?_)
  unfold f_X11_score at hf
  refine lv_aload_n hx hb dX11_score_0 rfl (lv_at hl 0 rfl) ?_
  refine lv_iload_n hx hb dX11_score_1 rfl (lv_at hl 1 rfl) ?_
  refine lv_iconst (v := (0 : Int32)) hx hb dX11_score_2 (by decide) ?_
  refine lv_iconst (v := (3 : Int32)) hx hb dX11_score_3 (by decide) ?_
  obtain ⟨z_1, hz_2, hf⟩ := aw_bind_some hf
  refine aw_SI (As := [.int x1, .int ((0 : Int32)), .int ((3 : Int32))]) (rest := [.ref (ad x0)]) X G hl.1 cr_X11_103 (c_X11_isIn l hz_2) ⟨rfl, rfl⟩ rfl rfl rfl ⟨Nat.le_of_ble_eq_true rfl, Nat.le_of_ble_eq_true rfl⟩ (Nat.le_of_ble_eq_true rfl) dX11_score_4 ⟨Nat.zero_le _, Nat.zero_le _⟩ (fun H locs G => ?_)
  refine lv_if_eq (tgt := 22) hx hb dX11_score_7 (by decide) (fun hc => ?_) (fun hc => ?_)
  · have hf := aw_ite_t hc hf
    exact w_X11_score_J22 X hf  (lv_sub hl [0, 1, 2] rfl) G
  · have hf := aw_ite_f hc hf
    refine lv_aload_n hx hb dX11_score_10 rfl (lv_at hl 0 rfl) ?_
    refine lv_iload_n hx hb dX11_score_11 rfl (lv_at hl 2 rfl) ?_
    obtain ⟨hc_11, hf⟩ := aw_chk_some hf
    obtain ⟨z_9, hz_10, hf⟩ := aw_bind_some hf
    refine aw_VI (As := [.int x2]) (rest := [.ref (ad x0)]) X G hl.1 cr_X11_146 (c_X11_isDesign l hz_10) ⟨rfl, rfl⟩ rfl rfl rfl (by decide) hc_11 rfl ⟨Nat.le_of_ble_eq_true rfl, Nat.le_of_ble_eq_true rfl⟩ (Nat.le_of_ble_eq_true rfl) dX11_score_12 ⟨Nat.zero_le _, Nat.zero_le _⟩ (fun H locs G => ?_)
    refine lv_if_eq (tgt := 22) hx hb dX11_score_15 (by decide) (fun hc => ?_) (fun hc => ?_)
    · have hf := aw_ite_t hc hf
      exact w_X11_score_J22 X hf  (lv_sub hl [0, 1, 2] rfl) G
    · have hf := aw_ite_f hc hf
      refine lv_iconst (v := (0 : Int32)) hx hb dX11_score_18 (by decide) ?_
      refine lv_goto (tgt := 23) hx hb dX11_score_19 (by decide) ?_
      exact w_X11_score_J23 X hf  (lv_sub hl [0, 1, 2] rfl) G
def rm_X11_isFor : Room := { frames := 6, cells := 0, slots := 0, locals := 152 }
def f_X11_isFor_J79 (σ : Sg) (kb8 : Int32 → Int32 → Int32 → Dt → Option (Int32 × Dt)) (t0 : Int32) (x0 : Nat) (x1 : Int32) (x2 : Int32) (x3 : Int32) (x5 : Int32) (d : Dt) : Option (Int32 × Dt) :=
  kb8 x3 t0 (x5 + 1) d
def f_X11_isFor_J66 (σ : Sg) (kb8 : Int32 → Int32 → Int32 → Dt → Option (Int32 × Dt)) (t0 : Int32) (x0 : Nat) (x1 : Int32) (x2 : Int32) (x4 : Int32) (x5 : Int32) (x6 : Int32) (x7 : Int32) (d : Dt) : Option (Int32 × Dt) :=
  if x7 = 0 then f_X11_isFor_J79 σ kb8 x4 x0 x1 x2 t0 x5 d else f_X11_isFor_J79 σ kb8 x6 x0 x1 x2 t0 x5 d
def f_X11_isFor_J53 (σ : Sg) (kb8 : Int32 → Int32 → Int32 → Dt → Option (Int32 × Dt)) (t0 : Int32) (x0 : Nat) (x1 : Int32) (x2 : Int32) (x3 : Int32) (x4 : Int32) (x5 : Int32) (x6 : Int32) (d : Dt) : Option (Int32 × Dt) :=
  if t0 = 0 then f_X11_isFor_J66 σ kb8 x3 x0 x1 x2 x4 x5 x6 t0 d else f_X11_isFor_J66 σ kb8 x5 x0 x1 x2 x4 x5 x6 t0 d
def f_X11_isFor_J52 (σ : Sg) (kb8 : Int32 → Int32 → Int32 → Dt → Option (Int32 × Dt)) (x0 : Nat) (x1 : Int32) (x2 : Int32) (x3 : Int32) (x4 : Int32) (x5 : Int32) (x6 : Int32) (d : Dt) : Option (Int32 × Dt) :=
  f_X11_isFor_J53 σ kb8 ((0 : Int32)) x0 x1 x2 x3 x4 x5 x6 d
def f_X11_isFor_J48 (σ : Sg) (kb8 : Int32 → Int32 → Int32 → Dt → Option (Int32 × Dt)) (x0 : Nat) (x1 : Int32) (x2 : Int32) (x3 : Int32) (x4 : Int32) (x5 : Int32) (x6 : Int32) (d : Dt) : Option (Int32 × Dt) :=
  f_X11_isFor_J53 σ kb8 ((1 : Int32)) x0 x1 x2 x3 x4 x5 x6 d
def f_X11_isFor_B8 (σ : Sg) (kb8 : Int32 → Int32 → Int32 → Dt → Option (Int32 × Dt)) (k8 : Int32 → Dt → Option (Int32 × Dt)) (x0 : Nat) (x1 : Int32) (x2 : Int32) (x3 : Int32) (x4 : Int32) (x5 : Int32) (d : Dt) : Option (Int32 × Dt) :=
  aw_chk (aw_O σ 11 32 x0) (if (d.1 x0 11) ≤ x5 then k8 x3 d else (f_X11_scoreOf σ x0 x1 x5 d).bind (fun z_2 => if ((x2 >>> (x5 &&& 31)) &&& ((1 : Int32))) = ((1 : Int32)) then if x3 = ((-1 : Int32)) then f_X11_isFor_J48 σ kb8 x0 x1 x2 x3 x4 x5 z_2.1 z_2.2 else if x4 ≤ z_2.1 then f_X11_isFor_J52 σ kb8 x0 x1 x2 x3 x4 x5 z_2.1 z_2.2 else f_X11_isFor_J48 σ kb8 x0 x1 x2 x3 x4 x5 z_2.1 z_2.2 else f_X11_isFor_J52 σ kb8 x0 x1 x2 x3 x4 x5 z_2.1 z_2.2))
def f_X11_isFor_L8 (σ : Sg) (n : Nat) (k8 : Int32 → Dt → Option (Int32 × Dt)) (x0 : Nat) (x1 : Int32) (x2 : Int32) : Int32 → Int32 → Int32 → Dt → Option (Int32 × Dt) := match n with
  | 0 => fun _ _ _ _ => none
  | n + 1 => fun x3 x4 x5 d => f_X11_isFor_B8 σ (f_X11_isFor_L8 σ n k8 x0 x1 x2) k8 x0 x1 x2 x3 x4 x5 d
def f_X11_isFor (σ : Sg) (x0 : Nat) (x1 : Int32) (x2 : Int32) (d : Dt) : Option (Int32 × Dt) :=
  f_X11_isFor_L8 σ aw_FU (fun x3_4 d_5 => some (x3_4, d_5)) x0 x1 x2 ((-1 : Int32)) ((0 : Int32)) ((0 : Int32)) d
section W_X11_isFor
variable {p : Program} {l : Launch} {e : Env} {s : State} {m : MethodId} {args : Array Value} {below : List Frame} {meth : Method} {c : Code}
variable {D : va_G} {cA : Nat → ClassId} {base : Nat} {ad : Nat → Nat} {σ : Sg}
set_option maxHeartbeats 4000000 in
set_option maxRecDepth 100000 in
theorem w_X11_isFor_J79 {z : Int32 × Dt} (X : aw_X p c cX11_isFor 8 s RX11 m meth (some .int)) {kb8 : Int32 → Int32 → Int32 → Dt → Option (Int32 × Dt)} {t0 : Int32} {x0 : Nat} {x1 : Int32} {x2 : Int32} {x3 : Int32} {x5 : Int32} {d : Dt} (hf : f_X11_isFor_J79 σ kb8 t0 x0 x1 x2 x3 x5 d = some z) (hkb8 : ∀ (y3 : Int32) (y4 : Int32) (y5 : Int32) (d : Dt), kb8 y3 y4 y5 d = some z → ∀ (H : Heap) (locs : List Loc) (ls : Array Slot), lv_has ls 8 [(0, .ref (ad x0)), (1, .int x1), (2, .int x2), (3, .int y3), (4, .int y4), (5, .int y5)] → aw_G D cA base ad σ d s H locs → W p l e rm_X11_isFor s m args below meth c H locs 0 0 (aw_Ei D cA base ad σ below args s z) (F0 m 8 ls [])) {H : Heap} {locs : List Loc} {ls : Array Slot} (hl : lv_has ls 8 [(0, .ref (ad x0)), (1, .int x1), (2, .int x2), (3, .int x3), (5, .int x5)]) (G : aw_G D cA base ad σ d s H locs) : W p l e rm_X11_isFor s m args below meth c H locs 0 0 (aw_Ei D cA base ad σ below args s z) (F0 m 79 ls [.int t0]) := by
  have hx := X.1; have hb := X.2.1; have hml := X.2.2.1; have hown := X.2.2.2.1
  unfold f_X11_isFor_J79 at hf
  refine lv_istore (lv' := [(4, .int t0), (0, .ref (ad x0)), (1, .int x1), (2, .int x2), (3, .int x3), (5, .int x5)]) hx hb dX11_isFor_79 hl (by decide) rfl (fun ls hl => ?_)
  refine lv_iinc (v := x5 + 1) (lv' := [(5, .int (x5 + 1)), (4, .int t0), (0, .ref (ad x0)), (1, .int x1), (2, .int x2), (3, .int x3)]) hx hb dX11_isFor_81 hl (k := 5) rfl rfl (by decide) rfl (fun ls hl => ?_)
  refine lv_goto (tgt := 8) hx hb dX11_isFor_84 (by decide) ?_
  exact hkb8 _ _ _ _ hf _ _ _ (lv_sub hl [2, 3, 4, 5, 1, 0] rfl) G
set_option maxHeartbeats 4000000 in
set_option maxRecDepth 100000 in
theorem w_X11_isFor_J66 {z : Int32 × Dt} (X : aw_X p c cX11_isFor 8 s RX11 m meth (some .int)) {kb8 : Int32 → Int32 → Int32 → Dt → Option (Int32 × Dt)} {t0 : Int32} {x0 : Nat} {x1 : Int32} {x2 : Int32} {x4 : Int32} {x5 : Int32} {x6 : Int32} {x7 : Int32} {d : Dt} (hf : f_X11_isFor_J66 σ kb8 t0 x0 x1 x2 x4 x5 x6 x7 d = some z) (hkb8 : ∀ (y3 : Int32) (y4 : Int32) (y5 : Int32) (d : Dt), kb8 y3 y4 y5 d = some z → ∀ (H : Heap) (locs : List Loc) (ls : Array Slot), lv_has ls 8 [(0, .ref (ad x0)), (1, .int x1), (2, .int x2), (3, .int y3), (4, .int y4), (5, .int y5)] → aw_G D cA base ad σ d s H locs → W p l e rm_X11_isFor s m args below meth c H locs 0 0 (aw_Ei D cA base ad σ below args s z) (F0 m 8 ls [])) {H : Heap} {locs : List Loc} {ls : Array Slot} (hl : lv_has ls 8 [(0, .ref (ad x0)), (1, .int x1), (2, .int x2), (4, .int x4), (5, .int x5), (6, .int x6), (7, .int x7)]) (G : aw_G D cA base ad σ d s H locs) : W p l e rm_X11_isFor s m args below meth c H locs 0 0 (aw_Ei D cA base ad σ below args s z) (F0 m 66 ls [.int t0]) := by
  have hx := X.1; have hb := X.2.1; have hml := X.2.2.1; have hown := X.2.2.2.1
  unfold f_X11_isFor_J66 at hf
  refine lv_istore_n (lv' := [(3, .int t0), (0, .ref (ad x0)), (1, .int x1), (2, .int x2), (4, .int x4), (5, .int x5), (6, .int x6), (7, .int x7)]) hx hb dX11_isFor_66 rfl hl (by decide) rfl (fun ls hl => ?_)
  refine lv_iload hx hb dX11_isFor_67 (lv_at hl 7 rfl) ?_
  refine lv_if_eq (tgt := 77) hx hb dX11_isFor_69 (by decide) (fun hc => ?_) (fun hc => ?_)
  · have hf := aw_ite_t hc hf
    refine lv_iload hx hb dX11_isFor_77 (lv_at hl 4 rfl) ?_
    exact w_X11_isFor_J79 X hf hkb8 (lv_sub hl [1, 2, 3, 0, 5] rfl) G
  · have hf := aw_ite_f hc hf
    refine lv_iload hx hb dX11_isFor_72 (lv_at hl 6 rfl) ?_
    refine lv_goto (tgt := 79) hx hb dX11_isFor_74 (by decide) ?_
    exact w_X11_isFor_J79 X hf hkb8 (lv_sub hl [1, 2, 3, 0, 5] rfl) G
set_option maxHeartbeats 4000000 in
set_option maxRecDepth 100000 in
theorem w_X11_isFor_J53 {z : Int32 × Dt} (X : aw_X p c cX11_isFor 8 s RX11 m meth (some .int)) {kb8 : Int32 → Int32 → Int32 → Dt → Option (Int32 × Dt)} {t0 : Int32} {x0 : Nat} {x1 : Int32} {x2 : Int32} {x3 : Int32} {x4 : Int32} {x5 : Int32} {x6 : Int32} {d : Dt} (hf : f_X11_isFor_J53 σ kb8 t0 x0 x1 x2 x3 x4 x5 x6 d = some z) (hkb8 : ∀ (y3 : Int32) (y4 : Int32) (y5 : Int32) (d : Dt), kb8 y3 y4 y5 d = some z → ∀ (H : Heap) (locs : List Loc) (ls : Array Slot), lv_has ls 8 [(0, .ref (ad x0)), (1, .int x1), (2, .int x2), (3, .int y3), (4, .int y4), (5, .int y5)] → aw_G D cA base ad σ d s H locs → W p l e rm_X11_isFor s m args below meth c H locs 0 0 (aw_Ei D cA base ad σ below args s z) (F0 m 8 ls [])) {H : Heap} {locs : List Loc} {ls : Array Slot} (hl : lv_has ls 8 [(0, .ref (ad x0)), (1, .int x1), (2, .int x2), (3, .int x3), (4, .int x4), (5, .int x5), (6, .int x6)]) (G : aw_G D cA base ad σ d s H locs) : W p l e rm_X11_isFor s m args below meth c H locs 0 0 (aw_Ei D cA base ad σ below args s z) (F0 m 53 ls [.int t0]) := by
  have hx := X.1; have hb := X.2.1; have hml := X.2.2.1; have hown := X.2.2.2.1
  unfold f_X11_isFor_J53 at hf
  refine lv_istore (lv' := [(7, .int t0), (0, .ref (ad x0)), (1, .int x1), (2, .int x2), (3, .int x3), (4, .int x4), (5, .int x5), (6, .int x6)]) hx hb dX11_isFor_53 hl (by decide) rfl (fun ls hl => ?_)
  refine lv_iload hx hb dX11_isFor_55 (lv_at hl 0 rfl) ?_
  refine lv_if_eq (tgt := 65) hx hb dX11_isFor_57 (by decide) (fun hc => ?_) (fun hc => ?_)
  · have hf := aw_ite_t hc hf
    refine lv_iload_n hx hb dX11_isFor_65 rfl (lv_at hl 4 rfl) ?_
    exact w_X11_isFor_J66 X hf hkb8 (lv_sub hl [1, 2, 3, 5, 6, 7, 0] rfl) G
  · have hf := aw_ite_f hc hf
    refine lv_iload hx hb dX11_isFor_60 (lv_at hl 6 rfl) ?_
    refine lv_goto (tgt := 66) hx hb dX11_isFor_62 (by decide) ?_
    exact w_X11_isFor_J66 X hf hkb8 (lv_sub hl [1, 2, 3, 5, 6, 7, 0] rfl) G
set_option maxHeartbeats 4000000 in
set_option maxRecDepth 100000 in
theorem w_X11_isFor_J52 {z : Int32 × Dt} (X : aw_X p c cX11_isFor 8 s RX11 m meth (some .int)) {kb8 : Int32 → Int32 → Int32 → Dt → Option (Int32 × Dt)} {x0 : Nat} {x1 : Int32} {x2 : Int32} {x3 : Int32} {x4 : Int32} {x5 : Int32} {x6 : Int32} {d : Dt} (hf : f_X11_isFor_J52 σ kb8 x0 x1 x2 x3 x4 x5 x6 d = some z) (hkb8 : ∀ (y3 : Int32) (y4 : Int32) (y5 : Int32) (d : Dt), kb8 y3 y4 y5 d = some z → ∀ (H : Heap) (locs : List Loc) (ls : Array Slot), lv_has ls 8 [(0, .ref (ad x0)), (1, .int x1), (2, .int x2), (3, .int y3), (4, .int y4), (5, .int y5)] → aw_G D cA base ad σ d s H locs → W p l e rm_X11_isFor s m args below meth c H locs 0 0 (aw_Ei D cA base ad σ below args s z) (F0 m 8 ls [])) {H : Heap} {locs : List Loc} {ls : Array Slot} (hl : lv_has ls 8 [(0, .ref (ad x0)), (1, .int x1), (2, .int x2), (3, .int x3), (4, .int x4), (5, .int x5), (6, .int x6)]) (G : aw_G D cA base ad σ d s H locs) : W p l e rm_X11_isFor s m args below meth c H locs 0 0 (aw_Ei D cA base ad σ below args s z) (F0 m 52 ls []) := by
  have hx := X.1; have hb := X.2.1; have hml := X.2.2.1; have hown := X.2.2.2.1
  unfold f_X11_isFor_J52 at hf
  refine lv_iconst (v := (0 : Int32)) hx hb dX11_isFor_52 (by decide) ?_
  exact w_X11_isFor_J53 X hf hkb8 (lv_sub hl [0, 1, 2, 3, 4, 5, 6] rfl) G
set_option maxHeartbeats 4000000 in
set_option maxRecDepth 100000 in
theorem w_X11_isFor_J48 {z : Int32 × Dt} (X : aw_X p c cX11_isFor 8 s RX11 m meth (some .int)) {kb8 : Int32 → Int32 → Int32 → Dt → Option (Int32 × Dt)} {x0 : Nat} {x1 : Int32} {x2 : Int32} {x3 : Int32} {x4 : Int32} {x5 : Int32} {x6 : Int32} {d : Dt} (hf : f_X11_isFor_J48 σ kb8 x0 x1 x2 x3 x4 x5 x6 d = some z) (hkb8 : ∀ (y3 : Int32) (y4 : Int32) (y5 : Int32) (d : Dt), kb8 y3 y4 y5 d = some z → ∀ (H : Heap) (locs : List Loc) (ls : Array Slot), lv_has ls 8 [(0, .ref (ad x0)), (1, .int x1), (2, .int x2), (3, .int y3), (4, .int y4), (5, .int y5)] → aw_G D cA base ad σ d s H locs → W p l e rm_X11_isFor s m args below meth c H locs 0 0 (aw_Ei D cA base ad σ below args s z) (F0 m 8 ls [])) {H : Heap} {locs : List Loc} {ls : Array Slot} (hl : lv_has ls 8 [(0, .ref (ad x0)), (1, .int x1), (2, .int x2), (3, .int x3), (4, .int x4), (5, .int x5), (6, .int x6)]) (G : aw_G D cA base ad σ d s H locs) : W p l e rm_X11_isFor s m args below meth c H locs 0 0 (aw_Ei D cA base ad σ below args s z) (F0 m 48 ls []) := by
  have hx := X.1; have hb := X.2.1; have hml := X.2.2.1; have hown := X.2.2.2.1
  unfold f_X11_isFor_J48 at hf
  refine lv_iconst (v := (1 : Int32)) hx hb dX11_isFor_48 (by decide) ?_
  refine lv_goto (tgt := 53) hx hb dX11_isFor_49 (by decide) ?_
  exact w_X11_isFor_J53 X hf hkb8 (lv_sub hl [0, 1, 2, 3, 4, 5, 6] rfl) G
set_option maxHeartbeats 4000000 in
set_option maxRecDepth 100000 in
theorem w_X11_isFor_B8 {z : Int32 × Dt} (X : aw_X p c cX11_isFor 8 s RX11 m meth (some .int)) {kb8 : Int32 → Int32 → Int32 → Dt → Option (Int32 × Dt)} {k8 : Int32 → Dt → Option (Int32 × Dt)} {x0 : Nat} {x1 : Int32} {x2 : Int32} {x3 : Int32} {x4 : Int32} {x5 : Int32} {d : Dt} (hf : f_X11_isFor_B8 σ kb8 k8 x0 x1 x2 x3 x4 x5 d = some z) (hkb8 : ∀ (y3 : Int32) (y4 : Int32) (y5 : Int32) (d : Dt), kb8 y3 y4 y5 d = some z → ∀ (H : Heap) (locs : List Loc) (ls : Array Slot), lv_has ls 8 [(0, .ref (ad x0)), (1, .int x1), (2, .int x2), (3, .int y3), (4, .int y4), (5, .int y5)] → aw_G D cA base ad σ d s H locs → W p l e rm_X11_isFor s m args below meth c H locs 0 0 (aw_Ei D cA base ad σ below args s z) (F0 m 8 ls [])) (hk8 : ∀ (y3 : Int32) (d : Dt), k8 y3 d = some z → ∀ (H : Heap) (locs : List Loc) (ls : Array Slot), lv_has ls 8 [(3, .int y3)] → aw_G D cA base ad σ d s H locs → W p l e rm_X11_isFor s m args below meth c H locs 0 0 (aw_Ei D cA base ad σ below args s z) (F0 m 87 ls [])) {H : Heap} {locs : List Loc} {ls : Array Slot} (hl : lv_has ls 8 [(0, .ref (ad x0)), (1, .int x1), (2, .int x2), (3, .int x3), (4, .int x4), (5, .int x5)]) (G : aw_G D cA base ad σ d s H locs) : W p l e rm_X11_isFor s m args below meth c H locs 0 0 (aw_Ei D cA base ad σ below args s z) (F0 m 8 ls []) := by
  have hx := X.1; have hb := X.2.1; have hml := X.2.2.1; have hown := X.2.2.2.1
  unfold f_X11_isFor_B8 at hf
  refine lv_iload hx hb dX11_isFor_8 (lv_at hl 5 rfl) ?_
  refine lv_aload_n hx hb dX11_isFor_10 rfl (lv_at hl 0 rfl) ?_
  obtain ⟨hc_1, hf⟩ := aw_chk_some hf
  refine gf_X11_107 hx hb G hown hc_1 dX11_isFor_11 ?_
  refine lv_icmp_ge (tgt := 87) hx hb dX11_isFor_14 (by decide) (fun hc => ?_) (fun hc => ?_)
  · have hf := aw_ite_t hc hf
    exact hk8 _ _ hf _ _ _ (lv_sub hl [3] rfl) G
  · have hf := aw_ite_f hc hf
    refine lv_aload_n hx hb dX11_isFor_17 rfl (lv_at hl 0 rfl) ?_
    refine lv_iload_n hx hb dX11_isFor_18 rfl (lv_at hl 1 rfl) ?_
    refine lv_iload hx hb dX11_isFor_19 (lv_at hl 5 rfl) ?_
    obtain ⟨z_2, hz_3, hf⟩ := aw_bind_some hf
    refine aw_VI (As := [.int x1, .int x5]) (rest := []) X G hl.1 cr_X11_210 (c_X11_scoreOf l hz_3) ⟨rfl, rfl⟩ rfl rfl rfl (by decide) hc_1 rfl ⟨Nat.le_of_ble_eq_true rfl, Nat.le_of_ble_eq_true rfl⟩ (Nat.le_of_ble_eq_true rfl) dX11_isFor_21 ⟨Nat.zero_le _, Nat.zero_le _⟩ (fun H locs G => ?_)
    refine lv_istore (lv' := [(6, .int z_2.1), (0, .ref (ad x0)), (1, .int x1), (2, .int x2), (3, .int x3), (4, .int x4), (5, .int x5)]) hx hb dX11_isFor_24 hl (by decide) rfl (fun ls hl => ?_)
    refine lv_iload_n hx hb dX11_isFor_26 rfl (lv_at hl 3 rfl) ?_
    refine lv_iload hx hb dX11_isFor_27 (lv_at hl 6 rfl) ?_
    refine lv_ishr hx hb dX11_isFor_29 ?_
    refine lv_iconst (v := (1 : Int32)) hx hb dX11_isFor_30 (by decide) ?_
    refine lv_iand hx hb dX11_isFor_31 ?_
    refine lv_iconst (v := (1 : Int32)) hx hb dX11_isFor_32 (by decide) ?_
    refine lv_icmp_ne (tgt := 52) hx hb dX11_isFor_33 (by decide) (fun hc => ?_) (fun hc => ?_)
    · have hf := aw_ite_f hc hf
      exact w_X11_isFor_J52 X hf hkb8 (lv_sub hl [1, 2, 3, 4, 5, 6, 0] rfl) G
    · have hf := aw_ite_t hc hf
      refine lv_iload_n hx hb dX11_isFor_36 rfl (lv_at hl 4 rfl) ?_
      refine lv_iconst (v := (-1 : Int32)) hx hb dX11_isFor_37 (by decide) ?_
      refine lv_icmp_eq (tgt := 48) hx hb dX11_isFor_38 (by decide) (fun hc => ?_) (fun hc => ?_)
      · have hf := aw_ite_t hc hf
        exact w_X11_isFor_J48 X hf hkb8 (lv_sub hl [1, 2, 3, 4, 5, 6, 0] rfl) G
      · have hf := aw_ite_f hc hf
        refine lv_iload hx hb dX11_isFor_41 (lv_at hl 0 rfl) ?_
        refine lv_iload hx hb dX11_isFor_43 (lv_at hl 5 rfl) ?_
        refine lv_icmp_ge (tgt := 52) hx hb dX11_isFor_45 (by decide) (fun hc => ?_) (fun hc => ?_)
        · have hf := aw_ite_t hc hf
          exact w_X11_isFor_J52 X hf hkb8 (lv_sub hl [1, 2, 3, 4, 5, 6, 0] rfl) G
        · have hf := aw_ite_f hc hf
          exact w_X11_isFor_J48 X hf hkb8 (lv_sub hl [1, 2, 3, 4, 5, 6, 0] rfl) G
theorem w_X11_isFor_L8 {z : Int32 × Dt} (X : aw_X p c cX11_isFor 8 s RX11 m meth (some .int)) {k8 : Int32 → Dt → Option (Int32 × Dt)} {x0 : Nat} {x1 : Int32} {x2 : Int32} (n : Nat) {x3 : Int32} {x4 : Int32} {x5 : Int32} {d : Dt} (hf : f_X11_isFor_L8 σ n k8 x0 x1 x2 x3 x4 x5 d = some z) (hk8 : ∀ (y3 : Int32) (d : Dt), k8 y3 d = some z → ∀ (H : Heap) (locs : List Loc) (ls : Array Slot), lv_has ls 8 [(3, .int y3)] → aw_G D cA base ad σ d s H locs → W p l e rm_X11_isFor s m args below meth c H locs 0 0 (aw_Ei D cA base ad σ below args s z) (F0 m 87 ls [])) {H : Heap} {locs : List Loc} {ls : Array Slot} (hl : lv_has ls 8 [(0, .ref (ad x0)), (1, .int x1), (2, .int x2), (3, .int x3), (4, .int x4), (5, .int x5)]) (G : aw_G D cA base ad σ d s H locs) : W p l e rm_X11_isFor s m args below meth c H locs 0 0 (aw_Ei D cA base ad σ below args s z) (F0 m 8 ls []) := by
  induction n generalizing x3 x4 x5 d H locs ls with
  | zero => exact absurd (show (none : Option (Int32 × Dt)) = some z from hf) (by simp)
  | succ n ih => exact w_X11_isFor_B8 X (kb8 := f_X11_isFor_L8 σ n k8 x0 x1 x2) hf  (fun x3 x4 x5 d hf H locs ls hl G => ih hf hl G) hk8 hl G
end W_X11_isFor
set_option maxHeartbeats 4000000 in
set_option maxRecDepth 100000 in
theorem c_X11_isFor (l : Launch) {σ : Sg} {x0 : Nat} {x1 : Int32} {x2 : Int32} {d : Dt} {z : Int32 × Dt} (hf : f_X11_isFor σ x0 x1 x2 d = some z) : aw_Mi l yX11_isFor (Cond.code yX11_isFor cX11_isFor 8 (some .int)) rm_X11_isFor (fun ad => [.ref (ad x0), .int x1, .int x2]) σ d z := by
  intro D cA base ad
  refine aw_ofW (own := RX11) (cc := cX11_isFor) (nL := 8) (ret := some .int) (by decide) rfl rfl ?_
  intro p e s m below meth c X hnm G
  have hx := X.1; have hb := X.2.1; have hml := X.2.2.1; have hown := X.2.2.2.1
  refine aw_ls (lv := [(0, .ref (ad x0)), (1, .int x1), (2, .int x2)]) (Nat.le_of_ble_eq_true rfl) rfl (fun ls hl => ?_)
  unfold f_X11_isFor at hf
  refine lv_iconst (v := (-1 : Int32)) hx hb dX11_isFor_0 (by decide) ?_
  refine lv_istore_n (lv' := [(3, .int ((-1 : Int32))), (0, .ref (ad x0)), (1, .int x1), (2, .int x2)]) hx hb dX11_isFor_1 rfl hl (by decide) rfl (fun ls hl => ?_)
  refine lv_iconst (v := (0 : Int32)) hx hb dX11_isFor_2 (by decide) ?_
  refine lv_istore (lv' := [(4, .int ((0 : Int32))), (3, .int ((-1 : Int32))), (0, .ref (ad x0)), (1, .int x1), (2, .int x2)]) hx hb dX11_isFor_3 hl (by decide) rfl (fun ls hl => ?_)
  refine lv_iconst (v := (0 : Int32)) hx hb dX11_isFor_5 (by decide) ?_
  refine lv_istore (lv' := [(5, .int ((0 : Int32))), (4, .int ((0 : Int32))), (3, .int ((-1 : Int32))), (0, .ref (ad x0)), (1, .int x1), (2, .int x2)]) hx hb dX11_isFor_6 hl (by decide) rfl (fun ls hl => ?_)
  refine w_X11_isFor_L8 X aw_FU hf  (fun x3_4 d_5 hf H locs ls hl G => ?_) (lv_sub hl [3, 4, 5, 2, 1, 0] rfl) G
  refine lv_iload_n hx hb dX11_isFor_87 rfl (lv_at hl 0 rfl) ?_
  exact aw_reti X G hf dX11_isFor_88
def rm_X11_votes : Room := { frames := 7, cells := 0, slots := 0, locals := 179 }
def f_X11_votes_J59 (σ : Sg) (kb26 : Int32 → Int32 → Dt → Option (Int32 × Dt)) (t1 : Int32) (t0 : Int32) (x0 : Nat) (x1 : Int32) (x3 : Int32) (d : Dt) : Option (Int32 × Dt) :=
  kb26 (t0 + t1) (x3 + 1) d
def f_X11_votes_B26 (σ : Sg) (kb26 : Int32 → Int32 → Dt → Option (Int32 × Dt)) (k26 : Int32 → Dt → Option (Int32 × Dt)) (x0 : Nat) (x1 : Int32) (x2 : Int32) (x3 : Int32) (d : Dt) : Option (Int32 × Dt) :=
  if ((4 : Int32)) ≤ x3 then k26 x2 d else aw_chk (aw_O σ 11 32 x0) ((f_X11_isFor σ x0 x3 ((((1 : Int32)) <<< ((d.1 x0 11) &&& 31)) - ((1 : Int32))) d).bind (fun z_8 => if z_8.1 = x1 then (σ.2.2 x0 18).bind (fun q_10 => aw_chk (aw_I σ 20 q_10 x3) (f_X11_votes_J59 σ kb26 (z_8.2.1 q_10 x3.toNatClampNeg) x2 x0 x1 x3 z_8.2)) else f_X11_votes_J59 σ kb26 ((0 : Int32)) x2 x0 x1 x3 z_8.2))
def f_X11_votes_L26 (σ : Sg) (n : Nat) (k26 : Int32 → Dt → Option (Int32 × Dt)) (x0 : Nat) (x1 : Int32) : Int32 → Int32 → Dt → Option (Int32 × Dt) := match n with
  | 0 => fun _ _ _ => none
  | n + 1 => fun x2 x3 d => f_X11_votes_B26 σ (f_X11_votes_L26 σ n k26 x0 x1) k26 x0 x1 x2 x3 d
def f_X11_votes_J14 (σ : Sg) (t1 : Int32) (t0 : Nat) (x0 : Nat) (x1 : Int32) (d : Dt) : Option (Int32 × Dt) :=
  aw_chk (aw_O σ 11 32 t0) ((f_X11_fails σ t0 t1 d).bind (fun z_4 => if z_4.1 = 0 then f_X11_votes_L26 σ aw_FU (fun x2_13 d_14 => some (x2_13, d_14)) x0 x1 ((0 : Int32)) ((0 : Int32)) z_4.2 else some ((0 : Int32), z_4.2)))
def f_X11_votes (σ : Sg) (x0 : Nat) (x1 : Int32) (d : Dt) : Option (Int32 × Dt) :=
  aw_chk (aw_O σ 11 32 x0) ((f_X11_isDesign σ x0 x1 d).bind (fun z_1 => if z_1.1 = 0 then f_X11_votes_J14 σ ((1 : Int32)) x0 x0 x1 z_1.2 else f_X11_votes_J14 σ ((0 : Int32)) x0 x0 x1 z_1.2))
section W_X11_votes
variable {p : Program} {l : Launch} {e : Env} {s : State} {m : MethodId} {args : Array Value} {below : List Frame} {meth : Method} {c : Code}
variable {D : va_G} {cA : Nat → ClassId} {base : Nat} {ad : Nat → Nat} {σ : Sg}
set_option maxHeartbeats 4000000 in
set_option maxRecDepth 100000 in
theorem w_X11_votes_J59 {z : Int32 × Dt} (X : aw_X p c cX11_votes 4 s RX11 m meth (some .int)) {kb26 : Int32 → Int32 → Dt → Option (Int32 × Dt)} {t1 : Int32} {t0 : Int32} {x0 : Nat} {x1 : Int32} {x3 : Int32} {d : Dt} (hf : f_X11_votes_J59 σ kb26 t1 t0 x0 x1 x3 d = some z) (hkb26 : ∀ (y2 : Int32) (y3 : Int32) (d : Dt), kb26 y2 y3 d = some z → ∀ (H : Heap) (locs : List Loc) (ls : Array Slot), lv_has ls 4 [(0, .ref (ad x0)), (1, .int x1), (2, .int y2), (3, .int y3)] → aw_G D cA base ad σ d s H locs → W p l e rm_X11_votes s m args below meth c H locs 0 0 (aw_Ei D cA base ad σ below args s z) (F0 m 26 ls [])) {H : Heap} {locs : List Loc} {ls : Array Slot} (hl : lv_has ls 4 [(0, .ref (ad x0)), (1, .int x1), (3, .int x3)]) (G : aw_G D cA base ad σ d s H locs) : W p l e rm_X11_votes s m args below meth c H locs 0 0 (aw_Ei D cA base ad σ below args s z) (F0 m 59 ls [.int t1, .int t0]) := by
  have hx := X.1; have hb := X.2.1; have hml := X.2.2.1; have hown := X.2.2.2.1
  unfold f_X11_votes_J59 at hf
  refine lv_iadd hx hb dX11_votes_59 ?_
  refine lv_istore_n (lv' := [(2, .int (t0 + t1)), (0, .ref (ad x0)), (1, .int x1), (3, .int x3)]) hx hb dX11_votes_60 rfl hl (by decide) rfl (fun ls hl => ?_)
  refine lv_iinc (v := x3 + 1) (lv' := [(3, .int (x3 + 1)), (2, .int (t0 + t1)), (0, .ref (ad x0)), (1, .int x1)]) hx hb dX11_votes_61 hl (k := 3) rfl rfl (by decide) rfl (fun ls hl => ?_)
  refine lv_goto (tgt := 26) hx hb dX11_votes_64 (by decide) ?_
  exact hkb26 _ _ _ hf _ _ _ (lv_sub hl [2, 3, 1, 0] rfl) G
set_option maxHeartbeats 4000000 in
set_option maxRecDepth 100000 in
theorem w_X11_votes_B26 {z : Int32 × Dt} (X : aw_X p c cX11_votes 4 s RX11 m meth (some .int)) {kb26 : Int32 → Int32 → Dt → Option (Int32 × Dt)} {k26 : Int32 → Dt → Option (Int32 × Dt)} {x0 : Nat} {x1 : Int32} {x2 : Int32} {x3 : Int32} {d : Dt} (hf : f_X11_votes_B26 σ kb26 k26 x0 x1 x2 x3 d = some z) (hkb26 : ∀ (y2 : Int32) (y3 : Int32) (d : Dt), kb26 y2 y3 d = some z → ∀ (H : Heap) (locs : List Loc) (ls : Array Slot), lv_has ls 4 [(0, .ref (ad x0)), (1, .int x1), (2, .int y2), (3, .int y3)] → aw_G D cA base ad σ d s H locs → W p l e rm_X11_votes s m args below meth c H locs 0 0 (aw_Ei D cA base ad σ below args s z) (F0 m 26 ls [])) (hk26 : ∀ (y2 : Int32) (d : Dt), k26 y2 d = some z → ∀ (H : Heap) (locs : List Loc) (ls : Array Slot), lv_has ls 4 [(2, .int y2)] → aw_G D cA base ad σ d s H locs → W p l e rm_X11_votes s m args below meth c H locs 0 0 (aw_Ei D cA base ad σ below args s z) (F0 m 67 ls [])) {H : Heap} {locs : List Loc} {ls : Array Slot} (hl : lv_has ls 4 [(0, .ref (ad x0)), (1, .int x1), (2, .int x2), (3, .int x3)]) (G : aw_G D cA base ad σ d s H locs) : W p l e rm_X11_votes s m args below meth c H locs 0 0 (aw_Ei D cA base ad σ below args s z) (F0 m 26 ls []) := by
  have hx := X.1; have hb := X.2.1; have hml := X.2.2.1; have hown := X.2.2.2.1
  unfold f_X11_votes_B26 at hf
  refine lv_iload_n hx hb dX11_votes_26 rfl (lv_at hl 3 rfl) ?_
  refine lv_iconst (v := (4 : Int32)) hx hb dX11_votes_27 (by decide) ?_
  refine lv_icmp_ge (tgt := 67) hx hb dX11_votes_28 (by decide) (fun hc => ?_) (fun hc => ?_)
  · have hf := aw_ite_t hc hf
    exact hk26 _ _ hf _ _ _ (lv_sub hl [2] rfl) G
  · have hf := aw_ite_f hc hf
    refine lv_iload_n hx hb dX11_votes_31 rfl (lv_at hl 2 rfl) ?_
    refine lv_aload_n hx hb dX11_votes_32 rfl (lv_at hl 0 rfl) ?_
    refine lv_iload_n hx hb dX11_votes_33 rfl (lv_at hl 3 rfl) ?_
    refine lv_iconst (v := (1 : Int32)) hx hb dX11_votes_34 (by decide) ?_
    refine lv_aload_n hx hb dX11_votes_35 rfl (lv_at hl 0 rfl) ?_
    obtain ⟨hc_7, hf⟩ := aw_chk_some hf
    refine gf_X11_107 hx hb G hown hc_7 dX11_votes_36 ?_
    refine lv_ishl hx hb dX11_votes_39 ?_
    refine lv_iconst (v := (1 : Int32)) hx hb dX11_votes_40 (by decide) ?_
    refine lv_isub hx hb dX11_votes_41 ?_
    obtain ⟨z_8, hz_9, hf⟩ := aw_bind_some hf
    refine aw_VI (As := [.int x3, .int ((((1 : Int32)) <<< ((d.1 x0 11) &&& 31)) - ((1 : Int32)))]) (rest := [.int x2]) X G hl.1 cr_X11_213 (c_X11_isFor l hz_9) ⟨rfl, rfl⟩ rfl rfl rfl (by decide) hc_7 rfl ⟨Nat.le_of_ble_eq_true rfl, Nat.le_of_ble_eq_true rfl⟩ (Nat.le_of_ble_eq_true rfl) dX11_votes_42 ⟨Nat.zero_le _, Nat.zero_le _⟩ (fun H locs G => ?_)
    refine lv_iload_n hx hb dX11_votes_45 rfl (lv_at hl 1 rfl) ?_
    refine lv_icmp_ne (tgt := 58) hx hb dX11_votes_46 (by decide) (fun hc => ?_) (fun hc => ?_)
    · have hf := aw_ite_f hc hf
      refine lv_iconst (v := (0 : Int32)) hx hb dX11_votes_58 (by decide) ?_
      exact w_X11_votes_J59 X hf hkb26 (lv_sub hl [0, 1, 3] rfl) G
    · have hf := aw_ite_t hc hf
      refine lv_aload_n hx hb dX11_votes_49 rfl (lv_at hl 0 rfl) ?_
      obtain ⟨q_10, hq_11, hf⟩ := aw_bind_some hf
      refine gf_X11_56 hx hb G hown hc_7 hq_11 dX11_votes_50 ?_
      refine lv_iload_n hx hb dX11_votes_53 rfl (lv_at hl 3 rfl) ?_
      obtain ⟨hc_12, hf⟩ := aw_chk_some hf
      refine aw_ial hx hb G hc_12 dX11_votes_54 ?_
      refine lv_goto (tgt := 59) hx hb dX11_votes_55 (by decide) ?_
      exact w_X11_votes_J59 X hf hkb26 (lv_sub hl [0, 1, 3] rfl) G
theorem w_X11_votes_L26 {z : Int32 × Dt} (X : aw_X p c cX11_votes 4 s RX11 m meth (some .int)) {k26 : Int32 → Dt → Option (Int32 × Dt)} {x0 : Nat} {x1 : Int32} (n : Nat) {x2 : Int32} {x3 : Int32} {d : Dt} (hf : f_X11_votes_L26 σ n k26 x0 x1 x2 x3 d = some z) (hk26 : ∀ (y2 : Int32) (d : Dt), k26 y2 d = some z → ∀ (H : Heap) (locs : List Loc) (ls : Array Slot), lv_has ls 4 [(2, .int y2)] → aw_G D cA base ad σ d s H locs → W p l e rm_X11_votes s m args below meth c H locs 0 0 (aw_Ei D cA base ad σ below args s z) (F0 m 67 ls [])) {H : Heap} {locs : List Loc} {ls : Array Slot} (hl : lv_has ls 4 [(0, .ref (ad x0)), (1, .int x1), (2, .int x2), (3, .int x3)]) (G : aw_G D cA base ad σ d s H locs) : W p l e rm_X11_votes s m args below meth c H locs 0 0 (aw_Ei D cA base ad σ below args s z) (F0 m 26 ls []) := by
  induction n generalizing x2 x3 d H locs ls with
  | zero => exact absurd (show (none : Option (Int32 × Dt)) = some z from hf) (by simp)
  | succ n ih => exact w_X11_votes_B26 X (kb26 := f_X11_votes_L26 σ n k26 x0 x1) hf  (fun x2 x3 d hf H locs ls hl G => ih hf hl G) hk26 hl G
set_option maxHeartbeats 4000000 in
set_option maxRecDepth 100000 in
theorem w_X11_votes_J14 {z : Int32 × Dt} (X : aw_X p c cX11_votes 4 s RX11 m meth (some .int)) {t1 : Int32} {t0 : Nat} {x0 : Nat} {x1 : Int32} {d : Dt} (hf : f_X11_votes_J14 σ t1 t0 x0 x1 d = some z)  {H : Heap} {locs : List Loc} {ls : Array Slot} (hl : lv_has ls 4 [(0, .ref (ad x0)), (1, .int x1)]) (G : aw_G D cA base ad σ d s H locs) : W p l e rm_X11_votes s m args below meth c H locs 0 0 (aw_Ei D cA base ad σ below args s z) (F0 m 14 ls [.int t1, .ref (ad t0)]) := by
  have hx := X.1; have hb := X.2.1; have hml := X.2.2.1; have hown := X.2.2.2.1
  unfold f_X11_votes_J14 at hf
  obtain ⟨hc_6, hf⟩ := aw_chk_some hf
  obtain ⟨z_4, hz_5, hf⟩ := aw_bind_some hf
  refine aw_VI (As := [.int t1]) (rest := []) X G hl.1 cr_X11_113 (c_X11_fails l hz_5) ⟨rfl, rfl⟩ rfl rfl rfl (by decide) hc_6 rfl ⟨Nat.le_of_ble_eq_true rfl, Nat.le_of_ble_eq_true rfl⟩ (Nat.le_of_ble_eq_true rfl) dX11_votes_14 ⟨Nat.zero_le _, Nat.zero_le _⟩ (fun H locs G => ?_)
  refine lv_if_eq (tgt := 22) hx hb dX11_votes_17 (by decide) (fun hc => ?_) (fun hc => ?_)
  · have hf := aw_ite_t hc hf
    refine lv_iconst (v := (0 : Int32)) hx hb dX11_votes_22 (by decide) ?_
    refine lv_istore_n (lv' := [(2, .int ((0 : Int32))), (0, .ref (ad x0)), (1, .int x1)]) hx hb dX11_votes_23 rfl hl (by decide) rfl (fun ls hl => ?_)
    refine lv_iconst (v := (0 : Int32)) hx hb dX11_votes_24 (by decide) ?_
    refine lv_istore_n (lv' := [(3, .int ((0 : Int32))), (2, .int ((0 : Int32))), (0, .ref (ad x0)), (1, .int x1)]) hx hb dX11_votes_25 rfl hl (by decide) rfl (fun ls hl => ?_)
    refine w_X11_votes_L26 X aw_FU hf  (fun x2_13 d_14 hf H locs ls hl G => ?_) (lv_sub hl [2, 3, 1, 0] rfl) G
    refine lv_iload_n hx hb dX11_votes_67 rfl (lv_at hl 0 rfl) ?_
    exact aw_reti X G hf dX11_votes_68
  · have hf := aw_ite_f hc hf
    refine lv_iconst (v := (0 : Int32)) hx hb dX11_votes_20 (by decide) ?_
    exact aw_reti X G hf dX11_votes_21
end W_X11_votes
set_option maxHeartbeats 4000000 in
set_option maxRecDepth 100000 in
theorem c_X11_votes (l : Launch) {σ : Sg} {x0 : Nat} {x1 : Int32} {d : Dt} {z : Int32 × Dt} (hf : f_X11_votes σ x0 x1 d = some z) : aw_Mi l yX11_votes (Cond.code yX11_votes cX11_votes 4 (some .int)) rm_X11_votes (fun ad => [.ref (ad x0), .int x1]) σ d z := by
  intro D cA base ad
  refine aw_ofW (own := RX11) (cc := cX11_votes) (nL := 4) (ret := some .int) (by decide) rfl rfl ?_
  intro p e s m below meth c X hnm G
  have hx := X.1; have hb := X.2.1; have hml := X.2.2.1; have hown := X.2.2.2.1
  refine aw_ls (lv := [(0, .ref (ad x0)), (1, .int x1)]) (Nat.le_of_ble_eq_true rfl) rfl (fun ls hl => ?_)
  unfold f_X11_votes at hf
  refine lv_aload_n hx hb dX11_votes_0 rfl (lv_at hl 0 rfl) ?_
  refine lv_aload_n hx hb dX11_votes_1 rfl (lv_at hl 0 rfl) ?_
  refine lv_iload_n hx hb dX11_votes_2 rfl (lv_at hl 1 rfl) ?_
  obtain ⟨hc_3, hf⟩ := aw_chk_some hf
  obtain ⟨z_1, hz_2, hf⟩ := aw_bind_some hf
  refine aw_VI (As := [.int x1]) (rest := [.ref (ad x0)]) X G hl.1 cr_X11_146 (c_X11_isDesign l hz_2) ⟨rfl, rfl⟩ rfl rfl rfl (by decide) hc_3 rfl ⟨Nat.le_of_ble_eq_true rfl, Nat.le_of_ble_eq_true rfl⟩ (Nat.le_of_ble_eq_true rfl) dX11_votes_3 ⟨Nat.zero_le _, Nat.zero_le _⟩ (fun H locs G => ?_)
  refine lv_if_eq (tgt := 13) hx hb dX11_votes_6 (by decide) (fun hc => ?_) (fun hc => ?_)
  · have hf := aw_ite_t hc hf
    refine lv_iconst (v := (1 : Int32)) hx hb dX11_votes_13 (by decide) ?_
    exact w_X11_votes_J14 X hf  (lv_sub hl [0, 1] rfl) G
  · have hf := aw_ite_f hc hf
    refine lv_iconst (v := (0 : Int32)) hx hb dX11_votes_9 (by decide) ?_
    refine lv_goto (tgt := 14) hx hb dX11_votes_10 (by decide) ?_
    exact w_X11_votes_J14 X hf  (lv_sub hl [0, 1] rfl) G
def rm_X11_elected : Room := { frames := 7, cells := 0, slots := 0, locals := 179 }
def f_X11_elected_B25 (σ : Sg) (kb25 : Int32 → Int32 → Dt → Option (Int32 × Dt)) (k25 : Int32 → Dt → Option (Int32 × Dt)) (x0 : Nat) (x1 : Int32) (x2 : Int32) (d : Dt) : Option (Int32 × Dt) :=
  if ((4 : Int32)) ≤ x2 then k25 x1 d else aw_chk (aw_O σ 11 32 x0) ((σ.2.2 x0 18).bind (fun q_6 => aw_chk (aw_I σ 20 q_6 x2) (kb25 (x1 + (d.1 q_6 x2.toNatClampNeg)) (x2 + 1) d)))
def f_X11_elected_L25 (σ : Sg) (n : Nat) (k25 : Int32 → Dt → Option (Int32 × Dt)) (x0 : Nat) : Int32 → Int32 → Dt → Option (Int32 × Dt) := match n with
  | 0 => fun _ _ _ => none
  | n + 1 => fun x1 x2 d => f_X11_elected_B25 σ (f_X11_elected_L25 σ n k25 x0) k25 x0 x1 x2 d
def f_X11_elected_J116 (σ : Sg) (kb85 : Int32 → Int32 → Dt → Option (Int32 × Dt)) (t1 : Int32) (t0 : Int32) (x0 : Nat) (x1 : Int32) (x2 : Int32) (x3 : Int32) (x4 : Int32) (x5 : Int32) (x7 : Int32) (d : Dt) : Option (Int32 × Dt) :=
  kb85 (t0 + t1) (x7 + 1) d
def f_X11_elected_B85 (σ : Sg) (kb85 : Int32 → Int32 → Dt → Option (Int32 × Dt)) (k85 : Int32 → Dt → Option (Int32 × Dt)) (x0 : Nat) (x1 : Int32) (x2 : Int32) (x3 : Int32) (x4 : Int32) (x5 : Int32) (x6 : Int32) (x7 : Int32) (d : Dt) : Option (Int32 × Dt) :=
  if ((4 : Int32)) ≤ x7 then k85 x6 d else aw_chk (aw_O σ 11 32 x0) ((f_X11_isFor σ x0 x7 x2 d).bind (fun z_13 => if z_13.1 = x5 then (σ.2.2 x0 18).bind (fun q_16 => aw_chk (aw_I σ 20 q_16 x7) (f_X11_elected_J116 σ kb85 (z_13.2.1 q_16 x7.toNatClampNeg) x6 x0 x1 x2 x3 x4 x5 x7 z_13.2)) else f_X11_elected_J116 σ kb85 ((0 : Int32)) x6 x0 x1 x2 x3 x4 x5 x7 z_13.2))
def f_X11_elected_L85 (σ : Sg) (n : Nat) (k85 : Int32 → Dt → Option (Int32 × Dt)) (x0 : Nat) (x1 : Int32) (x2 : Int32) (x3 : Int32) (x4 : Int32) (x5 : Int32) : Int32 → Int32 → Dt → Option (Int32 × Dt) := match n with
  | 0 => fun _ _ _ => none
  | n + 1 => fun x6 x7 d => f_X11_elected_B85 σ (f_X11_elected_L85 σ n k85 x0 x1 x2 x3 x4 x5) k85 x0 x1 x2 x3 x4 x5 x6 x7 d
def f_X11_elected_J189 (σ : Sg) (kb70 : Int32 → Int32 → Int32 → Dt → Option (Int32 × Dt)) (t0 : Int32) (x0 : Nat) (x1 : Int32) (x2 : Int32) (x3 : Int32) (x5 : Int32) (d : Dt) : Option (Int32 × Dt) :=
  kb70 x3 t0 (x5 + 1) d
def f_X11_elected_J176 (σ : Sg) (kb70 : Int32 → Int32 → Int32 → Dt → Option (Int32 × Dt)) (t0 : Int32) (x0 : Nat) (x1 : Int32) (x2 : Int32) (x4 : Int32) (x5 : Int32) (x6 : Int32) (x7 : Int32) (d : Dt) : Option (Int32 × Dt) :=
  if x7 = 0 then f_X11_elected_J189 σ kb70 x4 x0 x1 x2 t0 x5 d else f_X11_elected_J189 σ kb70 x6 x0 x1 x2 t0 x5 d
def f_X11_elected_J163 (σ : Sg) (kb70 : Int32 → Int32 → Int32 → Dt → Option (Int32 × Dt)) (t0 : Int32) (x0 : Nat) (x1 : Int32) (x2 : Int32) (x3 : Int32) (x4 : Int32) (x5 : Int32) (x6 : Int32) (d : Dt) : Option (Int32 × Dt) :=
  if t0 = 0 then f_X11_elected_J176 σ kb70 x3 x0 x1 x2 x4 x5 x6 t0 d else f_X11_elected_J176 σ kb70 x5 x0 x1 x2 x4 x5 x6 t0 d
def f_X11_elected_J162 (σ : Sg) (kb70 : Int32 → Int32 → Int32 → Dt → Option (Int32 × Dt)) (x0 : Nat) (x1 : Int32) (x2 : Int32) (x3 : Int32) (x4 : Int32) (x5 : Int32) (x6 : Int32) (d : Dt) : Option (Int32 × Dt) :=
  f_X11_elected_J163 σ kb70 ((0 : Int32)) x0 x1 x2 x3 x4 x5 x6 d
def f_X11_elected_J158 (σ : Sg) (kb70 : Int32 → Int32 → Int32 → Dt → Option (Int32 × Dt)) (x0 : Nat) (x1 : Int32) (x2 : Int32) (x3 : Int32) (x4 : Int32) (x5 : Int32) (x6 : Int32) (d : Dt) : Option (Int32 × Dt) :=
  f_X11_elected_J163 σ kb70 ((1 : Int32)) x0 x1 x2 x3 x4 x5 x6 d
def f_X11_elected_B70 (σ : Sg) (kb70 : Int32 → Int32 → Int32 → Dt → Option (Int32 × Dt)) (k70 : Int32 → Dt → Option (Int32 × Dt)) (x0 : Nat) (x1 : Int32) (x2 : Int32) (x3 : Int32) (x4 : Int32) (x5 : Int32) (d : Dt) : Option (Int32 × Dt) :=
  aw_chk (aw_O σ 11 32 x0) (if (d.1 x0 11) ≤ x5 then k70 x3 d else f_X11_elected_L85 σ aw_FU (fun x6_19 d_20 => if (((2 : Int32)) * x6_19) ≤ x1 then if ((x2 >>> (x5 &&& 31)) &&& ((1 : Int32))) = ((1 : Int32)) then if x3 = ((-1 : Int32)) then f_X11_elected_J158 σ kb70 x0 x1 x2 x3 x4 x5 x6_19 d_20 else if x4 < x6_19 then f_X11_elected_J162 σ kb70 x0 x1 x2 x3 x4 x5 x6_19 d_20 else f_X11_elected_J158 σ kb70 x0 x1 x2 x3 x4 x5 x6_19 d_20 else f_X11_elected_J162 σ kb70 x0 x1 x2 x3 x4 x5 x6_19 d_20 else some (x5, d_20)) x0 x1 x2 x3 x4 x5 ((0 : Int32)) ((0 : Int32)) d)
def f_X11_elected_L70 (σ : Sg) (n : Nat) (k70 : Int32 → Dt → Option (Int32 × Dt)) (x0 : Nat) (x1 : Int32) (x2 : Int32) : Int32 → Int32 → Int32 → Dt → Option (Int32 × Dt) := match n with
  | 0 => fun _ _ _ _ => none
  | n + 1 => fun x3 x4 x5 d => f_X11_elected_B70 σ (f_X11_elected_L70 σ n k70 x0 x1 x2) k70 x0 x1 x2 x3 x4 x5 d
def f_X11_elected_B54 (σ : Sg) (kb54 : Int32 → Dt → Option (Int32 × Dt)) (k54 : Dt → Option (Int32 × Dt)) (x0 : Nat) (x1 : Int32) (x2 : Int32) (d : Dt) : Option (Int32 × Dt) :=
  if x2 ≤ 0 then k54 d else if x1 ≤ 0 then k54 d else f_X11_elected_L70 σ aw_FU (fun x3_21 d_22 => kb54 (x2 &&& ((((1 : Int32)) <<< (x3_21 &&& 31)) ^^^ ((-1 : Int32)))) d_22) x0 x1 x2 ((-1 : Int32)) ((0 : Int32)) ((0 : Int32)) d
def f_X11_elected_L54 (σ : Sg) (n : Nat) (k54 : Dt → Option (Int32 × Dt)) (x0 : Nat) (x1 : Int32) : Int32 → Dt → Option (Int32 × Dt) := match n with
  | 0 => fun _ _ => none
  | n + 1 => fun x2 d => f_X11_elected_B54 σ (f_X11_elected_L54 σ n k54 x0 x1) k54 x0 x1 x2 d
def f_X11_elected_J208 (σ : Sg)  (d : Dt) : Option (Int32 × Dt) :=
  some ((-1 : Int32), d)
def f_X11_elected_J13 (σ : Sg) (t1 : Int32) (t0 : Nat) (x0 : Nat) (d : Dt) : Option (Int32 × Dt) :=
  aw_chk (aw_O σ 11 32 t0) ((f_X11_fails σ t0 t1 d).bind (fun z_2 => if z_2.1 = 0 then f_X11_elected_L25 σ aw_FU (fun x1_9 d_10 => aw_chk (aw_O σ 11 32 x0) (f_X11_elected_L54 σ aw_FU (fun d_23 => f_X11_elected_J208 σ d_23) x0 x1_9 ((((1 : Int32)) <<< ((d_10.1 x0 11) &&& 31)) - ((1 : Int32))) d_10)) x0 ((0 : Int32)) ((0 : Int32)) z_2.2 else some ((0 : Int32), z_2.2)))
def f_X11_elected (σ : Sg) (x0 : Nat) (d : Dt) : Option (Int32 × Dt) :=
  aw_chk (aw_O σ 11 32 x0) (if (d.1 x0 11) = 0 then f_X11_elected_J13 σ ((1 : Int32)) x0 x0 d else f_X11_elected_J13 σ ((0 : Int32)) x0 x0 d)
section W_X11_elected
variable {p : Program} {l : Launch} {e : Env} {s : State} {m : MethodId} {args : Array Value} {below : List Frame} {meth : Method} {c : Code}
variable {D : va_G} {cA : Nat → ClassId} {base : Nat} {ad : Nat → Nat} {σ : Sg}
set_option maxHeartbeats 4000000 in
set_option maxRecDepth 100000 in
theorem w_X11_elected_B25 {z : Int32 × Dt} (X : aw_X p c cX11_elected 8 s RX11 m meth (some .int)) {kb25 : Int32 → Int32 → Dt → Option (Int32 × Dt)} {k25 : Int32 → Dt → Option (Int32 × Dt)} {x0 : Nat} {x1 : Int32} {x2 : Int32} {d : Dt} (hf : f_X11_elected_B25 σ kb25 k25 x0 x1 x2 d = some z) (hkb25 : ∀ (y1 : Int32) (y2 : Int32) (d : Dt), kb25 y1 y2 d = some z → ∀ (H : Heap) (locs : List Loc) (ls : Array Slot), lv_has ls 8 [(0, .ref (ad x0)), (1, .int y1), (2, .int y2)] → aw_G D cA base ad σ d s H locs → W p l e rm_X11_elected s m args below meth c H locs 0 0 (aw_Ei D cA base ad σ below args s z) (F0 m 25 ls [])) (hk25 : ∀ (y1 : Int32) (d : Dt), k25 y1 d = some z → ∀ (H : Heap) (locs : List Loc) (ls : Array Slot), lv_has ls 8 [(0, .ref (ad x0)), (1, .int y1)] → aw_G D cA base ad σ d s H locs → W p l e rm_X11_elected s m args below meth c H locs 0 0 (aw_Ei D cA base ad σ below args s z) (F0 m 45 ls [])) {H : Heap} {locs : List Loc} {ls : Array Slot} (hl : lv_has ls 8 [(0, .ref (ad x0)), (1, .int x1), (2, .int x2)]) (G : aw_G D cA base ad σ d s H locs) : W p l e rm_X11_elected s m args below meth c H locs 0 0 (aw_Ei D cA base ad σ below args s z) (F0 m 25 ls []) := by
  have hx := X.1; have hb := X.2.1; have hml := X.2.2.1; have hown := X.2.2.2.1
  unfold f_X11_elected_B25 at hf
  refine lv_iload_n hx hb dX11_elected_25 rfl (lv_at hl 2 rfl) ?_
  refine lv_iconst (v := (4 : Int32)) hx hb dX11_elected_26 (by decide) ?_
  refine lv_icmp_ge (tgt := 45) hx hb dX11_elected_27 (by decide) (fun hc => ?_) (fun hc => ?_)
  · have hf := aw_ite_t hc hf
    exact hk25 _ _ hf _ _ _ (lv_sub hl [0, 1] rfl) G
  · have hf := aw_ite_f hc hf
    refine lv_iload_n hx hb dX11_elected_30 rfl (lv_at hl 1 rfl) ?_
    refine lv_aload_n hx hb dX11_elected_31 rfl (lv_at hl 0 rfl) ?_
    obtain ⟨hc_5, hf⟩ := aw_chk_some hf
    obtain ⟨q_6, hq_7, hf⟩ := aw_bind_some hf
    refine gf_X11_56 hx hb G hown hc_5 hq_7 dX11_elected_32 ?_
    refine lv_iload_n hx hb dX11_elected_35 rfl (lv_at hl 2 rfl) ?_
    obtain ⟨hc_8, hf⟩ := aw_chk_some hf
    refine aw_ial hx hb G hc_8 dX11_elected_36 ?_
    refine lv_iadd hx hb dX11_elected_37 ?_
    refine lv_istore_n (lv' := [(1, .int (x1 + (d.1 q_6 x2.toNatClampNeg))), (0, .ref (ad x0)), (2, .int x2)]) hx hb dX11_elected_38 rfl hl (by decide) rfl (fun ls hl => ?_)
    refine lv_iinc (v := x2 + 1) (lv' := [(2, .int (x2 + 1)), (1, .int (x1 + (d.1 q_6 x2.toNatClampNeg))), (0, .ref (ad x0))]) hx hb dX11_elected_39 hl (k := 2) rfl rfl (by decide) rfl (fun ls hl => ?_)
    refine lv_goto (tgt := 25) hx hb dX11_elected_42 (by decide) ?_
    exact hkb25 _ _ _ hf _ _ _ (lv_sub hl [2, 1, 0] rfl) G
theorem w_X11_elected_L25 {z : Int32 × Dt} (X : aw_X p c cX11_elected 8 s RX11 m meth (some .int)) {k25 : Int32 → Dt → Option (Int32 × Dt)} {x0 : Nat} (n : Nat) {x1 : Int32} {x2 : Int32} {d : Dt} (hf : f_X11_elected_L25 σ n k25 x0 x1 x2 d = some z) (hk25 : ∀ (y1 : Int32) (d : Dt), k25 y1 d = some z → ∀ (H : Heap) (locs : List Loc) (ls : Array Slot), lv_has ls 8 [(0, .ref (ad x0)), (1, .int y1)] → aw_G D cA base ad σ d s H locs → W p l e rm_X11_elected s m args below meth c H locs 0 0 (aw_Ei D cA base ad σ below args s z) (F0 m 45 ls [])) {H : Heap} {locs : List Loc} {ls : Array Slot} (hl : lv_has ls 8 [(0, .ref (ad x0)), (1, .int x1), (2, .int x2)]) (G : aw_G D cA base ad σ d s H locs) : W p l e rm_X11_elected s m args below meth c H locs 0 0 (aw_Ei D cA base ad σ below args s z) (F0 m 25 ls []) := by
  induction n generalizing x1 x2 d H locs ls with
  | zero => exact absurd (show (none : Option (Int32 × Dt)) = some z from hf) (by simp)
  | succ n ih => exact w_X11_elected_B25 X (kb25 := f_X11_elected_L25 σ n k25 x0) hf  (fun x1 x2 d hf H locs ls hl G => ih hf hl G) hk25 hl G
set_option maxHeartbeats 4000000 in
set_option maxRecDepth 100000 in
theorem w_X11_elected_J116 {z : Int32 × Dt} (X : aw_X p c cX11_elected 8 s RX11 m meth (some .int)) {kb85 : Int32 → Int32 → Dt → Option (Int32 × Dt)} {t1 : Int32} {t0 : Int32} {x0 : Nat} {x1 : Int32} {x2 : Int32} {x3 : Int32} {x4 : Int32} {x5 : Int32} {x7 : Int32} {d : Dt} (hf : f_X11_elected_J116 σ kb85 t1 t0 x0 x1 x2 x3 x4 x5 x7 d = some z) (hkb85 : ∀ (y6 : Int32) (y7 : Int32) (d : Dt), kb85 y6 y7 d = some z → ∀ (H : Heap) (locs : List Loc) (ls : Array Slot), lv_has ls 8 [(0, .ref (ad x0)), (1, .int x1), (2, .int x2), (3, .int x3), (4, .int x4), (5, .int x5), (6, .int y6), (7, .int y7)] → aw_G D cA base ad σ d s H locs → W p l e rm_X11_elected s m args below meth c H locs 0 0 (aw_Ei D cA base ad σ below args s z) (F0 m 85 ls [])) {H : Heap} {locs : List Loc} {ls : Array Slot} (hl : lv_has ls 8 [(0, .ref (ad x0)), (1, .int x1), (2, .int x2), (3, .int x3), (4, .int x4), (5, .int x5), (7, .int x7)]) (G : aw_G D cA base ad σ d s H locs) : W p l e rm_X11_elected s m args below meth c H locs 0 0 (aw_Ei D cA base ad σ below args s z) (F0 m 116 ls [.int t1, .int t0]) := by
  have hx := X.1; have hb := X.2.1; have hml := X.2.2.1; have hown := X.2.2.2.1
  unfold f_X11_elected_J116 at hf
  refine lv_iadd hx hb dX11_elected_116 ?_
  refine lv_istore (lv' := [(6, .int (t0 + t1)), (0, .ref (ad x0)), (1, .int x1), (2, .int x2), (3, .int x3), (4, .int x4), (5, .int x5), (7, .int x7)]) hx hb dX11_elected_117 hl (by decide) rfl (fun ls hl => ?_)
  refine lv_iinc (v := x7 + 1) (lv' := [(7, .int (x7 + 1)), (6, .int (t0 + t1)), (0, .ref (ad x0)), (1, .int x1), (2, .int x2), (3, .int x3), (4, .int x4), (5, .int x5)]) hx hb dX11_elected_119 hl (k := 7) rfl rfl (by decide) rfl (fun ls hl => ?_)
  refine lv_goto (tgt := 85) hx hb dX11_elected_122 (by decide) ?_
  exact hkb85 _ _ _ hf _ _ _ (lv_sub hl [2, 3, 4, 5, 6, 7, 1, 0] rfl) G
set_option maxHeartbeats 4000000 in
set_option maxRecDepth 100000 in
theorem w_X11_elected_B85 {z : Int32 × Dt} (X : aw_X p c cX11_elected 8 s RX11 m meth (some .int)) {kb85 : Int32 → Int32 → Dt → Option (Int32 × Dt)} {k85 : Int32 → Dt → Option (Int32 × Dt)} {x0 : Nat} {x1 : Int32} {x2 : Int32} {x3 : Int32} {x4 : Int32} {x5 : Int32} {x6 : Int32} {x7 : Int32} {d : Dt} (hf : f_X11_elected_B85 σ kb85 k85 x0 x1 x2 x3 x4 x5 x6 x7 d = some z) (hkb85 : ∀ (y6 : Int32) (y7 : Int32) (d : Dt), kb85 y6 y7 d = some z → ∀ (H : Heap) (locs : List Loc) (ls : Array Slot), lv_has ls 8 [(0, .ref (ad x0)), (1, .int x1), (2, .int x2), (3, .int x3), (4, .int x4), (5, .int x5), (6, .int y6), (7, .int y7)] → aw_G D cA base ad σ d s H locs → W p l e rm_X11_elected s m args below meth c H locs 0 0 (aw_Ei D cA base ad σ below args s z) (F0 m 85 ls [])) (hk85 : ∀ (y6 : Int32) (d : Dt), k85 y6 d = some z → ∀ (H : Heap) (locs : List Loc) (ls : Array Slot), lv_has ls 8 [(0, .ref (ad x0)), (1, .int x1), (2, .int x2), (3, .int x3), (4, .int x4), (5, .int x5), (6, .int y6)] → aw_G D cA base ad σ d s H locs → W p l e rm_X11_elected s m args below meth c H locs 0 0 (aw_Ei D cA base ad σ below args s z) (F0 m 125 ls [])) {H : Heap} {locs : List Loc} {ls : Array Slot} (hl : lv_has ls 8 [(0, .ref (ad x0)), (1, .int x1), (2, .int x2), (3, .int x3), (4, .int x4), (5, .int x5), (6, .int x6), (7, .int x7)]) (G : aw_G D cA base ad σ d s H locs) : W p l e rm_X11_elected s m args below meth c H locs 0 0 (aw_Ei D cA base ad σ below args s z) (F0 m 85 ls []) := by
  have hx := X.1; have hb := X.2.1; have hml := X.2.2.1; have hown := X.2.2.2.1
  unfold f_X11_elected_B85 at hf
  refine lv_iload hx hb dX11_elected_85 (lv_at hl 7 rfl) ?_
  refine lv_iconst (v := (4 : Int32)) hx hb dX11_elected_87 (by decide) ?_
  refine lv_icmp_ge (tgt := 125) hx hb dX11_elected_88 (by decide) (fun hc => ?_) (fun hc => ?_)
  · have hf := aw_ite_t hc hf
    exact hk85 _ _ hf _ _ _ (lv_sub hl [0, 1, 2, 3, 4, 5, 6] rfl) G
  · have hf := aw_ite_f hc hf
    refine lv_iload hx hb dX11_elected_91 (lv_at hl 6 rfl) ?_
    refine lv_aload_n hx hb dX11_elected_93 rfl (lv_at hl 0 rfl) ?_
    refine lv_iload hx hb dX11_elected_94 (lv_at hl 7 rfl) ?_
    refine lv_iload_n hx hb dX11_elected_96 rfl (lv_at hl 2 rfl) ?_
    obtain ⟨hc_15, hf⟩ := aw_chk_some hf
    obtain ⟨z_13, hz_14, hf⟩ := aw_bind_some hf
    refine aw_VI (As := [.int x7, .int x2]) (rest := [.int x6]) X G hl.1 cr_X11_213 (c_X11_isFor l hz_14) ⟨rfl, rfl⟩ rfl rfl rfl (by decide) hc_15 rfl ⟨Nat.le_of_ble_eq_true rfl, Nat.le_of_ble_eq_true rfl⟩ (Nat.le_of_ble_eq_true rfl) dX11_elected_97 ⟨Nat.zero_le _, Nat.zero_le _⟩ (fun H locs G => ?_)
    refine lv_iload hx hb dX11_elected_100 (lv_at hl 5 rfl) ?_
    refine lv_icmp_ne (tgt := 115) hx hb dX11_elected_102 (by decide) (fun hc => ?_) (fun hc => ?_)
    · have hf := aw_ite_f hc hf
      refine lv_iconst (v := (0 : Int32)) hx hb dX11_elected_115 (by decide) ?_
      exact w_X11_elected_J116 X hf hkb85 (lv_sub hl [0, 1, 2, 3, 4, 5, 7] rfl) G
    · have hf := aw_ite_t hc hf
      refine lv_aload_n hx hb dX11_elected_105 rfl (lv_at hl 0 rfl) ?_
      obtain ⟨q_16, hq_17, hf⟩ := aw_bind_some hf
      refine gf_X11_56 hx hb G hown hc_15 hq_17 dX11_elected_106 ?_
      refine lv_iload hx hb dX11_elected_109 (lv_at hl 7 rfl) ?_
      obtain ⟨hc_18, hf⟩ := aw_chk_some hf
      refine aw_ial hx hb G hc_18 dX11_elected_111 ?_
      refine lv_goto (tgt := 116) hx hb dX11_elected_112 (by decide) ?_
      exact w_X11_elected_J116 X hf hkb85 (lv_sub hl [0, 1, 2, 3, 4, 5, 7] rfl) G
theorem w_X11_elected_L85 {z : Int32 × Dt} (X : aw_X p c cX11_elected 8 s RX11 m meth (some .int)) {k85 : Int32 → Dt → Option (Int32 × Dt)} {x0 : Nat} {x1 : Int32} {x2 : Int32} {x3 : Int32} {x4 : Int32} {x5 : Int32} (n : Nat) {x6 : Int32} {x7 : Int32} {d : Dt} (hf : f_X11_elected_L85 σ n k85 x0 x1 x2 x3 x4 x5 x6 x7 d = some z) (hk85 : ∀ (y6 : Int32) (d : Dt), k85 y6 d = some z → ∀ (H : Heap) (locs : List Loc) (ls : Array Slot), lv_has ls 8 [(0, .ref (ad x0)), (1, .int x1), (2, .int x2), (3, .int x3), (4, .int x4), (5, .int x5), (6, .int y6)] → aw_G D cA base ad σ d s H locs → W p l e rm_X11_elected s m args below meth c H locs 0 0 (aw_Ei D cA base ad σ below args s z) (F0 m 125 ls [])) {H : Heap} {locs : List Loc} {ls : Array Slot} (hl : lv_has ls 8 [(0, .ref (ad x0)), (1, .int x1), (2, .int x2), (3, .int x3), (4, .int x4), (5, .int x5), (6, .int x6), (7, .int x7)]) (G : aw_G D cA base ad σ d s H locs) : W p l e rm_X11_elected s m args below meth c H locs 0 0 (aw_Ei D cA base ad σ below args s z) (F0 m 85 ls []) := by
  induction n generalizing x6 x7 d H locs ls with
  | zero => exact absurd (show (none : Option (Int32 × Dt)) = some z from hf) (by simp)
  | succ n ih => exact w_X11_elected_B85 X (kb85 := f_X11_elected_L85 σ n k85 x0 x1 x2 x3 x4 x5) hf  (fun x6 x7 d hf H locs ls hl G => ih hf hl G) hk85 hl G
set_option maxHeartbeats 4000000 in
set_option maxRecDepth 100000 in
theorem w_X11_elected_J189 {z : Int32 × Dt} (X : aw_X p c cX11_elected 8 s RX11 m meth (some .int)) {kb70 : Int32 → Int32 → Int32 → Dt → Option (Int32 × Dt)} {t0 : Int32} {x0 : Nat} {x1 : Int32} {x2 : Int32} {x3 : Int32} {x5 : Int32} {d : Dt} (hf : f_X11_elected_J189 σ kb70 t0 x0 x1 x2 x3 x5 d = some z) (hkb70 : ∀ (y3 : Int32) (y4 : Int32) (y5 : Int32) (d : Dt), kb70 y3 y4 y5 d = some z → ∀ (H : Heap) (locs : List Loc) (ls : Array Slot), lv_has ls 8 [(0, .ref (ad x0)), (1, .int x1), (2, .int x2), (3, .int y3), (4, .int y4), (5, .int y5)] → aw_G D cA base ad σ d s H locs → W p l e rm_X11_elected s m args below meth c H locs 0 0 (aw_Ei D cA base ad σ below args s z) (F0 m 70 ls [])) {H : Heap} {locs : List Loc} {ls : Array Slot} (hl : lv_has ls 8 [(0, .ref (ad x0)), (1, .int x1), (2, .int x2), (3, .int x3), (5, .int x5)]) (G : aw_G D cA base ad σ d s H locs) : W p l e rm_X11_elected s m args below meth c H locs 0 0 (aw_Ei D cA base ad σ below args s z) (F0 m 189 ls [.int t0]) := by
  have hx := X.1; have hb := X.2.1; have hml := X.2.2.1; have hown := X.2.2.2.1
  unfold f_X11_elected_J189 at hf
  refine lv_istore (lv' := [(4, .int t0), (0, .ref (ad x0)), (1, .int x1), (2, .int x2), (3, .int x3), (5, .int x5)]) hx hb dX11_elected_189 hl (by decide) rfl (fun ls hl => ?_)
  refine lv_iinc (v := x5 + 1) (lv' := [(5, .int (x5 + 1)), (4, .int t0), (0, .ref (ad x0)), (1, .int x1), (2, .int x2), (3, .int x3)]) hx hb dX11_elected_191 hl (k := 5) rfl rfl (by decide) rfl (fun ls hl => ?_)
  refine lv_goto (tgt := 70) hx hb dX11_elected_194 (by decide) ?_
  exact hkb70 _ _ _ _ hf _ _ _ (lv_sub hl [2, 3, 4, 5, 1, 0] rfl) G
set_option maxHeartbeats 4000000 in
set_option maxRecDepth 100000 in
theorem w_X11_elected_J176 {z : Int32 × Dt} (X : aw_X p c cX11_elected 8 s RX11 m meth (some .int)) {kb70 : Int32 → Int32 → Int32 → Dt → Option (Int32 × Dt)} {t0 : Int32} {x0 : Nat} {x1 : Int32} {x2 : Int32} {x4 : Int32} {x5 : Int32} {x6 : Int32} {x7 : Int32} {d : Dt} (hf : f_X11_elected_J176 σ kb70 t0 x0 x1 x2 x4 x5 x6 x7 d = some z) (hkb70 : ∀ (y3 : Int32) (y4 : Int32) (y5 : Int32) (d : Dt), kb70 y3 y4 y5 d = some z → ∀ (H : Heap) (locs : List Loc) (ls : Array Slot), lv_has ls 8 [(0, .ref (ad x0)), (1, .int x1), (2, .int x2), (3, .int y3), (4, .int y4), (5, .int y5)] → aw_G D cA base ad σ d s H locs → W p l e rm_X11_elected s m args below meth c H locs 0 0 (aw_Ei D cA base ad σ below args s z) (F0 m 70 ls [])) {H : Heap} {locs : List Loc} {ls : Array Slot} (hl : lv_has ls 8 [(0, .ref (ad x0)), (1, .int x1), (2, .int x2), (4, .int x4), (5, .int x5), (6, .int x6), (7, .int x7)]) (G : aw_G D cA base ad σ d s H locs) : W p l e rm_X11_elected s m args below meth c H locs 0 0 (aw_Ei D cA base ad σ below args s z) (F0 m 176 ls [.int t0]) := by
  have hx := X.1; have hb := X.2.1; have hml := X.2.2.1; have hown := X.2.2.2.1
  unfold f_X11_elected_J176 at hf
  refine lv_istore_n (lv' := [(3, .int t0), (0, .ref (ad x0)), (1, .int x1), (2, .int x2), (4, .int x4), (5, .int x5), (6, .int x6), (7, .int x7)]) hx hb dX11_elected_176 rfl hl (by decide) rfl (fun ls hl => ?_)
  refine lv_iload hx hb dX11_elected_177 (lv_at hl 7 rfl) ?_
  refine lv_if_eq (tgt := 187) hx hb dX11_elected_179 (by decide) (fun hc => ?_) (fun hc => ?_)
  · have hf := aw_ite_t hc hf
    refine lv_iload hx hb dX11_elected_187 (lv_at hl 4 rfl) ?_
    exact w_X11_elected_J189 X hf hkb70 (lv_sub hl [1, 2, 3, 0, 5] rfl) G
  · have hf := aw_ite_f hc hf
    refine lv_iload hx hb dX11_elected_182 (lv_at hl 6 rfl) ?_
    refine lv_goto (tgt := 189) hx hb dX11_elected_184 (by decide) ?_
    exact w_X11_elected_J189 X hf hkb70 (lv_sub hl [1, 2, 3, 0, 5] rfl) G
set_option maxHeartbeats 4000000 in
set_option maxRecDepth 100000 in
theorem w_X11_elected_J163 {z : Int32 × Dt} (X : aw_X p c cX11_elected 8 s RX11 m meth (some .int)) {kb70 : Int32 → Int32 → Int32 → Dt → Option (Int32 × Dt)} {t0 : Int32} {x0 : Nat} {x1 : Int32} {x2 : Int32} {x3 : Int32} {x4 : Int32} {x5 : Int32} {x6 : Int32} {d : Dt} (hf : f_X11_elected_J163 σ kb70 t0 x0 x1 x2 x3 x4 x5 x6 d = some z) (hkb70 : ∀ (y3 : Int32) (y4 : Int32) (y5 : Int32) (d : Dt), kb70 y3 y4 y5 d = some z → ∀ (H : Heap) (locs : List Loc) (ls : Array Slot), lv_has ls 8 [(0, .ref (ad x0)), (1, .int x1), (2, .int x2), (3, .int y3), (4, .int y4), (5, .int y5)] → aw_G D cA base ad σ d s H locs → W p l e rm_X11_elected s m args below meth c H locs 0 0 (aw_Ei D cA base ad σ below args s z) (F0 m 70 ls [])) {H : Heap} {locs : List Loc} {ls : Array Slot} (hl : lv_has ls 8 [(0, .ref (ad x0)), (1, .int x1), (2, .int x2), (3, .int x3), (4, .int x4), (5, .int x5), (6, .int x6)]) (G : aw_G D cA base ad σ d s H locs) : W p l e rm_X11_elected s m args below meth c H locs 0 0 (aw_Ei D cA base ad σ below args s z) (F0 m 163 ls [.int t0]) := by
  have hx := X.1; have hb := X.2.1; have hml := X.2.2.1; have hown := X.2.2.2.1
  unfold f_X11_elected_J163 at hf
  refine lv_istore (lv' := [(7, .int t0), (0, .ref (ad x0)), (1, .int x1), (2, .int x2), (3, .int x3), (4, .int x4), (5, .int x5), (6, .int x6)]) hx hb dX11_elected_163 hl (by decide) rfl (fun ls hl => ?_)
  refine lv_iload hx hb dX11_elected_165 (lv_at hl 0 rfl) ?_
  refine lv_if_eq (tgt := 175) hx hb dX11_elected_167 (by decide) (fun hc => ?_) (fun hc => ?_)
  · have hf := aw_ite_t hc hf
    refine lv_iload_n hx hb dX11_elected_175 rfl (lv_at hl 4 rfl) ?_
    exact w_X11_elected_J176 X hf hkb70 (lv_sub hl [1, 2, 3, 5, 6, 7, 0] rfl) G
  · have hf := aw_ite_f hc hf
    refine lv_iload hx hb dX11_elected_170 (lv_at hl 6 rfl) ?_
    refine lv_goto (tgt := 176) hx hb dX11_elected_172 (by decide) ?_
    exact w_X11_elected_J176 X hf hkb70 (lv_sub hl [1, 2, 3, 5, 6, 7, 0] rfl) G
set_option maxHeartbeats 4000000 in
set_option maxRecDepth 100000 in
theorem w_X11_elected_J162 {z : Int32 × Dt} (X : aw_X p c cX11_elected 8 s RX11 m meth (some .int)) {kb70 : Int32 → Int32 → Int32 → Dt → Option (Int32 × Dt)} {x0 : Nat} {x1 : Int32} {x2 : Int32} {x3 : Int32} {x4 : Int32} {x5 : Int32} {x6 : Int32} {d : Dt} (hf : f_X11_elected_J162 σ kb70 x0 x1 x2 x3 x4 x5 x6 d = some z) (hkb70 : ∀ (y3 : Int32) (y4 : Int32) (y5 : Int32) (d : Dt), kb70 y3 y4 y5 d = some z → ∀ (H : Heap) (locs : List Loc) (ls : Array Slot), lv_has ls 8 [(0, .ref (ad x0)), (1, .int x1), (2, .int x2), (3, .int y3), (4, .int y4), (5, .int y5)] → aw_G D cA base ad σ d s H locs → W p l e rm_X11_elected s m args below meth c H locs 0 0 (aw_Ei D cA base ad σ below args s z) (F0 m 70 ls [])) {H : Heap} {locs : List Loc} {ls : Array Slot} (hl : lv_has ls 8 [(0, .ref (ad x0)), (1, .int x1), (2, .int x2), (3, .int x3), (4, .int x4), (5, .int x5), (6, .int x6)]) (G : aw_G D cA base ad σ d s H locs) : W p l e rm_X11_elected s m args below meth c H locs 0 0 (aw_Ei D cA base ad σ below args s z) (F0 m 162 ls []) := by
  have hx := X.1; have hb := X.2.1; have hml := X.2.2.1; have hown := X.2.2.2.1
  unfold f_X11_elected_J162 at hf
  refine lv_iconst (v := (0 : Int32)) hx hb dX11_elected_162 (by decide) ?_
  exact w_X11_elected_J163 X hf hkb70 (lv_sub hl [0, 1, 2, 3, 4, 5, 6] rfl) G
set_option maxHeartbeats 4000000 in
set_option maxRecDepth 100000 in
theorem w_X11_elected_J158 {z : Int32 × Dt} (X : aw_X p c cX11_elected 8 s RX11 m meth (some .int)) {kb70 : Int32 → Int32 → Int32 → Dt → Option (Int32 × Dt)} {x0 : Nat} {x1 : Int32} {x2 : Int32} {x3 : Int32} {x4 : Int32} {x5 : Int32} {x6 : Int32} {d : Dt} (hf : f_X11_elected_J158 σ kb70 x0 x1 x2 x3 x4 x5 x6 d = some z) (hkb70 : ∀ (y3 : Int32) (y4 : Int32) (y5 : Int32) (d : Dt), kb70 y3 y4 y5 d = some z → ∀ (H : Heap) (locs : List Loc) (ls : Array Slot), lv_has ls 8 [(0, .ref (ad x0)), (1, .int x1), (2, .int x2), (3, .int y3), (4, .int y4), (5, .int y5)] → aw_G D cA base ad σ d s H locs → W p l e rm_X11_elected s m args below meth c H locs 0 0 (aw_Ei D cA base ad σ below args s z) (F0 m 70 ls [])) {H : Heap} {locs : List Loc} {ls : Array Slot} (hl : lv_has ls 8 [(0, .ref (ad x0)), (1, .int x1), (2, .int x2), (3, .int x3), (4, .int x4), (5, .int x5), (6, .int x6)]) (G : aw_G D cA base ad σ d s H locs) : W p l e rm_X11_elected s m args below meth c H locs 0 0 (aw_Ei D cA base ad σ below args s z) (F0 m 158 ls []) := by
  have hx := X.1; have hb := X.2.1; have hml := X.2.2.1; have hown := X.2.2.2.1
  unfold f_X11_elected_J158 at hf
  refine lv_iconst (v := (1 : Int32)) hx hb dX11_elected_158 (by decide) ?_
  refine lv_goto (tgt := 163) hx hb dX11_elected_159 (by decide) ?_
  exact w_X11_elected_J163 X hf hkb70 (lv_sub hl [0, 1, 2, 3, 4, 5, 6] rfl) G
set_option maxHeartbeats 4000000 in
set_option maxRecDepth 100000 in
theorem w_X11_elected_B70 {z : Int32 × Dt} (X : aw_X p c cX11_elected 8 s RX11 m meth (some .int)) {kb70 : Int32 → Int32 → Int32 → Dt → Option (Int32 × Dt)} {k70 : Int32 → Dt → Option (Int32 × Dt)} {x0 : Nat} {x1 : Int32} {x2 : Int32} {x3 : Int32} {x4 : Int32} {x5 : Int32} {d : Dt} (hf : f_X11_elected_B70 σ kb70 k70 x0 x1 x2 x3 x4 x5 d = some z) (hkb70 : ∀ (y3 : Int32) (y4 : Int32) (y5 : Int32) (d : Dt), kb70 y3 y4 y5 d = some z → ∀ (H : Heap) (locs : List Loc) (ls : Array Slot), lv_has ls 8 [(0, .ref (ad x0)), (1, .int x1), (2, .int x2), (3, .int y3), (4, .int y4), (5, .int y5)] → aw_G D cA base ad σ d s H locs → W p l e rm_X11_elected s m args below meth c H locs 0 0 (aw_Ei D cA base ad σ below args s z) (F0 m 70 ls [])) (hk70 : ∀ (y3 : Int32) (d : Dt), k70 y3 d = some z → ∀ (H : Heap) (locs : List Loc) (ls : Array Slot), lv_has ls 8 [(0, .ref (ad x0)), (1, .int x1), (2, .int x2), (3, .int y3)] → aw_G D cA base ad σ d s H locs → W p l e rm_X11_elected s m args below meth c H locs 0 0 (aw_Ei D cA base ad σ below args s z) (F0 m 197 ls [])) {H : Heap} {locs : List Loc} {ls : Array Slot} (hl : lv_has ls 8 [(0, .ref (ad x0)), (1, .int x1), (2, .int x2), (3, .int x3), (4, .int x4), (5, .int x5)]) (G : aw_G D cA base ad σ d s H locs) : W p l e rm_X11_elected s m args below meth c H locs 0 0 (aw_Ei D cA base ad σ below args s z) (F0 m 70 ls []) := by
  have hx := X.1; have hb := X.2.1; have hml := X.2.2.1; have hown := X.2.2.2.1
  unfold f_X11_elected_B70 at hf
  refine lv_iload hx hb dX11_elected_70 (lv_at hl 5 rfl) ?_
  refine lv_aload_n hx hb dX11_elected_72 rfl (lv_at hl 0 rfl) ?_
  obtain ⟨hc_12, hf⟩ := aw_chk_some hf
  refine gf_X11_107 hx hb G hown hc_12 dX11_elected_73 ?_
  refine lv_icmp_ge (tgt := 197) hx hb dX11_elected_76 (by decide) (fun hc => ?_) (fun hc => ?_)
  · have hf := aw_ite_t hc hf
    exact hk70 _ _ hf _ _ _ (lv_sub hl [0, 1, 2, 3] rfl) G
  · have hf := aw_ite_f hc hf
    refine lv_iconst (v := (0 : Int32)) hx hb dX11_elected_79 (by decide) ?_
    refine lv_istore (lv' := [(6, .int ((0 : Int32))), (0, .ref (ad x0)), (1, .int x1), (2, .int x2), (3, .int x3), (4, .int x4), (5, .int x5)]) hx hb dX11_elected_80 hl (by decide) rfl (fun ls hl => ?_)
    refine lv_iconst (v := (0 : Int32)) hx hb dX11_elected_82 (by decide) ?_
    refine lv_istore (lv' := [(7, .int ((0 : Int32))), (6, .int ((0 : Int32))), (0, .ref (ad x0)), (1, .int x1), (2, .int x2), (3, .int x3), (4, .int x4), (5, .int x5)]) hx hb dX11_elected_83 hl (by decide) rfl (fun ls hl => ?_)
    refine w_X11_elected_L85 X aw_FU hf  (fun x6_19 d_20 hf H locs ls hl G => ?_) (lv_sub hl [2, 3, 4, 5, 6, 7, 1, 0] rfl) G
    refine lv_iconst (v := (2 : Int32)) hx hb dX11_elected_125 (by decide) ?_
    refine lv_iload hx hb dX11_elected_126 (lv_at hl 6 rfl) ?_
    refine lv_imul hx hb dX11_elected_128 ?_
    refine lv_iload_n hx hb dX11_elected_129 rfl (lv_at hl 1 rfl) ?_
    refine lv_icmp_le (tgt := 136) hx hb dX11_elected_130 (by decide) (fun hc => ?_) (fun hc => ?_)
    · have hf := aw_ite_t hc hf
      refine lv_iload_n hx hb dX11_elected_136 rfl (lv_at hl 2 rfl) ?_
      refine lv_iload hx hb dX11_elected_137 (lv_at hl 5 rfl) ?_
      refine lv_ishr hx hb dX11_elected_139 ?_
      refine lv_iconst (v := (1 : Int32)) hx hb dX11_elected_140 (by decide) ?_
      refine lv_iand hx hb dX11_elected_141 ?_
      refine lv_iconst (v := (1 : Int32)) hx hb dX11_elected_142 (by decide) ?_
      refine lv_icmp_ne (tgt := 162) hx hb dX11_elected_143 (by decide) (fun hc => ?_) (fun hc => ?_)
      · have hf := aw_ite_f hc hf
        exact w_X11_elected_J162 X hf hkb70 (lv_sub hl [0, 1, 2, 3, 4, 5, 6] rfl) G
      · have hf := aw_ite_t hc hf
        refine lv_iload_n hx hb dX11_elected_146 rfl (lv_at hl 3 rfl) ?_
        refine lv_iconst (v := (-1 : Int32)) hx hb dX11_elected_147 (by decide) ?_
        refine lv_icmp_eq (tgt := 158) hx hb dX11_elected_148 (by decide) (fun hc => ?_) (fun hc => ?_)
        · have hf := aw_ite_t hc hf
          exact w_X11_elected_J158 X hf hkb70 (lv_sub hl [0, 1, 2, 3, 4, 5, 6] rfl) G
        · have hf := aw_ite_f hc hf
          refine lv_iload hx hb dX11_elected_151 (lv_at hl 6 rfl) ?_
          refine lv_iload hx hb dX11_elected_153 (lv_at hl 4 rfl) ?_
          refine lv_icmp_gt (tgt := 162) hx hb dX11_elected_155 (by decide) (fun hc => ?_) (fun hc => ?_)
          · have hf := aw_ite_t hc hf
            exact w_X11_elected_J162 X hf hkb70 (lv_sub hl [0, 1, 2, 3, 4, 5, 6] rfl) G
          · have hf := aw_ite_f hc hf
            exact w_X11_elected_J158 X hf hkb70 (lv_sub hl [0, 1, 2, 3, 4, 5, 6] rfl) G
    · have hf := aw_ite_f hc hf
      refine lv_iload hx hb dX11_elected_133 (lv_at hl 5 rfl) ?_
      exact aw_reti X G hf dX11_elected_135
theorem w_X11_elected_L70 {z : Int32 × Dt} (X : aw_X p c cX11_elected 8 s RX11 m meth (some .int)) {k70 : Int32 → Dt → Option (Int32 × Dt)} {x0 : Nat} {x1 : Int32} {x2 : Int32} (n : Nat) {x3 : Int32} {x4 : Int32} {x5 : Int32} {d : Dt} (hf : f_X11_elected_L70 σ n k70 x0 x1 x2 x3 x4 x5 d = some z) (hk70 : ∀ (y3 : Int32) (d : Dt), k70 y3 d = some z → ∀ (H : Heap) (locs : List Loc) (ls : Array Slot), lv_has ls 8 [(0, .ref (ad x0)), (1, .int x1), (2, .int x2), (3, .int y3)] → aw_G D cA base ad σ d s H locs → W p l e rm_X11_elected s m args below meth c H locs 0 0 (aw_Ei D cA base ad σ below args s z) (F0 m 197 ls [])) {H : Heap} {locs : List Loc} {ls : Array Slot} (hl : lv_has ls 8 [(0, .ref (ad x0)), (1, .int x1), (2, .int x2), (3, .int x3), (4, .int x4), (5, .int x5)]) (G : aw_G D cA base ad σ d s H locs) : W p l e rm_X11_elected s m args below meth c H locs 0 0 (aw_Ei D cA base ad σ below args s z) (F0 m 70 ls []) := by
  induction n generalizing x3 x4 x5 d H locs ls with
  | zero => exact absurd (show (none : Option (Int32 × Dt)) = some z from hf) (by simp)
  | succ n ih => exact w_X11_elected_B70 X (kb70 := f_X11_elected_L70 σ n k70 x0 x1 x2) hf  (fun x3 x4 x5 d hf H locs ls hl G => ih hf hl G) hk70 hl G
set_option maxHeartbeats 4000000 in
set_option maxRecDepth 100000 in
theorem w_X11_elected_B54 {z : Int32 × Dt} (X : aw_X p c cX11_elected 8 s RX11 m meth (some .int)) {kb54 : Int32 → Dt → Option (Int32 × Dt)} {k54 : Dt → Option (Int32 × Dt)} {x0 : Nat} {x1 : Int32} {x2 : Int32} {d : Dt} (hf : f_X11_elected_B54 σ kb54 k54 x0 x1 x2 d = some z) (hkb54 : ∀ (y2 : Int32) (d : Dt), kb54 y2 d = some z → ∀ (H : Heap) (locs : List Loc) (ls : Array Slot), lv_has ls 8 [(0, .ref (ad x0)), (1, .int x1), (2, .int y2)] → aw_G D cA base ad σ d s H locs → W p l e rm_X11_elected s m args below meth c H locs 0 0 (aw_Ei D cA base ad σ below args s z) (F0 m 54 ls [])) (hk54 : ∀ (d : Dt), k54 d = some z → ∀ (H : Heap) (locs : List Loc) (ls : Array Slot), lv_has ls 8 [] → aw_G D cA base ad σ d s H locs → W p l e rm_X11_elected s m args below meth c H locs 0 0 (aw_Ei D cA base ad σ below args s z) (F0 m 208 ls [])) {H : Heap} {locs : List Loc} {ls : Array Slot} (hl : lv_has ls 8 [(0, .ref (ad x0)), (1, .int x1), (2, .int x2)]) (G : aw_G D cA base ad σ d s H locs) : W p l e rm_X11_elected s m args below meth c H locs 0 0 (aw_Ei D cA base ad σ below args s z) (F0 m 54 ls []) := by
  have hx := X.1; have hb := X.2.1; have hml := X.2.2.1; have hown := X.2.2.2.1
  unfold f_X11_elected_B54 at hf
  refine lv_iload_n hx hb dX11_elected_54 rfl (lv_at hl 2 rfl) ?_
  refine lv_if_le (tgt := 208) hx hb dX11_elected_55 (by decide) (fun hc => ?_) (fun hc => ?_)
  · have hf := aw_ite_t hc hf
    exact hk54 _ hf _ _ _ (lv_sub hl [] rfl) G
  · have hf := aw_ite_f hc hf
    refine lv_iload_n hx hb dX11_elected_58 rfl (lv_at hl 1 rfl) ?_
    refine lv_if_le (tgt := 208) hx hb dX11_elected_59 (by decide) (fun hc => ?_) (fun hc => ?_)
    · have hf := aw_ite_t hc hf
      exact hk54 _ hf _ _ _ (lv_sub hl [] rfl) G
    · have hf := aw_ite_f hc hf
      refine lv_iconst (v := (-1 : Int32)) hx hb dX11_elected_62 (by decide) ?_
      refine lv_istore_n (lv' := [(3, .int ((-1 : Int32))), (0, .ref (ad x0)), (1, .int x1), (2, .int x2)]) hx hb dX11_elected_63 rfl hl (by decide) rfl (fun ls hl => ?_)
      refine lv_iconst (v := (0 : Int32)) hx hb dX11_elected_64 (by decide) ?_
      refine lv_istore (lv' := [(4, .int ((0 : Int32))), (3, .int ((-1 : Int32))), (0, .ref (ad x0)), (1, .int x1), (2, .int x2)]) hx hb dX11_elected_65 hl (by decide) rfl (fun ls hl => ?_)
      refine lv_iconst (v := (0 : Int32)) hx hb dX11_elected_67 (by decide) ?_
      refine lv_istore (lv' := [(5, .int ((0 : Int32))), (4, .int ((0 : Int32))), (3, .int ((-1 : Int32))), (0, .ref (ad x0)), (1, .int x1), (2, .int x2)]) hx hb dX11_elected_68 hl (by decide) rfl (fun ls hl => ?_)
      refine w_X11_elected_L70 X aw_FU hf  (fun x3_21 d_22 hf H locs ls hl G => ?_) (lv_sub hl [3, 4, 5, 2, 1, 0] rfl) G
      refine lv_iload_n hx hb dX11_elected_197 rfl (lv_at hl 2 rfl) ?_
      refine lv_iconst (v := (1 : Int32)) hx hb dX11_elected_198 (by decide) ?_
      refine lv_iload_n hx hb dX11_elected_199 rfl (lv_at hl 3 rfl) ?_
      refine lv_ishl hx hb dX11_elected_200 ?_
      refine lv_iconst (v := (-1 : Int32)) hx hb dX11_elected_201 (by decide) ?_
      refine lv_ixor hx hb dX11_elected_202 ?_
      refine lv_iand hx hb dX11_elected_203 ?_
      refine lv_istore_n (lv' := [(2, .int (x2 &&& ((((1 : Int32)) <<< (x3_21 &&& 31)) ^^^ ((-1 : Int32))))), (0, .ref (ad x0)), (1, .int x1), (3, .int x3_21)]) hx hb dX11_elected_204 rfl hl (by decide) rfl (fun ls hl => ?_)
      refine lv_goto (tgt := 54) hx hb dX11_elected_205 (by decide) ?_
      exact hkb54 _ _ hf _ _ _ (lv_sub hl [1, 2, 0] rfl) G
theorem w_X11_elected_L54 {z : Int32 × Dt} (X : aw_X p c cX11_elected 8 s RX11 m meth (some .int)) {k54 : Dt → Option (Int32 × Dt)} {x0 : Nat} {x1 : Int32} (n : Nat) {x2 : Int32} {d : Dt} (hf : f_X11_elected_L54 σ n k54 x0 x1 x2 d = some z) (hk54 : ∀ (d : Dt), k54 d = some z → ∀ (H : Heap) (locs : List Loc) (ls : Array Slot), lv_has ls 8 [] → aw_G D cA base ad σ d s H locs → W p l e rm_X11_elected s m args below meth c H locs 0 0 (aw_Ei D cA base ad σ below args s z) (F0 m 208 ls [])) {H : Heap} {locs : List Loc} {ls : Array Slot} (hl : lv_has ls 8 [(0, .ref (ad x0)), (1, .int x1), (2, .int x2)]) (G : aw_G D cA base ad σ d s H locs) : W p l e rm_X11_elected s m args below meth c H locs 0 0 (aw_Ei D cA base ad σ below args s z) (F0 m 54 ls []) := by
  induction n generalizing x2 d H locs ls with
  | zero => exact absurd (show (none : Option (Int32 × Dt)) = some z from hf) (by simp)
  | succ n ih => exact w_X11_elected_B54 X (kb54 := f_X11_elected_L54 σ n k54 x0 x1) hf  (fun x2 d hf H locs ls hl G => ih hf hl G) hk54 hl G
set_option maxHeartbeats 4000000 in
set_option maxRecDepth 100000 in
theorem w_X11_elected_J208 {z : Int32 × Dt} (X : aw_X p c cX11_elected 8 s RX11 m meth (some .int))  {d : Dt} (hf : f_X11_elected_J208 σ d = some z)  {H : Heap} {locs : List Loc} {ls : Array Slot} (hl : lv_has ls 8 []) (G : aw_G D cA base ad σ d s H locs) : W p l e rm_X11_elected s m args below meth c H locs 0 0 (aw_Ei D cA base ad σ below args s z) (F0 m 208 ls []) := by
  have hx := X.1; have hb := X.2.1; have hml := X.2.2.1; have hown := X.2.2.2.1
  unfold f_X11_elected_J208 at hf
  refine lv_iconst (v := (-1 : Int32)) hx hb dX11_elected_208 (by decide) ?_
  exact aw_reti X G hf dX11_elected_209
set_option maxHeartbeats 4000000 in
set_option maxRecDepth 100000 in
theorem w_X11_elected_J13 {z : Int32 × Dt} (X : aw_X p c cX11_elected 8 s RX11 m meth (some .int)) {t1 : Int32} {t0 : Nat} {x0 : Nat} {d : Dt} (hf : f_X11_elected_J13 σ t1 t0 x0 d = some z)  {H : Heap} {locs : List Loc} {ls : Array Slot} (hl : lv_has ls 8 [(0, .ref (ad x0))]) (G : aw_G D cA base ad σ d s H locs) : W p l e rm_X11_elected s m args below meth c H locs 0 0 (aw_Ei D cA base ad σ below args s z) (F0 m 13 ls [.int t1, .ref (ad t0)]) := by
  have hx := X.1; have hb := X.2.1; have hml := X.2.2.1; have hown := X.2.2.2.1
  unfold f_X11_elected_J13 at hf
  obtain ⟨hc_4, hf⟩ := aw_chk_some hf
  obtain ⟨z_2, hz_3, hf⟩ := aw_bind_some hf
  refine aw_VI (As := [.int t1]) (rest := []) X G hl.1 cr_X11_113 (c_X11_fails l hz_3) ⟨rfl, rfl⟩ rfl rfl rfl (by decide) hc_4 rfl ⟨Nat.le_of_ble_eq_true rfl, Nat.le_of_ble_eq_true rfl⟩ (Nat.le_of_ble_eq_true rfl) dX11_elected_13 ⟨Nat.zero_le _, Nat.zero_le _⟩ (fun H locs G => ?_)
  refine lv_if_eq (tgt := 21) hx hb dX11_elected_16 (by decide) (fun hc => ?_) (fun hc => ?_)
  · have hf := aw_ite_t hc hf
    refine lv_iconst (v := (0 : Int32)) hx hb dX11_elected_21 (by decide) ?_
    refine lv_istore_n (lv' := [(1, .int ((0 : Int32))), (0, .ref (ad x0))]) hx hb dX11_elected_22 rfl hl (by decide) rfl (fun ls hl => ?_)
    refine lv_iconst (v := (0 : Int32)) hx hb dX11_elected_23 (by decide) ?_
    refine lv_istore_n (lv' := [(2, .int ((0 : Int32))), (1, .int ((0 : Int32))), (0, .ref (ad x0))]) hx hb dX11_elected_24 rfl hl (by decide) rfl (fun ls hl => ?_)
    refine w_X11_elected_L25 X aw_FU hf  (fun x1_9 d_10 hf H locs ls hl G => ?_) (lv_sub hl [2, 1, 0] rfl) G
    refine lv_iconst (v := (1 : Int32)) hx hb dX11_elected_45 (by decide) ?_
    refine lv_aload_n hx hb dX11_elected_46 rfl (lv_at hl 0 rfl) ?_
    obtain ⟨hc_11, hf⟩ := aw_chk_some hf
    refine gf_X11_107 hx hb G hown hc_11 dX11_elected_47 ?_
    refine lv_ishl hx hb dX11_elected_50 ?_
    refine lv_iconst (v := (1 : Int32)) hx hb dX11_elected_51 (by decide) ?_
    refine lv_isub hx hb dX11_elected_52 ?_
    refine lv_istore_n (lv' := [(2, .int ((((1 : Int32)) <<< ((d_10.1 x0 11) &&& 31)) - ((1 : Int32)))), (0, .ref (ad x0)), (1, .int x1_9)]) hx hb dX11_elected_53 rfl hl (by decide) rfl (fun ls hl => ?_)
    refine w_X11_elected_L54 X aw_FU hf  (fun d_23 hf H locs ls hl G => ?_) (lv_sub hl [1, 2, 0] rfl) G
    exact w_X11_elected_J208 X hf  (lv_sub hl [] rfl) G
  · have hf := aw_ite_f hc hf
    refine lv_iconst (v := (0 : Int32)) hx hb dX11_elected_19 (by decide) ?_
    exact aw_reti X G hf dX11_elected_20
end W_X11_elected
set_option maxHeartbeats 4000000 in
set_option maxRecDepth 100000 in
theorem c_X11_elected (l : Launch) {σ : Sg} {x0 : Nat} {d : Dt} {z : Int32 × Dt} (hf : f_X11_elected σ x0 d = some z) : aw_Mi l yX11_elected (Cond.code yX11_elected cX11_elected 8 (some .int)) rm_X11_elected (fun ad => [.ref (ad x0)]) σ d z := by
  intro D cA base ad
  refine aw_ofW (own := RX11) (cc := cX11_elected) (nL := 8) (ret := some .int) (by decide) rfl rfl ?_
  intro p e s m below meth c X hnm G
  have hx := X.1; have hb := X.2.1; have hml := X.2.2.1; have hown := X.2.2.2.1
  refine aw_ls (lv := [(0, .ref (ad x0))]) (Nat.le_of_ble_eq_true rfl) rfl (fun ls hl => ?_)
  unfold f_X11_elected at hf
  refine lv_aload_n hx hb dX11_elected_0 rfl (lv_at hl 0 rfl) ?_
  refine lv_aload_n hx hb dX11_elected_1 rfl (lv_at hl 0 rfl) ?_
  obtain ⟨hc_1, hf⟩ := aw_chk_some hf
  refine gf_X11_107 hx hb G hown hc_1 dX11_elected_2 ?_
  refine lv_if_ne (tgt := 12) hx hb dX11_elected_5 (by decide) (fun hc => ?_) (fun hc => ?_)
  · have hf := aw_ite_f hc hf
    refine lv_iconst (v := (0 : Int32)) hx hb dX11_elected_12 (by decide) ?_
    exact w_X11_elected_J13 X hf  (lv_sub hl [0] rfl) G
  · have hf := aw_ite_t hc hf
    refine lv_iconst (v := (1 : Int32)) hx hb dX11_elected_8 (by decide) ?_
    refine lv_goto (tgt := 13) hx hb dX11_elected_9 (by decide) ?_
    exact w_X11_elected_J13 X hf  (lv_sub hl [0] rfl) G
