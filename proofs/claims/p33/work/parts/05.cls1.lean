/-! X7_signsInUse X4_take J13_bitCount_95d88 X10_has X4_weightRead X4_weightUnreadWith X4_nextSign X4_putInOrder X4_costOfOrder X4_listLearnable X4_signsIn X4_leastOfOrders J7_fill_d0a16 X5_readHeads X5_readTones X5_readCodas X5_countByUnits X5_standsAt -/
def rm_X7_signsInUse : Room := { frames := 1, cells := 0, slots := 0, locals := 24 }
def f_X7_signsInUse_B4 (σ : Sg) (kb4 : Int64 → Int32 → Dt → Option (Int64 × Dt)) (k4 : Int64 → Dt → Option (Int64 × Dt)) (x0 : Nat) (x1 : Int64) (x3 : Int32) (d : Dt) : Option (Int64 × Dt) :=
  aw_chk (aw_O σ 7 3 x0) (if (d.1 x0 2) ≤ x3 then k4 x1 d else (f_X7_signsOf σ x0 x3 d).bind (fun z_2 => kb4 (x1 ||| z_2.1) (x3 + 1) z_2.2))
def f_X7_signsInUse_L4 (σ : Sg) (n : Nat) (k4 : Int64 → Dt → Option (Int64 × Dt)) (x0 : Nat) : Int64 → Int32 → Dt → Option (Int64 × Dt) := match n with
  | 0 => fun _ _ _ => none
  | n + 1 => fun x1 x3 d => f_X7_signsInUse_B4 σ (f_X7_signsInUse_L4 σ n k4 x0) k4 x0 x1 x3 d
def f_X7_signsInUse (σ : Sg) (x0 : Nat) (d : Dt) : Option (Int64 × Dt) :=
  f_X7_signsInUse_L4 σ aw_FU (fun x1_4 d_5 => some (x1_4, d_5)) x0 ((0 : Int64)) ((0 : Int32)) d
section W_X7_signsInUse
variable {p : Program} {l : Launch} {e : Env} {s : State} {m : MethodId} {args : Array Value} {below : List Frame} {meth : Method} {c : Code}
variable {D : va_G} {cA : Nat → ClassId} {base : Nat} {ad : Nat → Nat} {σ : Sg}
set_option maxHeartbeats 4000000 in
set_option maxRecDepth 100000 in
theorem w_X7_signsInUse_B4 {z : Int64 × Dt} (X : aw_X p c cX7_signsInUse 4 s RX7 m meth (some .long)) {kb4 : Int64 → Int32 → Dt → Option (Int64 × Dt)} {k4 : Int64 → Dt → Option (Int64 × Dt)} {x0 : Nat} {x1 : Int64} {x3 : Int32} {d : Dt} (hf : f_X7_signsInUse_B4 σ kb4 k4 x0 x1 x3 d = some z) (hkb4 : ∀ (y1 : Int64) (y3 : Int32) (d : Dt), kb4 y1 y3 d = some z → ∀ (H : Heap) (locs : List Loc) (ls : Array Slot), lv_has ls 4 [(0, .ref (ad x0)), (1, .long y1), (3, .int y3)] → aw_G D cA base ad σ d s H locs → W p l e rm_X7_signsInUse s m args below meth c H locs 0 0 (aw_El D cA base ad σ below args s z) (F0 m 4 ls [])) (hk4 : ∀ (y1 : Int64) (d : Dt), k4 y1 d = some z → ∀ (H : Heap) (locs : List Loc) (ls : Array Slot), lv_has ls 4 [(1, .long y1)] → aw_G D cA base ad σ d s H locs → W p l e rm_X7_signsInUse s m args below meth c H locs 0 0 (aw_El D cA base ad σ below args s z) (F0 m 26 ls [])) {H : Heap} {locs : List Loc} {ls : Array Slot} (hl : lv_has ls 4 [(0, .ref (ad x0)), (1, .long x1), (3, .int x3)]) (G : aw_G D cA base ad σ d s H locs) : W p l e rm_X7_signsInUse s m args below meth c H locs 0 0 (aw_El D cA base ad σ below args s z) (F0 m 4 ls []) := by
  have hx := X.1; have hb := X.2.1; have hml := X.2.2.1; have hown := X.2.2.2.1
  unfold f_X7_signsInUse_B4 at hf
  refine lv_iload_n hx hb dX7_signsInUse_4 rfl (lv_at hl 2 rfl) ?_
  refine lv_aload_n hx hb dX7_signsInUse_5 rfl (lv_at hl 0 rfl) ?_
  obtain ⟨hc_1, hf⟩ := aw_chk_some hf
  refine gf_X7_20 hx hb G hown hc_1 dX7_signsInUse_6 ?_
  refine lv_icmp_ge (tgt := 26) hx hb dX7_signsInUse_9 (by decide) (fun hc => ?_) (fun hc => ?_)
  · have hf := aw_ite_t hc hf
    exact hk4 _ _ hf _ _ _ (lv_sub hl [1] rfl) G
  · have hf := aw_ite_f hc hf
    refine lv_lload_n hx hb dX7_signsInUse_12 rfl (lv_at hl 1 rfl) ?_
    refine lv_aload_n hx hb dX7_signsInUse_13 rfl (lv_at hl 0 rfl) ?_
    refine lv_iload_n hx hb dX7_signsInUse_14 rfl (lv_at hl 2 rfl) ?_
    obtain ⟨z_2, hz_3, hf⟩ := aw_bind_some hf
    refine aw_VL (As := [.int x3]) (rest := [.long x1]) X G hl.1 cr_X7_49 (c_X7_signsOf l hz_3) ⟨rfl, rfl⟩ rfl rfl rfl (by decide) hc_1 rfl ⟨Nat.le_of_ble_eq_true rfl, Nat.le_of_ble_eq_true rfl⟩ (Nat.le_of_ble_eq_true rfl) dX7_signsInUse_15 ⟨Nat.zero_le _, Nat.zero_le _⟩ (fun H locs G => ?_)
    refine lv_lor hx hb dX7_signsInUse_18 ?_
    refine lv_lstore_n (lv' := [(1, .long (x1 ||| z_2.1)), (0, .ref (ad x0)), (3, .int x3)]) hx hb dX7_signsInUse_19 rfl hl (by decide) rfl (fun ls hl => ?_)
    refine lv_iinc (v := x3 + 1) (lv' := [(3, .int (x3 + 1)), (1, .long (x1 ||| z_2.1)), (0, .ref (ad x0))]) hx hb dX7_signsInUse_20 hl (k := 2) rfl rfl (by decide) rfl (fun ls hl => ?_)
    refine lv_goto (tgt := 4) hx hb dX7_signsInUse_23 (by decide) ?_
    exact hkb4 _ _ _ hf _ _ _ (lv_sub hl [2, 1, 0] rfl) G
theorem w_X7_signsInUse_L4 {z : Int64 × Dt} (X : aw_X p c cX7_signsInUse 4 s RX7 m meth (some .long)) {k4 : Int64 → Dt → Option (Int64 × Dt)} {x0 : Nat} (n : Nat) {x1 : Int64} {x3 : Int32} {d : Dt} (hf : f_X7_signsInUse_L4 σ n k4 x0 x1 x3 d = some z) (hk4 : ∀ (y1 : Int64) (d : Dt), k4 y1 d = some z → ∀ (H : Heap) (locs : List Loc) (ls : Array Slot), lv_has ls 4 [(1, .long y1)] → aw_G D cA base ad σ d s H locs → W p l e rm_X7_signsInUse s m args below meth c H locs 0 0 (aw_El D cA base ad σ below args s z) (F0 m 26 ls [])) {H : Heap} {locs : List Loc} {ls : Array Slot} (hl : lv_has ls 4 [(0, .ref (ad x0)), (1, .long x1), (3, .int x3)]) (G : aw_G D cA base ad σ d s H locs) : W p l e rm_X7_signsInUse s m args below meth c H locs 0 0 (aw_El D cA base ad σ below args s z) (F0 m 4 ls []) := by
  induction n generalizing x1 x3 d H locs ls with
  | zero => exact absurd (show (none : Option (Int64 × Dt)) = some z from hf) (by simp)
  | succ n ih => exact w_X7_signsInUse_B4 X (kb4 := f_X7_signsInUse_L4 σ n k4 x0) hf  (fun x1 x3 d hf H locs ls hl G => ih hf hl G) hk4 hl G
end W_X7_signsInUse
set_option maxHeartbeats 4000000 in
set_option maxRecDepth 100000 in
theorem c_X7_signsInUse (l : Launch) {σ : Sg} {x0 : Nat} {d : Dt} {z : Int64 × Dt} (hf : f_X7_signsInUse σ x0 d = some z) : aw_Ml l yX7_signsInUse (Cond.code yX7_signsInUse cX7_signsInUse 4 (some .long)) rm_X7_signsInUse (fun ad => [.ref (ad x0)]) σ d z := by
  intro D cA base ad
  refine aw_ofW (own := RX7) (cc := cX7_signsInUse) (nL := 4) (ret := some .long) (by decide) rfl rfl ?_
  intro p e s m below meth c X hnm G
  have hx := X.1; have hb := X.2.1; have hml := X.2.2.1; have hown := X.2.2.2.1
  refine aw_ls (lv := [(0, .ref (ad x0))]) (Nat.le_of_ble_eq_true rfl) rfl (fun ls hl => ?_)
  unfold f_X7_signsInUse at hf
  refine lv_lconst (v := (0 : Int64)) hx hb dX7_signsInUse_0 (by decide) ?_
  refine lv_lstore_n (lv' := [(1, .long ((0 : Int64))), (0, .ref (ad x0))]) hx hb dX7_signsInUse_1 rfl hl (by decide) rfl (fun ls hl => ?_)
  refine lv_iconst (v := (0 : Int32)) hx hb dX7_signsInUse_2 (by decide) ?_
  refine lv_istore_n (lv' := [(3, .int ((0 : Int32))), (1, .long ((0 : Int64))), (0, .ref (ad x0))]) hx hb dX7_signsInUse_3 rfl hl (by decide) rfl (fun ls hl => ?_)
  refine w_X7_signsInUse_L4 X aw_FU hf  (fun x1_4 d_5 hf H locs ls hl G => ?_) (lv_sub hl [2, 1, 0] rfl) G
  refine lv_lload_n hx hb dX7_signsInUse_26 rfl (lv_at hl 0 rfl) ?_
  exact aw_retl X G hf dX7_signsInUse_27
def rm_X4_take : Room := { frames := 2, cells := 0, slots := 0, locals := 47 }
def f_X4_take_B18 (σ : Sg) (kb18 : Int32 → Dt → Option (Unit × Dt)) (k18 : Dt → Option (Unit × Dt)) (x0 : Nat) (x1 : Nat) (x2 : Nat) (x3 : Int32) (d : Dt) : Option (Unit × Dt) :=
  aw_chk (aw_O σ 4 8 x0) (if (d.1 x0 2) ≤ x3 then k18 d else (σ.2.2 x0 0).bind (fun q_6 => aw_chk (aw_O σ 7 3 x1) ((f_X7_signsOf σ x1 x3 d).bind (fun z_8 => aw_chk (aw_I σ 21 q_6 x3) ((σ.2.2 x0 1).bind (fun q_12 => aw_chk (aw_I σ 20 x2 x3) (aw_chk (aw_I σ 20 q_12 x3) (kb18 (x3 + 1) (aw_sI (aw_sL z_8.2 q_6 x3.toNatClampNeg z_8.1) q_12 x3.toNatClampNeg ((aw_sL z_8.2 q_6 x3.toNatClampNeg z_8.1).1 x2 x3.toNatClampNeg))))))))))
def f_X4_take_L18 (σ : Sg) (n : Nat) (k18 : Dt → Option (Unit × Dt)) (x0 : Nat) (x1 : Nat) (x2 : Nat) : Int32 → Dt → Option (Unit × Dt) := match n with
  | 0 => fun _ _ => none
  | n + 1 => fun x3 d => f_X4_take_B18 σ (f_X4_take_L18 σ n k18 x0 x1 x2) k18 x0 x1 x2 x3 d
def f_X4_take (σ : Sg) (x0 : Nat) (x1 : Nat) (x2 : Nat) (d : Dt) : Option (Unit × Dt) :=
  aw_chk (aw_O σ 7 3 x1) (aw_chk (aw_O σ 4 8 x0) ((f_X7_signsInUse σ x1 (aw_sI d x0 2 (d.1 x1 2))).bind (fun z_3 => f_X4_take_L18 σ aw_FU (fun d_16 => some ((), d_16)) x0 x1 x2 ((0 : Int32)) (aw_sL z_3.2 x0 3 z_3.1))))
section W_X4_take
variable {p : Program} {l : Launch} {e : Env} {s : State} {m : MethodId} {args : Array Value} {below : List Frame} {meth : Method} {c : Code}
variable {D : va_G} {cA : Nat → ClassId} {base : Nat} {ad : Nat → Nat} {σ : Sg}
set_option maxHeartbeats 4000000 in
set_option maxRecDepth 100000 in
theorem w_X4_take_B18 {z : Unit × Dt} (X : aw_X p c cX4_take 4 s RX4 m meth (none)) {kb18 : Int32 → Dt → Option (Unit × Dt)} {k18 : Dt → Option (Unit × Dt)} {x0 : Nat} {x1 : Nat} {x2 : Nat} {x3 : Int32} {d : Dt} (hf : f_X4_take_B18 σ kb18 k18 x0 x1 x2 x3 d = some z) (hkb18 : ∀ (y3 : Int32) (d : Dt), kb18 y3 d = some z → ∀ (H : Heap) (locs : List Loc) (ls : Array Slot), lv_has ls 4 [(0, .ref (ad x0)), (1, .ref (ad x1)), (2, .ref (ad x2)), (3, .int y3)] → aw_G D cA base ad σ d s H locs → W p l e rm_X4_take s m args below meth c H locs 0 0 (aw_Ev D cA base ad σ below args s z) (F0 m 18 ls [])) (hk18 : ∀ (d : Dt), k18 d = some z → ∀ (H : Heap) (locs : List Loc) (ls : Array Slot), lv_has ls 4 [] → aw_G D cA base ad σ d s H locs → W p l e rm_X4_take s m args below meth c H locs 0 0 (aw_Ev D cA base ad σ below args s z) (F0 m 52 ls [])) {H : Heap} {locs : List Loc} {ls : Array Slot} (hl : lv_has ls 4 [(0, .ref (ad x0)), (1, .ref (ad x1)), (2, .ref (ad x2)), (3, .int x3)]) (G : aw_G D cA base ad σ d s H locs) : W p l e rm_X4_take s m args below meth c H locs 0 0 (aw_Ev D cA base ad σ below args s z) (F0 m 18 ls []) := by
  have hx := X.1; have hb := X.2.1; have hml := X.2.2.1; have hown := X.2.2.2.1
  unfold f_X4_take_B18 at hf
  refine lv_iload_n hx hb dX4_take_18 rfl (lv_at hl 3 rfl) ?_
  refine lv_aload_n hx hb dX4_take_19 rfl (lv_at hl 0 rfl) ?_
  obtain ⟨hc_5, hf⟩ := aw_chk_some hf
  refine gf_X4_19 hx hb G hown hc_5 dX4_take_20 ?_
  refine lv_icmp_ge (tgt := 52) hx hb dX4_take_23 (by decide) (fun hc => ?_) (fun hc => ?_)
  · have hf := aw_ite_t hc hf
    exact hk18 _ hf _ _ _ (lv_sub hl [] rfl) G
  · have hf := aw_ite_f hc hf
    refine lv_aload_n hx hb dX4_take_26 rfl (lv_at hl 0 rfl) ?_
    obtain ⟨q_6, hq_7, hf⟩ := aw_bind_some hf
    refine gf_X4_9 hx hb G hown hc_5 hq_7 dX4_take_27 ?_
    refine lv_iload_n hx hb dX4_take_30 rfl (lv_at hl 3 rfl) ?_
    refine lv_aload_n hx hb dX4_take_31 rfl (lv_at hl 1 rfl) ?_
    refine lv_iload_n hx hb dX4_take_32 rfl (lv_at hl 3 rfl) ?_
    obtain ⟨hc_10, hf⟩ := aw_chk_some hf
    obtain ⟨z_8, hz_9, hf⟩ := aw_bind_some hf
    refine aw_VL (As := [.int x3]) (rest := [.int x3, .ref (ad q_6)]) X G hl.1 cr_X4_48 (c_X7_signsOf l hz_9) ⟨rfl, rfl⟩ rfl rfl rfl (by decide) hc_10 rfl ⟨Nat.le_of_ble_eq_true rfl, Nat.le_of_ble_eq_true rfl⟩ (Nat.le_of_ble_eq_true rfl) dX4_take_33 ⟨Nat.zero_le _, Nat.zero_le _⟩ (fun H locs G => ?_)
    obtain ⟨hc_11, hf⟩ := aw_chk_some hf
    refine aw_las hx hb G hc_11 dX4_take_36 (fun H locs G => ?_)
    refine lv_aload_n hx hb dX4_take_37 rfl (lv_at hl 0 rfl) ?_
    obtain ⟨q_12, hq_13, hf⟩ := aw_bind_some hf
    refine gf_X4_15 hx hb G hown hc_5 hq_13 dX4_take_38 ?_
    refine lv_iload_n hx hb dX4_take_41 rfl (lv_at hl 3 rfl) ?_
    refine lv_aload_n hx hb dX4_take_42 rfl (lv_at hl 2 rfl) ?_
    refine lv_iload_n hx hb dX4_take_43 rfl (lv_at hl 3 rfl) ?_
    obtain ⟨hc_14, hf⟩ := aw_chk_some hf
    refine aw_ial hx hb G hc_14 dX4_take_44 ?_
    obtain ⟨hc_15, hf⟩ := aw_chk_some hf
    refine aw_ias hx hb G hc_15 dX4_take_45 (fun H locs G => ?_)
    refine lv_iinc (v := x3 + 1) (lv' := [(3, .int (x3 + 1)), (0, .ref (ad x0)), (1, .ref (ad x1)), (2, .ref (ad x2))]) hx hb dX4_take_46 hl (k := 3) rfl rfl (by decide) rfl (fun ls hl => ?_)
    refine lv_goto (tgt := 18) hx hb dX4_take_49 (by decide) ?_
    exact hkb18 _ _ hf _ _ _ (lv_sub hl [1, 2, 3, 0] rfl) G
theorem w_X4_take_L18 {z : Unit × Dt} (X : aw_X p c cX4_take 4 s RX4 m meth (none)) {k18 : Dt → Option (Unit × Dt)} {x0 : Nat} {x1 : Nat} {x2 : Nat} (n : Nat) {x3 : Int32} {d : Dt} (hf : f_X4_take_L18 σ n k18 x0 x1 x2 x3 d = some z) (hk18 : ∀ (d : Dt), k18 d = some z → ∀ (H : Heap) (locs : List Loc) (ls : Array Slot), lv_has ls 4 [] → aw_G D cA base ad σ d s H locs → W p l e rm_X4_take s m args below meth c H locs 0 0 (aw_Ev D cA base ad σ below args s z) (F0 m 52 ls [])) {H : Heap} {locs : List Loc} {ls : Array Slot} (hl : lv_has ls 4 [(0, .ref (ad x0)), (1, .ref (ad x1)), (2, .ref (ad x2)), (3, .int x3)]) (G : aw_G D cA base ad σ d s H locs) : W p l e rm_X4_take s m args below meth c H locs 0 0 (aw_Ev D cA base ad σ below args s z) (F0 m 18 ls []) := by
  induction n generalizing x3 d H locs ls with
  | zero => exact absurd (show (none : Option (Unit × Dt)) = some z from hf) (by simp)
  | succ n ih => exact w_X4_take_B18 X (kb18 := f_X4_take_L18 σ n k18 x0 x1 x2) hf  (fun x3 d hf H locs ls hl G => ih hf hl G) hk18 hl G
end W_X4_take
set_option maxHeartbeats 4000000 in
set_option maxRecDepth 100000 in
theorem c_X4_take (l : Launch) {σ : Sg} {x0 : Nat} {x1 : Nat} {x2 : Nat} {d : Dt} {z : Unit × Dt} (hf : f_X4_take σ x0 x1 x2 d = some z) : aw_Mv l yX4_take (Cond.code yX4_take cX4_take 4 (none)) rm_X4_take (fun ad => [.ref (ad x0), .ref (ad x1), .ref (ad x2)]) σ d z := by
  intro D cA base ad
  refine aw_ofW (own := RX4) (cc := cX4_take) (nL := 4) (ret := none) (by decide) rfl rfl ?_
  intro p e s m below meth c X hnm G
  have hx := X.1; have hb := X.2.1; have hml := X.2.2.1; have hown := X.2.2.2.1
  refine aw_ls (lv := [(0, .ref (ad x0)), (1, .ref (ad x1)), (2, .ref (ad x2))]) (Nat.le_of_ble_eq_true rfl) rfl (fun ls hl => ?_)
  unfold f_X4_take at hf
  refine lv_aload_n hx hb dX4_take_0 rfl (lv_at hl 0 rfl) ?_
  refine lv_aload_n hx hb dX4_take_1 rfl (lv_at hl 1 rfl) ?_
  obtain ⟨hc_1, hf⟩ := aw_chk_some hf
  refine gf_X4_39 hx hb G hown hc_1 dX4_take_2 ?_
  obtain ⟨hc_2, hf⟩ := aw_chk_some hf
  refine pf_X4_19 hx hb G hown hc_2 dX4_take_5 (fun H locs G => ?_)
  refine lv_aload_n hx hb dX4_take_8 rfl (lv_at hl 0 rfl) ?_
  refine lv_aload_n hx hb dX4_take_9 rfl (lv_at hl 1 rfl) ?_
  obtain ⟨z_3, hz_4, hf⟩ := aw_bind_some hf
  refine aw_VL (As := []) (rest := [.ref (ad x0)]) X G hl.1 cr_X4_44 (c_X7_signsInUse l hz_4) ⟨rfl, rfl⟩ rfl rfl rfl (by decide) hc_1 rfl ⟨Nat.le_of_ble_eq_true rfl, Nat.le_of_ble_eq_true rfl⟩ (Nat.le_of_ble_eq_true rfl) dX4_take_10 ⟨Nat.zero_le _, Nat.zero_le _⟩ (fun H locs G => ?_)
  refine pf_X4_23 hx hb G hown hc_2 dX4_take_13 (fun H locs G => ?_)
  refine lv_iconst (v := (0 : Int32)) hx hb dX4_take_16 (by decide) ?_
  refine lv_istore_n (lv' := [(3, .int ((0 : Int32))), (0, .ref (ad x0)), (1, .ref (ad x1)), (2, .ref (ad x2))]) hx hb dX4_take_17 rfl hl (by decide) rfl (fun ls hl => ?_)
  refine w_X4_take_L18 X aw_FU hf  (fun d_16 hf H locs ls hl G => ?_) (lv_sub hl [1, 2, 3, 0] rfl) G
  exact aw_retv X G hf dX4_take_52
def rm_J13_bitCount_95d88 : Room := { frames := 0, cells := 0, slots := 0, locals := 0 }
def f_J13_bitCount_95d88 (σ : Sg) (x0 : Int64) (d : Dt) : Option (Int32 × Dt) :=
  some ((((((((((x0 - (((x0.toUInt64 >>> (((1 : Int32)).toInt64.toUInt64 &&& Int64.toUInt64 63)).toInt64) &&& ((6148914691236517205 : Int64)))) &&& ((3689348814741910323 : Int64))) + ((((x0 - (((x0.toUInt64 >>> (((1 : Int32)).toInt64.toUInt64 &&& Int64.toUInt64 63)).toInt64) &&& ((6148914691236517205 : Int64)))).toUInt64 >>> (((2 : Int32)).toInt64.toUInt64 &&& Int64.toUInt64 63)).toInt64) &&& ((3689348814741910323 : Int64)))) + (((((x0 - (((x0.toUInt64 >>> (((1 : Int32)).toInt64.toUInt64 &&& Int64.toUInt64 63)).toInt64) &&& ((6148914691236517205 : Int64)))) &&& ((3689348814741910323 : Int64))) + ((((x0 - (((x0.toUInt64 >>> (((1 : Int32)).toInt64.toUInt64 &&& Int64.toUInt64 63)).toInt64) &&& ((6148914691236517205 : Int64)))).toUInt64 >>> (((2 : Int32)).toInt64.toUInt64 &&& Int64.toUInt64 63)).toInt64) &&& ((3689348814741910323 : Int64)))).toUInt64 >>> (((4 : Int32)).toInt64.toUInt64 &&& Int64.toUInt64 63)).toInt64)) &&& ((1085102592571150095 : Int64))) + (((((((x0 - (((x0.toUInt64 >>> (((1 : Int32)).toInt64.toUInt64 &&& Int64.toUInt64 63)).toInt64) &&& ((6148914691236517205 : Int64)))) &&& ((3689348814741910323 : Int64))) + ((((x0 - (((x0.toUInt64 >>> (((1 : Int32)).toInt64.toUInt64 &&& Int64.toUInt64 63)).toInt64) &&& ((6148914691236517205 : Int64)))).toUInt64 >>> (((2 : Int32)).toInt64.toUInt64 &&& Int64.toUInt64 63)).toInt64) &&& ((3689348814741910323 : Int64)))) + (((((x0 - (((x0.toUInt64 >>> (((1 : Int32)).toInt64.toUInt64 &&& Int64.toUInt64 63)).toInt64) &&& ((6148914691236517205 : Int64)))) &&& ((3689348814741910323 : Int64))) + ((((x0 - (((x0.toUInt64 >>> (((1 : Int32)).toInt64.toUInt64 &&& Int64.toUInt64 63)).toInt64) &&& ((6148914691236517205 : Int64)))).toUInt64 >>> (((2 : Int32)).toInt64.toUInt64 &&& Int64.toUInt64 63)).toInt64) &&& ((3689348814741910323 : Int64)))).toUInt64 >>> (((4 : Int32)).toInt64.toUInt64 &&& Int64.toUInt64 63)).toInt64)) &&& ((1085102592571150095 : Int64))).toUInt64 >>> (((8 : Int32)).toInt64.toUInt64 &&& Int64.toUInt64 63)).toInt64)) + ((((((((x0 - (((x0.toUInt64 >>> (((1 : Int32)).toInt64.toUInt64 &&& Int64.toUInt64 63)).toInt64) &&& ((6148914691236517205 : Int64)))) &&& ((3689348814741910323 : Int64))) + ((((x0 - (((x0.toUInt64 >>> (((1 : Int32)).toInt64.toUInt64 &&& Int64.toUInt64 63)).toInt64) &&& ((6148914691236517205 : Int64)))).toUInt64 >>> (((2 : Int32)).toInt64.toUInt64 &&& Int64.toUInt64 63)).toInt64) &&& ((3689348814741910323 : Int64)))) + (((((x0 - (((x0.toUInt64 >>> (((1 : Int32)).toInt64.toUInt64 &&& Int64.toUInt64 63)).toInt64) &&& ((6148914691236517205 : Int64)))) &&& ((3689348814741910323 : Int64))) + ((((x0 - (((x0.toUInt64 >>> (((1 : Int32)).toInt64.toUInt64 &&& Int64.toUInt64 63)).toInt64) &&& ((6148914691236517205 : Int64)))).toUInt64 >>> (((2 : Int32)).toInt64.toUInt64 &&& Int64.toUInt64 63)).toInt64) &&& ((3689348814741910323 : Int64)))).toUInt64 >>> (((4 : Int32)).toInt64.toUInt64 &&& Int64.toUInt64 63)).toInt64)) &&& ((1085102592571150095 : Int64))) + (((((((x0 - (((x0.toUInt64 >>> (((1 : Int32)).toInt64.toUInt64 &&& Int64.toUInt64 63)).toInt64) &&& ((6148914691236517205 : Int64)))) &&& ((3689348814741910323 : Int64))) + ((((x0 - (((x0.toUInt64 >>> (((1 : Int32)).toInt64.toUInt64 &&& Int64.toUInt64 63)).toInt64) &&& ((6148914691236517205 : Int64)))).toUInt64 >>> (((2 : Int32)).toInt64.toUInt64 &&& Int64.toUInt64 63)).toInt64) &&& ((3689348814741910323 : Int64)))) + (((((x0 - (((x0.toUInt64 >>> (((1 : Int32)).toInt64.toUInt64 &&& Int64.toUInt64 63)).toInt64) &&& ((6148914691236517205 : Int64)))) &&& ((3689348814741910323 : Int64))) + ((((x0 - (((x0.toUInt64 >>> (((1 : Int32)).toInt64.toUInt64 &&& Int64.toUInt64 63)).toInt64) &&& ((6148914691236517205 : Int64)))).toUInt64 >>> (((2 : Int32)).toInt64.toUInt64 &&& Int64.toUInt64 63)).toInt64) &&& ((3689348814741910323 : Int64)))).toUInt64 >>> (((4 : Int32)).toInt64.toUInt64 &&& Int64.toUInt64 63)).toInt64)) &&& ((1085102592571150095 : Int64))).toUInt64 >>> (((8 : Int32)).toInt64.toUInt64 &&& Int64.toUInt64 63)).toInt64)).toUInt64 >>> (((16 : Int32)).toInt64.toUInt64 &&& Int64.toUInt64 63)).toInt64)) + (((((((((x0 - (((x0.toUInt64 >>> (((1 : Int32)).toInt64.toUInt64 &&& Int64.toUInt64 63)).toInt64) &&& ((6148914691236517205 : Int64)))) &&& ((3689348814741910323 : Int64))) + ((((x0 - (((x0.toUInt64 >>> (((1 : Int32)).toInt64.toUInt64 &&& Int64.toUInt64 63)).toInt64) &&& ((6148914691236517205 : Int64)))).toUInt64 >>> (((2 : Int32)).toInt64.toUInt64 &&& Int64.toUInt64 63)).toInt64) &&& ((3689348814741910323 : Int64)))) + (((((x0 - (((x0.toUInt64 >>> (((1 : Int32)).toInt64.toUInt64 &&& Int64.toUInt64 63)).toInt64) &&& ((6148914691236517205 : Int64)))) &&& ((3689348814741910323 : Int64))) + ((((x0 - (((x0.toUInt64 >>> (((1 : Int32)).toInt64.toUInt64 &&& Int64.toUInt64 63)).toInt64) &&& ((6148914691236517205 : Int64)))).toUInt64 >>> (((2 : Int32)).toInt64.toUInt64 &&& Int64.toUInt64 63)).toInt64) &&& ((3689348814741910323 : Int64)))).toUInt64 >>> (((4 : Int32)).toInt64.toUInt64 &&& Int64.toUInt64 63)).toInt64)) &&& ((1085102592571150095 : Int64))) + (((((((x0 - (((x0.toUInt64 >>> (((1 : Int32)).toInt64.toUInt64 &&& Int64.toUInt64 63)).toInt64) &&& ((6148914691236517205 : Int64)))) &&& ((3689348814741910323 : Int64))) + ((((x0 - (((x0.toUInt64 >>> (((1 : Int32)).toInt64.toUInt64 &&& Int64.toUInt64 63)).toInt64) &&& ((6148914691236517205 : Int64)))).toUInt64 >>> (((2 : Int32)).toInt64.toUInt64 &&& Int64.toUInt64 63)).toInt64) &&& ((3689348814741910323 : Int64)))) + (((((x0 - (((x0.toUInt64 >>> (((1 : Int32)).toInt64.toUInt64 &&& Int64.toUInt64 63)).toInt64) &&& ((6148914691236517205 : Int64)))) &&& ((3689348814741910323 : Int64))) + ((((x0 - (((x0.toUInt64 >>> (((1 : Int32)).toInt64.toUInt64 &&& Int64.toUInt64 63)).toInt64) &&& ((6148914691236517205 : Int64)))).toUInt64 >>> (((2 : Int32)).toInt64.toUInt64 &&& Int64.toUInt64 63)).toInt64) &&& ((3689348814741910323 : Int64)))).toUInt64 >>> (((4 : Int32)).toInt64.toUInt64 &&& Int64.toUInt64 63)).toInt64)) &&& ((1085102592571150095 : Int64))).toUInt64 >>> (((8 : Int32)).toInt64.toUInt64 &&& Int64.toUInt64 63)).toInt64)) + ((((((((x0 - (((x0.toUInt64 >>> (((1 : Int32)).toInt64.toUInt64 &&& Int64.toUInt64 63)).toInt64) &&& ((6148914691236517205 : Int64)))) &&& ((3689348814741910323 : Int64))) + ((((x0 - (((x0.toUInt64 >>> (((1 : Int32)).toInt64.toUInt64 &&& Int64.toUInt64 63)).toInt64) &&& ((6148914691236517205 : Int64)))).toUInt64 >>> (((2 : Int32)).toInt64.toUInt64 &&& Int64.toUInt64 63)).toInt64) &&& ((3689348814741910323 : Int64)))) + (((((x0 - (((x0.toUInt64 >>> (((1 : Int32)).toInt64.toUInt64 &&& Int64.toUInt64 63)).toInt64) &&& ((6148914691236517205 : Int64)))) &&& ((3689348814741910323 : Int64))) + ((((x0 - (((x0.toUInt64 >>> (((1 : Int32)).toInt64.toUInt64 &&& Int64.toUInt64 63)).toInt64) &&& ((6148914691236517205 : Int64)))).toUInt64 >>> (((2 : Int32)).toInt64.toUInt64 &&& Int64.toUInt64 63)).toInt64) &&& ((3689348814741910323 : Int64)))).toUInt64 >>> (((4 : Int32)).toInt64.toUInt64 &&& Int64.toUInt64 63)).toInt64)) &&& ((1085102592571150095 : Int64))) + (((((((x0 - (((x0.toUInt64 >>> (((1 : Int32)).toInt64.toUInt64 &&& Int64.toUInt64 63)).toInt64) &&& ((6148914691236517205 : Int64)))) &&& ((3689348814741910323 : Int64))) + ((((x0 - (((x0.toUInt64 >>> (((1 : Int32)).toInt64.toUInt64 &&& Int64.toUInt64 63)).toInt64) &&& ((6148914691236517205 : Int64)))).toUInt64 >>> (((2 : Int32)).toInt64.toUInt64 &&& Int64.toUInt64 63)).toInt64) &&& ((3689348814741910323 : Int64)))) + (((((x0 - (((x0.toUInt64 >>> (((1 : Int32)).toInt64.toUInt64 &&& Int64.toUInt64 63)).toInt64) &&& ((6148914691236517205 : Int64)))) &&& ((3689348814741910323 : Int64))) + ((((x0 - (((x0.toUInt64 >>> (((1 : Int32)).toInt64.toUInt64 &&& Int64.toUInt64 63)).toInt64) &&& ((6148914691236517205 : Int64)))).toUInt64 >>> (((2 : Int32)).toInt64.toUInt64 &&& Int64.toUInt64 63)).toInt64) &&& ((3689348814741910323 : Int64)))).toUInt64 >>> (((4 : Int32)).toInt64.toUInt64 &&& Int64.toUInt64 63)).toInt64)) &&& ((1085102592571150095 : Int64))).toUInt64 >>> (((8 : Int32)).toInt64.toUInt64 &&& Int64.toUInt64 63)).toInt64)).toUInt64 >>> (((16 : Int32)).toInt64.toUInt64 &&& Int64.toUInt64 63)).toInt64)).toUInt64 >>> (((32 : Int32)).toInt64.toUInt64 &&& Int64.toUInt64 63)).toInt64)).toInt32) &&& ((127 : Int32)), d)
section W_J13_bitCount_95d88
variable {p : Program} {l : Launch} {e : Env} {s : State} {m : MethodId} {args : Array Value} {below : List Frame} {meth : Method} {c : Code}
variable {D : va_G} {cA : Nat → ClassId} {base : Nat} {ad : Nat → Nat} {σ : Sg}
end W_J13_bitCount_95d88
set_option maxHeartbeats 4000000 in
set_option maxRecDepth 100000 in
theorem c_J13_bitCount_95d88 (l : Launch) {σ : Sg} {x0 : Int64} {d : Dt} {z : Int32 × Dt} (hf : f_J13_bitCount_95d88 σ x0 d = some z) : aw_Mi l yJ13_bitCount_95d88 (Cond.code yJ13_bitCount_95d88 cJ13_bitCount_95d88 2 (some .int)) rm_J13_bitCount_95d88 (fun ad => [.long x0]) σ d z := by
  intro D cA base ad
  refine aw_ofW (own := RJ13) (cc := cJ13_bitCount_95d88) (nL := 2) (ret := some .int) (by decide) rfl rfl ?_
  intro p e s m below meth c X hnm G
  have hx := X.1; have hb := X.2.1; have hml := X.2.2.1; have hown := X.2.2.2.1
  refine aw_ls (lv := [(0, .long x0)]) (Nat.le_of_ble_eq_true rfl) rfl (fun ls hl => ?_)
  unfold f_J13_bitCount_95d88 at hf
  refine lv_lload_n hx hb dJ13_bitCount_95d88_0 rfl (lv_at hl 0 rfl) ?_
  refine lv_lload_n hx hb dJ13_bitCount_95d88_1 rfl (lv_at hl 0 rfl) ?_
  refine lv_iconst (v := (1 : Int32)) hx hb dJ13_bitCount_95d88_2 (by decide) ?_
  refine lv_lushr hx hb dJ13_bitCount_95d88_3 rfl ?_
  refine lv_ldc2 (v := (6148914691236517205 : Int64)) hx hb hown (G.1.hts _ m_610) dJ13_bitCount_95d88_4 ?_
  refine lv_land hx hb dJ13_bitCount_95d88_7 ?_
  refine lv_lsub hx hb dJ13_bitCount_95d88_8 ?_
  refine lv_lstore_n (lv' := [(0, .long (x0 - (((x0.toUInt64 >>> (((1 : Int32)).toInt64.toUInt64 &&& Int64.toUInt64 63)).toInt64) &&& ((6148914691236517205 : Int64)))))]) hx hb dJ13_bitCount_95d88_9 rfl hl (by decide) rfl (fun ls hl => ?_)
  refine lv_lload_n hx hb dJ13_bitCount_95d88_10 rfl (lv_at hl 0 rfl) ?_
  refine lv_ldc2 (v := (3689348814741910323 : Int64)) hx hb hown (G.1.hts _ m_611) dJ13_bitCount_95d88_11 ?_
  refine lv_land hx hb dJ13_bitCount_95d88_14 ?_
  refine lv_lload_n hx hb dJ13_bitCount_95d88_15 rfl (lv_at hl 0 rfl) ?_
  refine lv_iconst (v := (2 : Int32)) hx hb dJ13_bitCount_95d88_16 (by decide) ?_
  refine lv_lushr hx hb dJ13_bitCount_95d88_17 rfl ?_
  refine lv_ldc2 (v := (3689348814741910323 : Int64)) hx hb hown (G.1.hts _ m_611) dJ13_bitCount_95d88_18 ?_
  refine lv_land hx hb dJ13_bitCount_95d88_21 ?_
  refine lv_ladd hx hb dJ13_bitCount_95d88_22 ?_
  refine lv_lstore_n (lv' := [(0, .long (((x0 - (((x0.toUInt64 >>> (((1 : Int32)).toInt64.toUInt64 &&& Int64.toUInt64 63)).toInt64) &&& ((6148914691236517205 : Int64)))) &&& ((3689348814741910323 : Int64))) + ((((x0 - (((x0.toUInt64 >>> (((1 : Int32)).toInt64.toUInt64 &&& Int64.toUInt64 63)).toInt64) &&& ((6148914691236517205 : Int64)))).toUInt64 >>> (((2 : Int32)).toInt64.toUInt64 &&& Int64.toUInt64 63)).toInt64) &&& ((3689348814741910323 : Int64)))))]) hx hb dJ13_bitCount_95d88_23 rfl hl (by decide) rfl (fun ls hl => ?_)
  refine lv_lload_n hx hb dJ13_bitCount_95d88_24 rfl (lv_at hl 0 rfl) ?_
  refine lv_lload_n hx hb dJ13_bitCount_95d88_25 rfl (lv_at hl 0 rfl) ?_
  refine lv_iconst (v := (4 : Int32)) hx hb dJ13_bitCount_95d88_26 (by decide) ?_
  refine lv_lushr hx hb dJ13_bitCount_95d88_27 rfl ?_
  refine lv_ladd hx hb dJ13_bitCount_95d88_28 ?_
  refine lv_ldc2 (v := (1085102592571150095 : Int64)) hx hb hown (G.1.hts _ m_612) dJ13_bitCount_95d88_29 ?_
  refine lv_land hx hb dJ13_bitCount_95d88_32 ?_
  refine lv_lstore_n (lv' := [(0, .long (((((x0 - (((x0.toUInt64 >>> (((1 : Int32)).toInt64.toUInt64 &&& Int64.toUInt64 63)).toInt64) &&& ((6148914691236517205 : Int64)))) &&& ((3689348814741910323 : Int64))) + ((((x0 - (((x0.toUInt64 >>> (((1 : Int32)).toInt64.toUInt64 &&& Int64.toUInt64 63)).toInt64) &&& ((6148914691236517205 : Int64)))).toUInt64 >>> (((2 : Int32)).toInt64.toUInt64 &&& Int64.toUInt64 63)).toInt64) &&& ((3689348814741910323 : Int64)))) + (((((x0 - (((x0.toUInt64 >>> (((1 : Int32)).toInt64.toUInt64 &&& Int64.toUInt64 63)).toInt64) &&& ((6148914691236517205 : Int64)))) &&& ((3689348814741910323 : Int64))) + ((((x0 - (((x0.toUInt64 >>> (((1 : Int32)).toInt64.toUInt64 &&& Int64.toUInt64 63)).toInt64) &&& ((6148914691236517205 : Int64)))).toUInt64 >>> (((2 : Int32)).toInt64.toUInt64 &&& Int64.toUInt64 63)).toInt64) &&& ((3689348814741910323 : Int64)))).toUInt64 >>> (((4 : Int32)).toInt64.toUInt64 &&& Int64.toUInt64 63)).toInt64)) &&& ((1085102592571150095 : Int64))))]) hx hb dJ13_bitCount_95d88_33 rfl hl (by decide) rfl (fun ls hl => ?_)
  refine lv_lload_n hx hb dJ13_bitCount_95d88_34 rfl (lv_at hl 0 rfl) ?_
  refine lv_lload_n hx hb dJ13_bitCount_95d88_35 rfl (lv_at hl 0 rfl) ?_
  refine lv_bipush (v := (8 : Int32)) hx hb dJ13_bitCount_95d88_36 (by decide) ?_
  refine lv_lushr hx hb dJ13_bitCount_95d88_38 rfl ?_
  refine lv_ladd hx hb dJ13_bitCount_95d88_39 ?_
  refine lv_lstore_n (lv' := [(0, .long ((((((x0 - (((x0.toUInt64 >>> (((1 : Int32)).toInt64.toUInt64 &&& Int64.toUInt64 63)).toInt64) &&& ((6148914691236517205 : Int64)))) &&& ((3689348814741910323 : Int64))) + ((((x0 - (((x0.toUInt64 >>> (((1 : Int32)).toInt64.toUInt64 &&& Int64.toUInt64 63)).toInt64) &&& ((6148914691236517205 : Int64)))).toUInt64 >>> (((2 : Int32)).toInt64.toUInt64 &&& Int64.toUInt64 63)).toInt64) &&& ((3689348814741910323 : Int64)))) + (((((x0 - (((x0.toUInt64 >>> (((1 : Int32)).toInt64.toUInt64 &&& Int64.toUInt64 63)).toInt64) &&& ((6148914691236517205 : Int64)))) &&& ((3689348814741910323 : Int64))) + ((((x0 - (((x0.toUInt64 >>> (((1 : Int32)).toInt64.toUInt64 &&& Int64.toUInt64 63)).toInt64) &&& ((6148914691236517205 : Int64)))).toUInt64 >>> (((2 : Int32)).toInt64.toUInt64 &&& Int64.toUInt64 63)).toInt64) &&& ((3689348814741910323 : Int64)))).toUInt64 >>> (((4 : Int32)).toInt64.toUInt64 &&& Int64.toUInt64 63)).toInt64)) &&& ((1085102592571150095 : Int64))) + (((((((x0 - (((x0.toUInt64 >>> (((1 : Int32)).toInt64.toUInt64 &&& Int64.toUInt64 63)).toInt64) &&& ((6148914691236517205 : Int64)))) &&& ((3689348814741910323 : Int64))) + ((((x0 - (((x0.toUInt64 >>> (((1 : Int32)).toInt64.toUInt64 &&& Int64.toUInt64 63)).toInt64) &&& ((6148914691236517205 : Int64)))).toUInt64 >>> (((2 : Int32)).toInt64.toUInt64 &&& Int64.toUInt64 63)).toInt64) &&& ((3689348814741910323 : Int64)))) + (((((x0 - (((x0.toUInt64 >>> (((1 : Int32)).toInt64.toUInt64 &&& Int64.toUInt64 63)).toInt64) &&& ((6148914691236517205 : Int64)))) &&& ((3689348814741910323 : Int64))) + ((((x0 - (((x0.toUInt64 >>> (((1 : Int32)).toInt64.toUInt64 &&& Int64.toUInt64 63)).toInt64) &&& ((6148914691236517205 : Int64)))).toUInt64 >>> (((2 : Int32)).toInt64.toUInt64 &&& Int64.toUInt64 63)).toInt64) &&& ((3689348814741910323 : Int64)))).toUInt64 >>> (((4 : Int32)).toInt64.toUInt64 &&& Int64.toUInt64 63)).toInt64)) &&& ((1085102592571150095 : Int64))).toUInt64 >>> (((8 : Int32)).toInt64.toUInt64 &&& Int64.toUInt64 63)).toInt64)))]) hx hb dJ13_bitCount_95d88_40 rfl hl (by decide) rfl (fun ls hl => ?_)
  refine lv_lload_n hx hb dJ13_bitCount_95d88_41 rfl (lv_at hl 0 rfl) ?_
  refine lv_lload_n hx hb dJ13_bitCount_95d88_42 rfl (lv_at hl 0 rfl) ?_
  refine lv_bipush (v := (16 : Int32)) hx hb dJ13_bitCount_95d88_43 (by decide) ?_
  refine lv_lushr hx hb dJ13_bitCount_95d88_45 rfl ?_
  refine lv_ladd hx hb dJ13_bitCount_95d88_46 ?_
  refine lv_lstore_n (lv' := [(0, .long (((((((x0 - (((x0.toUInt64 >>> (((1 : Int32)).toInt64.toUInt64 &&& Int64.toUInt64 63)).toInt64) &&& ((6148914691236517205 : Int64)))) &&& ((3689348814741910323 : Int64))) + ((((x0 - (((x0.toUInt64 >>> (((1 : Int32)).toInt64.toUInt64 &&& Int64.toUInt64 63)).toInt64) &&& ((6148914691236517205 : Int64)))).toUInt64 >>> (((2 : Int32)).toInt64.toUInt64 &&& Int64.toUInt64 63)).toInt64) &&& ((3689348814741910323 : Int64)))) + (((((x0 - (((x0.toUInt64 >>> (((1 : Int32)).toInt64.toUInt64 &&& Int64.toUInt64 63)).toInt64) &&& ((6148914691236517205 : Int64)))) &&& ((3689348814741910323 : Int64))) + ((((x0 - (((x0.toUInt64 >>> (((1 : Int32)).toInt64.toUInt64 &&& Int64.toUInt64 63)).toInt64) &&& ((6148914691236517205 : Int64)))).toUInt64 >>> (((2 : Int32)).toInt64.toUInt64 &&& Int64.toUInt64 63)).toInt64) &&& ((3689348814741910323 : Int64)))).toUInt64 >>> (((4 : Int32)).toInt64.toUInt64 &&& Int64.toUInt64 63)).toInt64)) &&& ((1085102592571150095 : Int64))) + (((((((x0 - (((x0.toUInt64 >>> (((1 : Int32)).toInt64.toUInt64 &&& Int64.toUInt64 63)).toInt64) &&& ((6148914691236517205 : Int64)))) &&& ((3689348814741910323 : Int64))) + ((((x0 - (((x0.toUInt64 >>> (((1 : Int32)).toInt64.toUInt64 &&& Int64.toUInt64 63)).toInt64) &&& ((6148914691236517205 : Int64)))).toUInt64 >>> (((2 : Int32)).toInt64.toUInt64 &&& Int64.toUInt64 63)).toInt64) &&& ((3689348814741910323 : Int64)))) + (((((x0 - (((x0.toUInt64 >>> (((1 : Int32)).toInt64.toUInt64 &&& Int64.toUInt64 63)).toInt64) &&& ((6148914691236517205 : Int64)))) &&& ((3689348814741910323 : Int64))) + ((((x0 - (((x0.toUInt64 >>> (((1 : Int32)).toInt64.toUInt64 &&& Int64.toUInt64 63)).toInt64) &&& ((6148914691236517205 : Int64)))).toUInt64 >>> (((2 : Int32)).toInt64.toUInt64 &&& Int64.toUInt64 63)).toInt64) &&& ((3689348814741910323 : Int64)))).toUInt64 >>> (((4 : Int32)).toInt64.toUInt64 &&& Int64.toUInt64 63)).toInt64)) &&& ((1085102592571150095 : Int64))).toUInt64 >>> (((8 : Int32)).toInt64.toUInt64 &&& Int64.toUInt64 63)).toInt64)) + ((((((((x0 - (((x0.toUInt64 >>> (((1 : Int32)).toInt64.toUInt64 &&& Int64.toUInt64 63)).toInt64) &&& ((6148914691236517205 : Int64)))) &&& ((3689348814741910323 : Int64))) + ((((x0 - (((x0.toUInt64 >>> (((1 : Int32)).toInt64.toUInt64 &&& Int64.toUInt64 63)).toInt64) &&& ((6148914691236517205 : Int64)))).toUInt64 >>> (((2 : Int32)).toInt64.toUInt64 &&& Int64.toUInt64 63)).toInt64) &&& ((3689348814741910323 : Int64)))) + (((((x0 - (((x0.toUInt64 >>> (((1 : Int32)).toInt64.toUInt64 &&& Int64.toUInt64 63)).toInt64) &&& ((6148914691236517205 : Int64)))) &&& ((3689348814741910323 : Int64))) + ((((x0 - (((x0.toUInt64 >>> (((1 : Int32)).toInt64.toUInt64 &&& Int64.toUInt64 63)).toInt64) &&& ((6148914691236517205 : Int64)))).toUInt64 >>> (((2 : Int32)).toInt64.toUInt64 &&& Int64.toUInt64 63)).toInt64) &&& ((3689348814741910323 : Int64)))).toUInt64 >>> (((4 : Int32)).toInt64.toUInt64 &&& Int64.toUInt64 63)).toInt64)) &&& ((1085102592571150095 : Int64))) + (((((((x0 - (((x0.toUInt64 >>> (((1 : Int32)).toInt64.toUInt64 &&& Int64.toUInt64 63)).toInt64) &&& ((6148914691236517205 : Int64)))) &&& ((3689348814741910323 : Int64))) + ((((x0 - (((x0.toUInt64 >>> (((1 : Int32)).toInt64.toUInt64 &&& Int64.toUInt64 63)).toInt64) &&& ((6148914691236517205 : Int64)))).toUInt64 >>> (((2 : Int32)).toInt64.toUInt64 &&& Int64.toUInt64 63)).toInt64) &&& ((3689348814741910323 : Int64)))) + (((((x0 - (((x0.toUInt64 >>> (((1 : Int32)).toInt64.toUInt64 &&& Int64.toUInt64 63)).toInt64) &&& ((6148914691236517205 : Int64)))) &&& ((3689348814741910323 : Int64))) + ((((x0 - (((x0.toUInt64 >>> (((1 : Int32)).toInt64.toUInt64 &&& Int64.toUInt64 63)).toInt64) &&& ((6148914691236517205 : Int64)))).toUInt64 >>> (((2 : Int32)).toInt64.toUInt64 &&& Int64.toUInt64 63)).toInt64) &&& ((3689348814741910323 : Int64)))).toUInt64 >>> (((4 : Int32)).toInt64.toUInt64 &&& Int64.toUInt64 63)).toInt64)) &&& ((1085102592571150095 : Int64))).toUInt64 >>> (((8 : Int32)).toInt64.toUInt64 &&& Int64.toUInt64 63)).toInt64)).toUInt64 >>> (((16 : Int32)).toInt64.toUInt64 &&& Int64.toUInt64 63)).toInt64)))]) hx hb dJ13_bitCount_95d88_47 rfl hl (by decide) rfl (fun ls hl => ?_)
  refine lv_lload_n hx hb dJ13_bitCount_95d88_48 rfl (lv_at hl 0 rfl) ?_
  refine lv_lload_n hx hb dJ13_bitCount_95d88_49 rfl (lv_at hl 0 rfl) ?_
  refine lv_bipush (v := (32 : Int32)) hx hb dJ13_bitCount_95d88_50 (by decide) ?_
  refine lv_lushr hx hb dJ13_bitCount_95d88_52 rfl ?_
  refine lv_ladd hx hb dJ13_bitCount_95d88_53 ?_
  refine lv_lstore_n (lv' := [(0, .long ((((((((x0 - (((x0.toUInt64 >>> (((1 : Int32)).toInt64.toUInt64 &&& Int64.toUInt64 63)).toInt64) &&& ((6148914691236517205 : Int64)))) &&& ((3689348814741910323 : Int64))) + ((((x0 - (((x0.toUInt64 >>> (((1 : Int32)).toInt64.toUInt64 &&& Int64.toUInt64 63)).toInt64) &&& ((6148914691236517205 : Int64)))).toUInt64 >>> (((2 : Int32)).toInt64.toUInt64 &&& Int64.toUInt64 63)).toInt64) &&& ((3689348814741910323 : Int64)))) + (((((x0 - (((x0.toUInt64 >>> (((1 : Int32)).toInt64.toUInt64 &&& Int64.toUInt64 63)).toInt64) &&& ((6148914691236517205 : Int64)))) &&& ((3689348814741910323 : Int64))) + ((((x0 - (((x0.toUInt64 >>> (((1 : Int32)).toInt64.toUInt64 &&& Int64.toUInt64 63)).toInt64) &&& ((6148914691236517205 : Int64)))).toUInt64 >>> (((2 : Int32)).toInt64.toUInt64 &&& Int64.toUInt64 63)).toInt64) &&& ((3689348814741910323 : Int64)))).toUInt64 >>> (((4 : Int32)).toInt64.toUInt64 &&& Int64.toUInt64 63)).toInt64)) &&& ((1085102592571150095 : Int64))) + (((((((x0 - (((x0.toUInt64 >>> (((1 : Int32)).toInt64.toUInt64 &&& Int64.toUInt64 63)).toInt64) &&& ((6148914691236517205 : Int64)))) &&& ((3689348814741910323 : Int64))) + ((((x0 - (((x0.toUInt64 >>> (((1 : Int32)).toInt64.toUInt64 &&& Int64.toUInt64 63)).toInt64) &&& ((6148914691236517205 : Int64)))).toUInt64 >>> (((2 : Int32)).toInt64.toUInt64 &&& Int64.toUInt64 63)).toInt64) &&& ((3689348814741910323 : Int64)))) + (((((x0 - (((x0.toUInt64 >>> (((1 : Int32)).toInt64.toUInt64 &&& Int64.toUInt64 63)).toInt64) &&& ((6148914691236517205 : Int64)))) &&& ((3689348814741910323 : Int64))) + ((((x0 - (((x0.toUInt64 >>> (((1 : Int32)).toInt64.toUInt64 &&& Int64.toUInt64 63)).toInt64) &&& ((6148914691236517205 : Int64)))).toUInt64 >>> (((2 : Int32)).toInt64.toUInt64 &&& Int64.toUInt64 63)).toInt64) &&& ((3689348814741910323 : Int64)))).toUInt64 >>> (((4 : Int32)).toInt64.toUInt64 &&& Int64.toUInt64 63)).toInt64)) &&& ((1085102592571150095 : Int64))).toUInt64 >>> (((8 : Int32)).toInt64.toUInt64 &&& Int64.toUInt64 63)).toInt64)) + ((((((((x0 - (((x0.toUInt64 >>> (((1 : Int32)).toInt64.toUInt64 &&& Int64.toUInt64 63)).toInt64) &&& ((6148914691236517205 : Int64)))) &&& ((3689348814741910323 : Int64))) + ((((x0 - (((x0.toUInt64 >>> (((1 : Int32)).toInt64.toUInt64 &&& Int64.toUInt64 63)).toInt64) &&& ((6148914691236517205 : Int64)))).toUInt64 >>> (((2 : Int32)).toInt64.toUInt64 &&& Int64.toUInt64 63)).toInt64) &&& ((3689348814741910323 : Int64)))) + (((((x0 - (((x0.toUInt64 >>> (((1 : Int32)).toInt64.toUInt64 &&& Int64.toUInt64 63)).toInt64) &&& ((6148914691236517205 : Int64)))) &&& ((3689348814741910323 : Int64))) + ((((x0 - (((x0.toUInt64 >>> (((1 : Int32)).toInt64.toUInt64 &&& Int64.toUInt64 63)).toInt64) &&& ((6148914691236517205 : Int64)))).toUInt64 >>> (((2 : Int32)).toInt64.toUInt64 &&& Int64.toUInt64 63)).toInt64) &&& ((3689348814741910323 : Int64)))).toUInt64 >>> (((4 : Int32)).toInt64.toUInt64 &&& Int64.toUInt64 63)).toInt64)) &&& ((1085102592571150095 : Int64))) + (((((((x0 - (((x0.toUInt64 >>> (((1 : Int32)).toInt64.toUInt64 &&& Int64.toUInt64 63)).toInt64) &&& ((6148914691236517205 : Int64)))) &&& ((3689348814741910323 : Int64))) + ((((x0 - (((x0.toUInt64 >>> (((1 : Int32)).toInt64.toUInt64 &&& Int64.toUInt64 63)).toInt64) &&& ((6148914691236517205 : Int64)))).toUInt64 >>> (((2 : Int32)).toInt64.toUInt64 &&& Int64.toUInt64 63)).toInt64) &&& ((3689348814741910323 : Int64)))) + (((((x0 - (((x0.toUInt64 >>> (((1 : Int32)).toInt64.toUInt64 &&& Int64.toUInt64 63)).toInt64) &&& ((6148914691236517205 : Int64)))) &&& ((3689348814741910323 : Int64))) + ((((x0 - (((x0.toUInt64 >>> (((1 : Int32)).toInt64.toUInt64 &&& Int64.toUInt64 63)).toInt64) &&& ((6148914691236517205 : Int64)))).toUInt64 >>> (((2 : Int32)).toInt64.toUInt64 &&& Int64.toUInt64 63)).toInt64) &&& ((3689348814741910323 : Int64)))).toUInt64 >>> (((4 : Int32)).toInt64.toUInt64 &&& Int64.toUInt64 63)).toInt64)) &&& ((1085102592571150095 : Int64))).toUInt64 >>> (((8 : Int32)).toInt64.toUInt64 &&& Int64.toUInt64 63)).toInt64)).toUInt64 >>> (((16 : Int32)).toInt64.toUInt64 &&& Int64.toUInt64 63)).toInt64)) + (((((((((x0 - (((x0.toUInt64 >>> (((1 : Int32)).toInt64.toUInt64 &&& Int64.toUInt64 63)).toInt64) &&& ((6148914691236517205 : Int64)))) &&& ((3689348814741910323 : Int64))) + ((((x0 - (((x0.toUInt64 >>> (((1 : Int32)).toInt64.toUInt64 &&& Int64.toUInt64 63)).toInt64) &&& ((6148914691236517205 : Int64)))).toUInt64 >>> (((2 : Int32)).toInt64.toUInt64 &&& Int64.toUInt64 63)).toInt64) &&& ((3689348814741910323 : Int64)))) + (((((x0 - (((x0.toUInt64 >>> (((1 : Int32)).toInt64.toUInt64 &&& Int64.toUInt64 63)).toInt64) &&& ((6148914691236517205 : Int64)))) &&& ((3689348814741910323 : Int64))) + ((((x0 - (((x0.toUInt64 >>> (((1 : Int32)).toInt64.toUInt64 &&& Int64.toUInt64 63)).toInt64) &&& ((6148914691236517205 : Int64)))).toUInt64 >>> (((2 : Int32)).toInt64.toUInt64 &&& Int64.toUInt64 63)).toInt64) &&& ((3689348814741910323 : Int64)))).toUInt64 >>> (((4 : Int32)).toInt64.toUInt64 &&& Int64.toUInt64 63)).toInt64)) &&& ((1085102592571150095 : Int64))) + (((((((x0 - (((x0.toUInt64 >>> (((1 : Int32)).toInt64.toUInt64 &&& Int64.toUInt64 63)).toInt64) &&& ((6148914691236517205 : Int64)))) &&& ((3689348814741910323 : Int64))) + ((((x0 - (((x0.toUInt64 >>> (((1 : Int32)).toInt64.toUInt64 &&& Int64.toUInt64 63)).toInt64) &&& ((6148914691236517205 : Int64)))).toUInt64 >>> (((2 : Int32)).toInt64.toUInt64 &&& Int64.toUInt64 63)).toInt64) &&& ((3689348814741910323 : Int64)))) + (((((x0 - (((x0.toUInt64 >>> (((1 : Int32)).toInt64.toUInt64 &&& Int64.toUInt64 63)).toInt64) &&& ((6148914691236517205 : Int64)))) &&& ((3689348814741910323 : Int64))) + ((((x0 - (((x0.toUInt64 >>> (((1 : Int32)).toInt64.toUInt64 &&& Int64.toUInt64 63)).toInt64) &&& ((6148914691236517205 : Int64)))).toUInt64 >>> (((2 : Int32)).toInt64.toUInt64 &&& Int64.toUInt64 63)).toInt64) &&& ((3689348814741910323 : Int64)))).toUInt64 >>> (((4 : Int32)).toInt64.toUInt64 &&& Int64.toUInt64 63)).toInt64)) &&& ((1085102592571150095 : Int64))).toUInt64 >>> (((8 : Int32)).toInt64.toUInt64 &&& Int64.toUInt64 63)).toInt64)) + ((((((((x0 - (((x0.toUInt64 >>> (((1 : Int32)).toInt64.toUInt64 &&& Int64.toUInt64 63)).toInt64) &&& ((6148914691236517205 : Int64)))) &&& ((3689348814741910323 : Int64))) + ((((x0 - (((x0.toUInt64 >>> (((1 : Int32)).toInt64.toUInt64 &&& Int64.toUInt64 63)).toInt64) &&& ((6148914691236517205 : Int64)))).toUInt64 >>> (((2 : Int32)).toInt64.toUInt64 &&& Int64.toUInt64 63)).toInt64) &&& ((3689348814741910323 : Int64)))) + (((((x0 - (((x0.toUInt64 >>> (((1 : Int32)).toInt64.toUInt64 &&& Int64.toUInt64 63)).toInt64) &&& ((6148914691236517205 : Int64)))) &&& ((3689348814741910323 : Int64))) + ((((x0 - (((x0.toUInt64 >>> (((1 : Int32)).toInt64.toUInt64 &&& Int64.toUInt64 63)).toInt64) &&& ((6148914691236517205 : Int64)))).toUInt64 >>> (((2 : Int32)).toInt64.toUInt64 &&& Int64.toUInt64 63)).toInt64) &&& ((3689348814741910323 : Int64)))).toUInt64 >>> (((4 : Int32)).toInt64.toUInt64 &&& Int64.toUInt64 63)).toInt64)) &&& ((1085102592571150095 : Int64))) + (((((((x0 - (((x0.toUInt64 >>> (((1 : Int32)).toInt64.toUInt64 &&& Int64.toUInt64 63)).toInt64) &&& ((6148914691236517205 : Int64)))) &&& ((3689348814741910323 : Int64))) + ((((x0 - (((x0.toUInt64 >>> (((1 : Int32)).toInt64.toUInt64 &&& Int64.toUInt64 63)).toInt64) &&& ((6148914691236517205 : Int64)))).toUInt64 >>> (((2 : Int32)).toInt64.toUInt64 &&& Int64.toUInt64 63)).toInt64) &&& ((3689348814741910323 : Int64)))) + (((((x0 - (((x0.toUInt64 >>> (((1 : Int32)).toInt64.toUInt64 &&& Int64.toUInt64 63)).toInt64) &&& ((6148914691236517205 : Int64)))) &&& ((3689348814741910323 : Int64))) + ((((x0 - (((x0.toUInt64 >>> (((1 : Int32)).toInt64.toUInt64 &&& Int64.toUInt64 63)).toInt64) &&& ((6148914691236517205 : Int64)))).toUInt64 >>> (((2 : Int32)).toInt64.toUInt64 &&& Int64.toUInt64 63)).toInt64) &&& ((3689348814741910323 : Int64)))).toUInt64 >>> (((4 : Int32)).toInt64.toUInt64 &&& Int64.toUInt64 63)).toInt64)) &&& ((1085102592571150095 : Int64))).toUInt64 >>> (((8 : Int32)).toInt64.toUInt64 &&& Int64.toUInt64 63)).toInt64)).toUInt64 >>> (((16 : Int32)).toInt64.toUInt64 &&& Int64.toUInt64 63)).toInt64)).toUInt64 >>> (((32 : Int32)).toInt64.toUInt64 &&& Int64.toUInt64 63)).toInt64)))]) hx hb dJ13_bitCount_95d88_54 rfl hl (by decide) rfl (fun ls hl => ?_)
  refine lv_lload_n hx hb dJ13_bitCount_95d88_55 rfl (lv_at hl 0 rfl) ?_
  refine lv_l2i hx hb dJ13_bitCount_95d88_56 rfl ?_
  refine lv_bipush (v := (127 : Int32)) hx hb dJ13_bitCount_95d88_57 (by decide) ?_
  refine lv_iand hx hb dJ13_bitCount_95d88_59 ?_
  exact aw_reti X G hf dJ13_bitCount_95d88_60
def rm_X10_has : Room := { frames := 0, cells := 0, slots := 0, locals := 0 }
def f_X10_has_J15 (σ : Sg) (t0 : Int32) (d : Dt) : Option (Int32 × Dt) :=
  aw_chk (t0 &&& 1 = t0) (some (t0, d))
def f_X10_has (σ : Sg) (x0 : Int64) (x2 : Int32) (d : Dt) : Option (Int32 × Dt) :=
  if (lg_cmp ((x0 >>> (x2.toInt64 &&& 63)) &&& ((1 : Int64))) ((0 : Int64))) = 0 then f_X10_has_J15 σ ((0 : Int32)) d else f_X10_has_J15 σ ((1 : Int32)) d
section W_X10_has
variable {p : Program} {l : Launch} {e : Env} {s : State} {m : MethodId} {args : Array Value} {below : List Frame} {meth : Method} {c : Code}
variable {D : va_G} {cA : Nat → ClassId} {base : Nat} {ad : Nat → Nat} {σ : Sg}
set_option maxHeartbeats 4000000 in
set_option maxRecDepth 100000 in
theorem w_X10_has_J15 {z : Int32 × Dt} (X : aw_X p c cX10_has 3 s RX10 m meth (some .boolean)) {t0 : Int32} {d : Dt} (hf : f_X10_has_J15 σ t0 d = some z)  {H : Heap} {locs : List Loc} {ls : Array Slot} (hl : lv_has ls 3 []) (G : aw_G D cA base ad σ d s H locs) : W p l e rm_X10_has s m args below meth c H locs 0 0 (aw_Ei D cA base ad σ below args s z) (F0 m 15 ls [.int t0]) := by
  have hx := X.1; have hb := X.2.1; have hml := X.2.2.1; have hown := X.2.2.2.1
  unfold f_X10_has_J15 at hf
  obtain ⟨hc_1, hf⟩ := aw_chk_some hf
  exact aw_retz X G hc_1 hf dX10_has_15
end W_X10_has
set_option maxHeartbeats 4000000 in
set_option maxRecDepth 100000 in
theorem c_X10_has (l : Launch) {σ : Sg} {x0 : Int64} {x2 : Int32} {d : Dt} {z : Int32 × Dt} (hf : f_X10_has σ x0 x2 d = some z) : aw_Mi l yX10_has (Cond.code yX10_has cX10_has 3 (some .boolean)) rm_X10_has (fun ad => [.long x0, .int x2]) σ d z := by
  intro D cA base ad
  refine aw_ofW (own := RX10) (cc := cX10_has) (nL := 3) (ret := some .boolean) (by decide) rfl rfl ?_
  intro p e s m below meth c X hnm G
  have hx := X.1; have hb := X.2.1; have hml := X.2.2.1; have hown := X.2.2.2.1
  refine aw_ls (lv := [(0, .long x0), (2, .int x2)]) (Nat.le_of_ble_eq_true rfl) rfl (fun ls hl => ?_)
  unfold f_X10_has at hf
  refine lv_lload_n hx hb dX10_has_0 rfl (lv_at hl 0 rfl) ?_
  refine lv_iload_n hx hb dX10_has_1 rfl (lv_at hl 1 rfl) ?_
  refine lv_lshr hx hb dX10_has_2 rfl ?_
  refine lv_lconst (v := (1 : Int64)) hx hb dX10_has_3 (by decide) ?_
  refine lv_land hx hb dX10_has_4 ?_
  refine lv_lconst (v := (0 : Int64)) hx hb dX10_has_5 (by decide) ?_
  refine W.lcmp hx hb dX10_has_6 ?_
  refine lv_if_eq (tgt := 14) hx hb dX10_has_7 (by decide) (fun hc => ?_) (fun hc => ?_)
  · have hf := aw_ite_t hc hf
    refine lv_iconst (v := (0 : Int32)) hx hb dX10_has_14 (by decide) ?_
    exact w_X10_has_J15 X hf  (lv_sub hl [] rfl) G
  · have hf := aw_ite_f hc hf
    refine lv_iconst (v := (1 : Int32)) hx hb dX10_has_10 (by decide) ?_
    refine lv_goto (tgt := 15) hx hb dX10_has_11 (by decide) ?_
    exact w_X10_has_J15 X hf  (lv_sub hl [] rfl) G
def rm_X4_weightRead : Room := { frames := 0, cells := 0, slots := 0, locals := 0 }
def f_X4_weightRead_J42 (σ : Sg) (kb5 : Int32 → Int32 → Dt → Option (Int32 × Dt)) (x0 : Nat) (x1 : Int64) (x3 : Int32) (x4 : Int32) (d : Dt) : Option (Int32 × Dt) :=
  kb5 x3 (x4 + 1) d
def f_X4_weightRead_B5 (σ : Sg) (kb5 : Int32 → Int32 → Dt → Option (Int32 × Dt)) (k5 : Int32 → Dt → Option (Int32 × Dt)) (x0 : Nat) (x1 : Int64) (x3 : Int32) (x4 : Int32) (d : Dt) : Option (Int32 × Dt) :=
  aw_chk (aw_O σ 4 8 x0) (if (d.1 x0 2) ≤ x4 then k5 x3 d else (σ.2.2 x0 0).bind (fun q_2 => aw_chk (aw_I σ 21 q_2 x4) (if (lg_cmp ((d.2 q_2 x4.toNatClampNeg) &&& (x1 ^^^ ((-1 : Int64)))) ((0 : Int64))) = 0 then (σ.2.2 x0 1).bind (fun q_5 => aw_chk (aw_I σ 20 q_5 x4) (f_X4_weightRead_J42 σ kb5 x0 x1 (x3 + (d.1 q_5 x4.toNatClampNeg)) x4 d)) else f_X4_weightRead_J42 σ kb5 x0 x1 x3 x4 d)))
def f_X4_weightRead_L5 (σ : Sg) (n : Nat) (k5 : Int32 → Dt → Option (Int32 × Dt)) (x0 : Nat) (x1 : Int64) : Int32 → Int32 → Dt → Option (Int32 × Dt) := match n with
  | 0 => fun _ _ _ => none
  | n + 1 => fun x3 x4 d => f_X4_weightRead_B5 σ (f_X4_weightRead_L5 σ n k5 x0 x1) k5 x0 x1 x3 x4 d
def f_X4_weightRead (σ : Sg) (x0 : Nat) (x1 : Int64) (d : Dt) : Option (Int32 × Dt) :=
  f_X4_weightRead_L5 σ aw_FU (fun x3_8 d_9 => some (x3_8, d_9)) x0 x1 ((0 : Int32)) ((0 : Int32)) d
section W_X4_weightRead
variable {p : Program} {l : Launch} {e : Env} {s : State} {m : MethodId} {args : Array Value} {below : List Frame} {meth : Method} {c : Code}
variable {D : va_G} {cA : Nat → ClassId} {base : Nat} {ad : Nat → Nat} {σ : Sg}
set_option maxHeartbeats 4000000 in
set_option maxRecDepth 100000 in
theorem w_X4_weightRead_J42 {z : Int32 × Dt} (X : aw_X p c cX4_weightRead 5 s RX4 m meth (some .int)) {kb5 : Int32 → Int32 → Dt → Option (Int32 × Dt)} {x0 : Nat} {x1 : Int64} {x3 : Int32} {x4 : Int32} {d : Dt} (hf : f_X4_weightRead_J42 σ kb5 x0 x1 x3 x4 d = some z) (hkb5 : ∀ (y3 : Int32) (y4 : Int32) (d : Dt), kb5 y3 y4 d = some z → ∀ (H : Heap) (locs : List Loc) (ls : Array Slot), lv_has ls 5 [(0, .ref (ad x0)), (1, .long x1), (3, .int y3), (4, .int y4)] → aw_G D cA base ad σ d s H locs → W p l e rm_X4_weightRead s m args below meth c H locs 0 0 (aw_Ei D cA base ad σ below args s z) (F0 m 5 ls [])) {H : Heap} {locs : List Loc} {ls : Array Slot} (hl : lv_has ls 5 [(0, .ref (ad x0)), (1, .long x1), (3, .int x3), (4, .int x4)]) (G : aw_G D cA base ad σ d s H locs) : W p l e rm_X4_weightRead s m args below meth c H locs 0 0 (aw_Ei D cA base ad σ below args s z) (F0 m 42 ls []) := by
  have hx := X.1; have hb := X.2.1; have hml := X.2.2.1; have hown := X.2.2.2.1
  unfold f_X4_weightRead_J42 at hf
  refine lv_iinc (v := x4 + 1) (lv' := [(4, .int (x4 + 1)), (0, .ref (ad x0)), (1, .long x1), (3, .int x3)]) hx hb dX4_weightRead_42 hl (k := 3) rfl rfl (by decide) rfl (fun ls hl => ?_)
  refine lv_goto (tgt := 5) hx hb dX4_weightRead_45 (by decide) ?_
  exact hkb5 _ _ _ hf _ _ _ (lv_sub hl [1, 2, 3, 0] rfl) G
set_option maxHeartbeats 4000000 in
set_option maxRecDepth 100000 in
theorem w_X4_weightRead_B5 {z : Int32 × Dt} (X : aw_X p c cX4_weightRead 5 s RX4 m meth (some .int)) {kb5 : Int32 → Int32 → Dt → Option (Int32 × Dt)} {k5 : Int32 → Dt → Option (Int32 × Dt)} {x0 : Nat} {x1 : Int64} {x3 : Int32} {x4 : Int32} {d : Dt} (hf : f_X4_weightRead_B5 σ kb5 k5 x0 x1 x3 x4 d = some z) (hkb5 : ∀ (y3 : Int32) (y4 : Int32) (d : Dt), kb5 y3 y4 d = some z → ∀ (H : Heap) (locs : List Loc) (ls : Array Slot), lv_has ls 5 [(0, .ref (ad x0)), (1, .long x1), (3, .int y3), (4, .int y4)] → aw_G D cA base ad σ d s H locs → W p l e rm_X4_weightRead s m args below meth c H locs 0 0 (aw_Ei D cA base ad σ below args s z) (F0 m 5 ls [])) (hk5 : ∀ (y3 : Int32) (d : Dt), k5 y3 d = some z → ∀ (H : Heap) (locs : List Loc) (ls : Array Slot), lv_has ls 5 [(3, .int y3)] → aw_G D cA base ad σ d s H locs → W p l e rm_X4_weightRead s m args below meth c H locs 0 0 (aw_Ei D cA base ad σ below args s z) (F0 m 48 ls [])) {H : Heap} {locs : List Loc} {ls : Array Slot} (hl : lv_has ls 5 [(0, .ref (ad x0)), (1, .long x1), (3, .int x3), (4, .int x4)]) (G : aw_G D cA base ad σ d s H locs) : W p l e rm_X4_weightRead s m args below meth c H locs 0 0 (aw_Ei D cA base ad σ below args s z) (F0 m 5 ls []) := by
  have hx := X.1; have hb := X.2.1; have hml := X.2.2.1; have hown := X.2.2.2.1
  unfold f_X4_weightRead_B5 at hf
  refine lv_iload hx hb dX4_weightRead_5 (lv_at hl 3 rfl) ?_
  refine lv_aload_n hx hb dX4_weightRead_7 rfl (lv_at hl 0 rfl) ?_
  obtain ⟨hc_1, hf⟩ := aw_chk_some hf
  refine gf_X4_19 hx hb G hown hc_1 dX4_weightRead_8 ?_
  refine lv_icmp_ge (tgt := 48) hx hb dX4_weightRead_11 (by decide) (fun hc => ?_) (fun hc => ?_)
  · have hf := aw_ite_t hc hf
    exact hk5 _ _ hf _ _ _ (lv_sub hl [2] rfl) G
  · have hf := aw_ite_f hc hf
    refine lv_aload_n hx hb dX4_weightRead_14 rfl (lv_at hl 0 rfl) ?_
    obtain ⟨q_2, hq_3, hf⟩ := aw_bind_some hf
    refine gf_X4_9 hx hb G hown hc_1 hq_3 dX4_weightRead_15 ?_
    refine lv_iload hx hb dX4_weightRead_18 (lv_at hl 3 rfl) ?_
    obtain ⟨hc_4, hf⟩ := aw_chk_some hf
    refine aw_lal hx hb G hc_4 dX4_weightRead_20 ?_
    refine lv_lload_n hx hb dX4_weightRead_21 rfl (lv_at hl 1 rfl) ?_
    refine lv_ldc2 (v := (-1 : Int64)) hx hb hown (G.1.hts _ m_629) dX4_weightRead_22 ?_
    refine lv_lxor hx hb dX4_weightRead_25 ?_
    refine lv_land hx hb dX4_weightRead_26 ?_
    refine lv_lconst (v := (0 : Int64)) hx hb dX4_weightRead_27 (by decide) ?_
    refine W.lcmp hx hb dX4_weightRead_28 ?_
    refine lv_if_ne (tgt := 42) hx hb dX4_weightRead_29 (by decide) (fun hc => ?_) (fun hc => ?_)
    · have hf := aw_ite_f hc hf
      exact w_X4_weightRead_J42 X hf hkb5 (lv_sub hl [0, 1, 2, 3] rfl) G
    · have hf := aw_ite_t hc hf
      refine lv_iload_n hx hb dX4_weightRead_32 rfl (lv_at hl 2 rfl) ?_
      refine lv_aload_n hx hb dX4_weightRead_33 rfl (lv_at hl 0 rfl) ?_
      obtain ⟨q_5, hq_6, hf⟩ := aw_bind_some hf
      refine gf_X4_15 hx hb G hown hc_1 hq_6 dX4_weightRead_34 ?_
      refine lv_iload hx hb dX4_weightRead_37 (lv_at hl 3 rfl) ?_
      obtain ⟨hc_7, hf⟩ := aw_chk_some hf
      refine aw_ial hx hb G hc_7 dX4_weightRead_39 ?_
      refine lv_iadd hx hb dX4_weightRead_40 ?_
      refine lv_istore_n (lv' := [(3, .int (x3 + (d.1 q_5 x4.toNatClampNeg))), (0, .ref (ad x0)), (1, .long x1), (4, .int x4)]) hx hb dX4_weightRead_41 rfl hl (by decide) rfl (fun ls hl => ?_)
      exact w_X4_weightRead_J42 X hf hkb5 (lv_sub hl [1, 2, 0, 3] rfl) G
theorem w_X4_weightRead_L5 {z : Int32 × Dt} (X : aw_X p c cX4_weightRead 5 s RX4 m meth (some .int)) {k5 : Int32 → Dt → Option (Int32 × Dt)} {x0 : Nat} {x1 : Int64} (n : Nat) {x3 : Int32} {x4 : Int32} {d : Dt} (hf : f_X4_weightRead_L5 σ n k5 x0 x1 x3 x4 d = some z) (hk5 : ∀ (y3 : Int32) (d : Dt), k5 y3 d = some z → ∀ (H : Heap) (locs : List Loc) (ls : Array Slot), lv_has ls 5 [(3, .int y3)] → aw_G D cA base ad σ d s H locs → W p l e rm_X4_weightRead s m args below meth c H locs 0 0 (aw_Ei D cA base ad σ below args s z) (F0 m 48 ls [])) {H : Heap} {locs : List Loc} {ls : Array Slot} (hl : lv_has ls 5 [(0, .ref (ad x0)), (1, .long x1), (3, .int x3), (4, .int x4)]) (G : aw_G D cA base ad σ d s H locs) : W p l e rm_X4_weightRead s m args below meth c H locs 0 0 (aw_Ei D cA base ad σ below args s z) (F0 m 5 ls []) := by
  induction n generalizing x3 x4 d H locs ls with
  | zero => exact absurd (show (none : Option (Int32 × Dt)) = some z from hf) (by simp)
  | succ n ih => exact w_X4_weightRead_B5 X (kb5 := f_X4_weightRead_L5 σ n k5 x0 x1) hf  (fun x3 x4 d hf H locs ls hl G => ih hf hl G) hk5 hl G
end W_X4_weightRead
set_option maxHeartbeats 4000000 in
set_option maxRecDepth 100000 in
theorem c_X4_weightRead (l : Launch) {σ : Sg} {x0 : Nat} {x1 : Int64} {d : Dt} {z : Int32 × Dt} (hf : f_X4_weightRead σ x0 x1 d = some z) : aw_Mi l yX4_weightRead (Cond.code yX4_weightRead cX4_weightRead 5 (some .int)) rm_X4_weightRead (fun ad => [.ref (ad x0), .long x1]) σ d z := by
  intro D cA base ad
  refine aw_ofW (own := RX4) (cc := cX4_weightRead) (nL := 5) (ret := some .int) (by decide) rfl rfl ?_
  intro p e s m below meth c X hnm G
  have hx := X.1; have hb := X.2.1; have hml := X.2.2.1; have hown := X.2.2.2.1
  refine aw_ls (lv := [(0, .ref (ad x0)), (1, .long x1)]) (Nat.le_of_ble_eq_true rfl) rfl (fun ls hl => ?_)
  unfold f_X4_weightRead at hf
  refine lv_iconst (v := (0 : Int32)) hx hb dX4_weightRead_0 (by decide) ?_
  refine lv_istore_n (lv' := [(3, .int ((0 : Int32))), (0, .ref (ad x0)), (1, .long x1)]) hx hb dX4_weightRead_1 rfl hl (by decide) rfl (fun ls hl => ?_)
  refine lv_iconst (v := (0 : Int32)) hx hb dX4_weightRead_2 (by decide) ?_
  refine lv_istore (lv' := [(4, .int ((0 : Int32))), (3, .int ((0 : Int32))), (0, .ref (ad x0)), (1, .long x1)]) hx hb dX4_weightRead_3 hl (by decide) rfl (fun ls hl => ?_)
  refine w_X4_weightRead_L5 X aw_FU hf  (fun x3_8 d_9 hf H locs ls hl G => ?_) (lv_sub hl [2, 3, 1, 0] rfl) G
  refine lv_iload_n hx hb dX4_weightRead_48 rfl (lv_at hl 0 rfl) ?_
  exact aw_reti X G hf dX4_weightRead_49
def rm_X4_weightUnreadWith : Room := { frames := 1, cells := 0, slots := 0, locals := 22 }
def f_X4_weightUnreadWith_J59 (σ : Sg) (kb6 : Int32 → Int32 → Dt → Option (Int32 × Dt)) (x0 : Nat) (x1 : Int64) (x3 : Int32) (x4 : Int32) (x5 : Int32) (d : Dt) : Option (Int32 × Dt) :=
  kb6 x4 (x5 + 1) d
def f_X4_weightUnreadWith_B6 (σ : Sg) (kb6 : Int32 → Int32 → Dt → Option (Int32 × Dt)) (k6 : Int32 → Dt → Option (Int32 × Dt)) (x0 : Nat) (x1 : Int64) (x3 : Int32) (x4 : Int32) (x5 : Int32) (d : Dt) : Option (Int32 × Dt) :=
  aw_chk (aw_O σ 4 8 x0) (if (d.1 x0 2) ≤ x5 then k6 x4 d else (σ.2.2 x0 0).bind (fun q_2 => aw_chk (aw_I σ 21 q_2 x5) (if (lg_cmp ((d.2 q_2 x5.toNatClampNeg) &&& (x1 ^^^ ((-1 : Int64)))) ((0 : Int64))) = 0 then f_X4_weightUnreadWith_J59 σ kb6 x0 x1 x3 x4 x5 d else (f_X10_has σ (d.2 q_2 x5.toNatClampNeg) x3 d).bind (fun z_5 => if z_5.1 = 0 then f_X4_weightUnreadWith_J59 σ kb6 x0 x1 x3 x4 x5 z_5.2 else (σ.2.2 x0 1).bind (fun q_7 => aw_chk (aw_I σ 20 q_7 x5) (f_X4_weightUnreadWith_J59 σ kb6 x0 x1 x3 (x4 + (z_5.2.1 q_7 x5.toNatClampNeg)) x5 z_5.2))))))
def f_X4_weightUnreadWith_L6 (σ : Sg) (n : Nat) (k6 : Int32 → Dt → Option (Int32 × Dt)) (x0 : Nat) (x1 : Int64) (x3 : Int32) : Int32 → Int32 → Dt → Option (Int32 × Dt) := match n with
  | 0 => fun _ _ _ => none
  | n + 1 => fun x4 x5 d => f_X4_weightUnreadWith_B6 σ (f_X4_weightUnreadWith_L6 σ n k6 x0 x1 x3) k6 x0 x1 x3 x4 x5 d
def f_X4_weightUnreadWith (σ : Sg) (x0 : Nat) (x1 : Int64) (x3 : Int32) (d : Dt) : Option (Int32 × Dt) :=
  f_X4_weightUnreadWith_L6 σ aw_FU (fun x4_10 d_11 => some (x4_10, d_11)) x0 x1 x3 ((0 : Int32)) ((0 : Int32)) d
section W_X4_weightUnreadWith
variable {p : Program} {l : Launch} {e : Env} {s : State} {m : MethodId} {args : Array Value} {below : List Frame} {meth : Method} {c : Code}
variable {D : va_G} {cA : Nat → ClassId} {base : Nat} {ad : Nat → Nat} {σ : Sg}
set_option maxHeartbeats 4000000 in
set_option maxRecDepth 100000 in
theorem w_X4_weightUnreadWith_J59 {z : Int32 × Dt} (X : aw_X p c cX4_weightUnreadWith 6 s RX4 m meth (some .int)) {kb6 : Int32 → Int32 → Dt → Option (Int32 × Dt)} {x0 : Nat} {x1 : Int64} {x3 : Int32} {x4 : Int32} {x5 : Int32} {d : Dt} (hf : f_X4_weightUnreadWith_J59 σ kb6 x0 x1 x3 x4 x5 d = some z) (hkb6 : ∀ (y4 : Int32) (y5 : Int32) (d : Dt), kb6 y4 y5 d = some z → ∀ (H : Heap) (locs : List Loc) (ls : Array Slot), lv_has ls 6 [(0, .ref (ad x0)), (1, .long x1), (3, .int x3), (4, .int y4), (5, .int y5)] → aw_G D cA base ad σ d s H locs → W p l e rm_X4_weightUnreadWith s m args below meth c H locs 0 0 (aw_Ei D cA base ad σ below args s z) (F0 m 6 ls [])) {H : Heap} {locs : List Loc} {ls : Array Slot} (hl : lv_has ls 6 [(0, .ref (ad x0)), (1, .long x1), (3, .int x3), (4, .int x4), (5, .int x5)]) (G : aw_G D cA base ad σ d s H locs) : W p l e rm_X4_weightUnreadWith s m args below meth c H locs 0 0 (aw_Ei D cA base ad σ below args s z) (F0 m 59 ls []) := by
  have hx := X.1; have hb := X.2.1; have hml := X.2.2.1; have hown := X.2.2.2.1
  unfold f_X4_weightUnreadWith_J59 at hf
  refine lv_iinc (v := x5 + 1) (lv' := [(5, .int (x5 + 1)), (0, .ref (ad x0)), (1, .long x1), (3, .int x3), (4, .int x4)]) hx hb dX4_weightUnreadWith_59 hl (k := 4) rfl rfl (by decide) rfl (fun ls hl => ?_)
  refine lv_goto (tgt := 6) hx hb dX4_weightUnreadWith_62 (by decide) ?_
  exact hkb6 _ _ _ hf _ _ _ (lv_sub hl [1, 2, 3, 4, 0] rfl) G
set_option maxHeartbeats 4000000 in
set_option maxRecDepth 100000 in
theorem w_X4_weightUnreadWith_B6 {z : Int32 × Dt} (X : aw_X p c cX4_weightUnreadWith 6 s RX4 m meth (some .int)) {kb6 : Int32 → Int32 → Dt → Option (Int32 × Dt)} {k6 : Int32 → Dt → Option (Int32 × Dt)} {x0 : Nat} {x1 : Int64} {x3 : Int32} {x4 : Int32} {x5 : Int32} {d : Dt} (hf : f_X4_weightUnreadWith_B6 σ kb6 k6 x0 x1 x3 x4 x5 d = some z) (hkb6 : ∀ (y4 : Int32) (y5 : Int32) (d : Dt), kb6 y4 y5 d = some z → ∀ (H : Heap) (locs : List Loc) (ls : Array Slot), lv_has ls 6 [(0, .ref (ad x0)), (1, .long x1), (3, .int x3), (4, .int y4), (5, .int y5)] → aw_G D cA base ad σ d s H locs → W p l e rm_X4_weightUnreadWith s m args below meth c H locs 0 0 (aw_Ei D cA base ad σ below args s z) (F0 m 6 ls [])) (hk6 : ∀ (y4 : Int32) (d : Dt), k6 y4 d = some z → ∀ (H : Heap) (locs : List Loc) (ls : Array Slot), lv_has ls 6 [(4, .int y4)] → aw_G D cA base ad σ d s H locs → W p l e rm_X4_weightUnreadWith s m args below meth c H locs 0 0 (aw_Ei D cA base ad σ below args s z) (F0 m 65 ls [])) {H : Heap} {locs : List Loc} {ls : Array Slot} (hl : lv_has ls 6 [(0, .ref (ad x0)), (1, .long x1), (3, .int x3), (4, .int x4), (5, .int x5)]) (G : aw_G D cA base ad σ d s H locs) : W p l e rm_X4_weightUnreadWith s m args below meth c H locs 0 0 (aw_Ei D cA base ad σ below args s z) (F0 m 6 ls []) := by
  have hx := X.1; have hb := X.2.1; have hml := X.2.2.1; have hown := X.2.2.2.1
  unfold f_X4_weightUnreadWith_B6 at hf
  refine lv_iload hx hb dX4_weightUnreadWith_6 (lv_at hl 4 rfl) ?_
  refine lv_aload_n hx hb dX4_weightUnreadWith_8 rfl (lv_at hl 0 rfl) ?_
  obtain ⟨hc_1, hf⟩ := aw_chk_some hf
  refine gf_X4_19 hx hb G hown hc_1 dX4_weightUnreadWith_9 ?_
  refine lv_icmp_ge (tgt := 65) hx hb dX4_weightUnreadWith_12 (by decide) (fun hc => ?_) (fun hc => ?_)
  · have hf := aw_ite_t hc hf
    exact hk6 _ _ hf _ _ _ (lv_sub hl [3] rfl) G
  · have hf := aw_ite_f hc hf
    refine lv_aload_n hx hb dX4_weightUnreadWith_15 rfl (lv_at hl 0 rfl) ?_
    obtain ⟨q_2, hq_3, hf⟩ := aw_bind_some hf
    refine gf_X4_9 hx hb G hown hc_1 hq_3 dX4_weightUnreadWith_16 ?_
    refine lv_iload hx hb dX4_weightUnreadWith_19 (lv_at hl 4 rfl) ?_
    obtain ⟨hc_4, hf⟩ := aw_chk_some hf
    refine aw_lal hx hb G hc_4 dX4_weightUnreadWith_21 ?_
    refine lv_lload_n hx hb dX4_weightUnreadWith_22 rfl (lv_at hl 1 rfl) ?_
    refine lv_ldc2 (v := (-1 : Int64)) hx hb hown (G.1.hts _ m_629) dX4_weightUnreadWith_23 ?_
    refine lv_lxor hx hb dX4_weightUnreadWith_26 ?_
    refine lv_land hx hb dX4_weightUnreadWith_27 ?_
    refine lv_lconst (v := (0 : Int64)) hx hb dX4_weightUnreadWith_28 (by decide) ?_
    refine W.lcmp hx hb dX4_weightUnreadWith_29 ?_
    refine lv_if_eq (tgt := 59) hx hb dX4_weightUnreadWith_30 (by decide) (fun hc => ?_) (fun hc => ?_)
    · have hf := aw_ite_t hc hf
      exact w_X4_weightUnreadWith_J59 X hf hkb6 (lv_sub hl [0, 1, 2, 3, 4] rfl) G
    · have hf := aw_ite_f hc hf
      refine lv_aload_n hx hb dX4_weightUnreadWith_33 rfl (lv_at hl 0 rfl) ?_
      refine gf_X4_9 hx hb G hown hc_1 hq_3 dX4_weightUnreadWith_34 ?_
      refine lv_iload hx hb dX4_weightUnreadWith_37 (lv_at hl 4 rfl) ?_
      refine aw_lal hx hb G hc_4 dX4_weightUnreadWith_39 ?_
      refine lv_iload_n hx hb dX4_weightUnreadWith_40 rfl (lv_at hl 2 rfl) ?_
      obtain ⟨z_5, hz_6, hf⟩ := aw_bind_some hf
      refine aw_NI (As := [.long (d.2 q_2 x5.toNatClampNeg), .int x3]) (rest := []) X G hl.1 cr_X4_62 (c_X10_has l hz_6) ⟨rfl, rfl⟩ rfl rfl rfl ⟨Nat.le_of_ble_eq_true rfl, Nat.le_of_ble_eq_true rfl⟩ (Nat.le_of_ble_eq_true rfl) dX4_weightUnreadWith_41 ⟨Nat.zero_le _, Nat.zero_le _⟩ (fun H locs G => ?_)
      refine lv_if_eq (tgt := 59) hx hb dX4_weightUnreadWith_44 (by decide) (fun hc => ?_) (fun hc => ?_)
      · have hf := aw_ite_t hc hf
        exact w_X4_weightUnreadWith_J59 X hf hkb6 (lv_sub hl [0, 1, 2, 3, 4] rfl) G
      · have hf := aw_ite_f hc hf
        refine lv_iload hx hb dX4_weightUnreadWith_47 (lv_at hl 3 rfl) ?_
        refine lv_aload_n hx hb dX4_weightUnreadWith_49 rfl (lv_at hl 0 rfl) ?_
        obtain ⟨q_7, hq_8, hf⟩ := aw_bind_some hf
        refine gf_X4_15 hx hb G hown hc_1 hq_8 dX4_weightUnreadWith_50 ?_
        refine lv_iload hx hb dX4_weightUnreadWith_53 (lv_at hl 4 rfl) ?_
        obtain ⟨hc_9, hf⟩ := aw_chk_some hf
        refine aw_ial hx hb G hc_9 dX4_weightUnreadWith_55 ?_
        refine lv_iadd hx hb dX4_weightUnreadWith_56 ?_
        refine lv_istore (lv' := [(4, .int (x4 + (z_5.2.1 q_7 x5.toNatClampNeg))), (0, .ref (ad x0)), (1, .long x1), (3, .int x3), (5, .int x5)]) hx hb dX4_weightUnreadWith_57 hl (by decide) rfl (fun ls hl => ?_)
        exact w_X4_weightUnreadWith_J59 X hf hkb6 (lv_sub hl [1, 2, 3, 0, 4] rfl) G
theorem w_X4_weightUnreadWith_L6 {z : Int32 × Dt} (X : aw_X p c cX4_weightUnreadWith 6 s RX4 m meth (some .int)) {k6 : Int32 → Dt → Option (Int32 × Dt)} {x0 : Nat} {x1 : Int64} {x3 : Int32} (n : Nat) {x4 : Int32} {x5 : Int32} {d : Dt} (hf : f_X4_weightUnreadWith_L6 σ n k6 x0 x1 x3 x4 x5 d = some z) (hk6 : ∀ (y4 : Int32) (d : Dt), k6 y4 d = some z → ∀ (H : Heap) (locs : List Loc) (ls : Array Slot), lv_has ls 6 [(4, .int y4)] → aw_G D cA base ad σ d s H locs → W p l e rm_X4_weightUnreadWith s m args below meth c H locs 0 0 (aw_Ei D cA base ad σ below args s z) (F0 m 65 ls [])) {H : Heap} {locs : List Loc} {ls : Array Slot} (hl : lv_has ls 6 [(0, .ref (ad x0)), (1, .long x1), (3, .int x3), (4, .int x4), (5, .int x5)]) (G : aw_G D cA base ad σ d s H locs) : W p l e rm_X4_weightUnreadWith s m args below meth c H locs 0 0 (aw_Ei D cA base ad σ below args s z) (F0 m 6 ls []) := by
  induction n generalizing x4 x5 d H locs ls with
  | zero => exact absurd (show (none : Option (Int32 × Dt)) = some z from hf) (by simp)
  | succ n ih => exact w_X4_weightUnreadWith_B6 X (kb6 := f_X4_weightUnreadWith_L6 σ n k6 x0 x1 x3) hf  (fun x4 x5 d hf H locs ls hl G => ih hf hl G) hk6 hl G
end W_X4_weightUnreadWith
set_option maxHeartbeats 4000000 in
set_option maxRecDepth 100000 in
theorem c_X4_weightUnreadWith (l : Launch) {σ : Sg} {x0 : Nat} {x1 : Int64} {x3 : Int32} {d : Dt} {z : Int32 × Dt} (hf : f_X4_weightUnreadWith σ x0 x1 x3 d = some z) : aw_Mi l yX4_weightUnreadWith (Cond.code yX4_weightUnreadWith cX4_weightUnreadWith 6 (some .int)) rm_X4_weightUnreadWith (fun ad => [.ref (ad x0), .long x1, .int x3]) σ d z := by
  intro D cA base ad
  refine aw_ofW (own := RX4) (cc := cX4_weightUnreadWith) (nL := 6) (ret := some .int) (by decide) rfl rfl ?_
  intro p e s m below meth c X hnm G
  have hx := X.1; have hb := X.2.1; have hml := X.2.2.1; have hown := X.2.2.2.1
  refine aw_ls (lv := [(0, .ref (ad x0)), (1, .long x1), (3, .int x3)]) (Nat.le_of_ble_eq_true rfl) rfl (fun ls hl => ?_)
  unfold f_X4_weightUnreadWith at hf
  refine lv_iconst (v := (0 : Int32)) hx hb dX4_weightUnreadWith_0 (by decide) ?_
  refine lv_istore (lv' := [(4, .int ((0 : Int32))), (0, .ref (ad x0)), (1, .long x1), (3, .int x3)]) hx hb dX4_weightUnreadWith_1 hl (by decide) rfl (fun ls hl => ?_)
  refine lv_iconst (v := (0 : Int32)) hx hb dX4_weightUnreadWith_3 (by decide) ?_
  refine lv_istore (lv' := [(5, .int ((0 : Int32))), (4, .int ((0 : Int32))), (0, .ref (ad x0)), (1, .long x1), (3, .int x3)]) hx hb dX4_weightUnreadWith_4 hl (by decide) rfl (fun ls hl => ?_)
  refine w_X4_weightUnreadWith_L6 X aw_FU hf  (fun x4_10 d_11 hf H locs ls hl G => ?_) (lv_sub hl [2, 3, 4, 1, 0] rfl) G
  refine lv_iload hx hb dX4_weightUnreadWith_65 (lv_at hl 0 rfl) ?_
  exact aw_reti X G hf dX4_weightUnreadWith_67
def rm_X4_nextSign : Room := { frames := 2, cells := 0, slots := 0, locals := 47 }
def f_X4_nextSign_J89 (σ : Sg) (kb11 : Int32 → Int32 → Int32 → Int32 → Dt → Option (Int32 × Dt)) (x0 : Nat) (x1 : Int64) (x3 : Int32) (x4 : Int32) (x5 : Int32) (x6 : Int32) (d : Dt) : Option (Int32 × Dt) :=
  kb11 x3 x4 x5 (x6 + 1) d
def f_X4_nextSign_J78 (σ : Sg) (kb11 : Int32 → Int32 → Int32 → Int32 → Dt → Option (Int32 × Dt)) (x0 : Nat) (x1 : Int64) (x6 : Int32) (x7 : Int32) (x8 : Int32) (d : Dt) : Option (Int32 × Dt) :=
  f_X4_nextSign_J89 σ kb11 x0 x1 x6 x7 x8 x6 d
def f_X4_nextSign_B11 (σ : Sg) (kb11 : Int32 → Int32 → Int32 → Int32 → Dt → Option (Int32 × Dt)) (k11 : Int32 → Dt → Option (Int32 × Dt)) (x0 : Nat) (x1 : Int64) (x3 : Int32) (x4 : Int32) (x5 : Int32) (x6 : Int32) (d : Dt) : Option (Int32 × Dt) :=
  if ((50 : Int32)) ≤ x6 then k11 x3 d else aw_chk (aw_O σ 4 8 x0) ((f_X10_has σ ((d.2 x0 3) &&& (x1 ^^^ ((-1 : Int64)))) x6 d).bind (fun z_2 => if z_2.1 = 0 then f_X4_nextSign_J89 σ kb11 x0 x1 x3 x4 x5 x6 z_2.2 else (f_X4_weightRead σ x0 (x1 ||| (((1 : Int64)) <<< (x6.toInt64 &&& 63))) z_2.2).bind (fun z_4 => (f_X4_weightUnreadWith σ x0 x1 x6 z_4.2).bind (fun z_6 => if x4 < z_4.1 then f_X4_nextSign_J78 σ kb11 x0 x1 x6 z_4.1 z_6.1 z_6.2 else if z_4.1 = x4 then if z_6.1 ≤ x5 then f_X4_nextSign_J89 σ kb11 x0 x1 x3 x4 x5 x6 z_6.2 else f_X4_nextSign_J78 σ kb11 x0 x1 x6 z_4.1 z_6.1 z_6.2 else f_X4_nextSign_J89 σ kb11 x0 x1 x3 x4 x5 x6 z_6.2))))
def f_X4_nextSign_L11 (σ : Sg) (n : Nat) (k11 : Int32 → Dt → Option (Int32 × Dt)) (x0 : Nat) (x1 : Int64) : Int32 → Int32 → Int32 → Int32 → Dt → Option (Int32 × Dt) := match n with
  | 0 => fun _ _ _ _ _ => none
  | n + 1 => fun x3 x4 x5 x6 d => f_X4_nextSign_B11 σ (f_X4_nextSign_L11 σ n k11 x0 x1) k11 x0 x1 x3 x4 x5 x6 d
def f_X4_nextSign (σ : Sg) (x0 : Nat) (x1 : Int64) (d : Dt) : Option (Int32 × Dt) :=
  f_X4_nextSign_L11 σ aw_FU (fun x3_8 d_9 => some (x3_8, d_9)) x0 x1 ((0 : Int32)) ((-1 : Int32)) ((-1 : Int32)) ((0 : Int32)) d
section W_X4_nextSign
variable {p : Program} {l : Launch} {e : Env} {s : State} {m : MethodId} {args : Array Value} {below : List Frame} {meth : Method} {c : Code}
variable {D : va_G} {cA : Nat → ClassId} {base : Nat} {ad : Nat → Nat} {σ : Sg}
set_option maxHeartbeats 4000000 in
set_option maxRecDepth 100000 in
theorem w_X4_nextSign_J89 {z : Int32 × Dt} (X : aw_X p c cX4_nextSign 9 s RX4 m meth (some .int)) {kb11 : Int32 → Int32 → Int32 → Int32 → Dt → Option (Int32 × Dt)} {x0 : Nat} {x1 : Int64} {x3 : Int32} {x4 : Int32} {x5 : Int32} {x6 : Int32} {d : Dt} (hf : f_X4_nextSign_J89 σ kb11 x0 x1 x3 x4 x5 x6 d = some z) (hkb11 : ∀ (y3 : Int32) (y4 : Int32) (y5 : Int32) (y6 : Int32) (d : Dt), kb11 y3 y4 y5 y6 d = some z → ∀ (H : Heap) (locs : List Loc) (ls : Array Slot), lv_has ls 9 [(0, .ref (ad x0)), (1, .long x1), (3, .int y3), (4, .int y4), (5, .int y5), (6, .int y6)] → aw_G D cA base ad σ d s H locs → W p l e rm_X4_nextSign s m args below meth c H locs 0 0 (aw_Ei D cA base ad σ below args s z) (F0 m 11 ls [])) {H : Heap} {locs : List Loc} {ls : Array Slot} (hl : lv_has ls 9 [(0, .ref (ad x0)), (1, .long x1), (3, .int x3), (4, .int x4), (5, .int x5), (6, .int x6)]) (G : aw_G D cA base ad σ d s H locs) : W p l e rm_X4_nextSign s m args below meth c H locs 0 0 (aw_Ei D cA base ad σ below args s z) (F0 m 89 ls []) := by
  have hx := X.1; have hb := X.2.1; have hml := X.2.2.1; have hown := X.2.2.2.1
  unfold f_X4_nextSign_J89 at hf
  refine lv_iinc (v := x6 + 1) (lv' := [(6, .int (x6 + 1)), (0, .ref (ad x0)), (1, .long x1), (3, .int x3), (4, .int x4), (5, .int x5)]) hx hb dX4_nextSign_89 hl (k := 5) rfl rfl (by decide) rfl (fun ls hl => ?_)
  refine lv_goto (tgt := 11) hx hb dX4_nextSign_92 (by decide) ?_
  exact hkb11 _ _ _ _ _ hf _ _ _ (lv_sub hl [1, 2, 3, 4, 5, 0] rfl) G
set_option maxHeartbeats 4000000 in
set_option maxRecDepth 100000 in
theorem w_X4_nextSign_J78 {z : Int32 × Dt} (X : aw_X p c cX4_nextSign 9 s RX4 m meth (some .int)) {kb11 : Int32 → Int32 → Int32 → Int32 → Dt → Option (Int32 × Dt)} {x0 : Nat} {x1 : Int64} {x6 : Int32} {x7 : Int32} {x8 : Int32} {d : Dt} (hf : f_X4_nextSign_J78 σ kb11 x0 x1 x6 x7 x8 d = some z) (hkb11 : ∀ (y3 : Int32) (y4 : Int32) (y5 : Int32) (y6 : Int32) (d : Dt), kb11 y3 y4 y5 y6 d = some z → ∀ (H : Heap) (locs : List Loc) (ls : Array Slot), lv_has ls 9 [(0, .ref (ad x0)), (1, .long x1), (3, .int y3), (4, .int y4), (5, .int y5), (6, .int y6)] → aw_G D cA base ad σ d s H locs → W p l e rm_X4_nextSign s m args below meth c H locs 0 0 (aw_Ei D cA base ad σ below args s z) (F0 m 11 ls [])) {H : Heap} {locs : List Loc} {ls : Array Slot} (hl : lv_has ls 9 [(0, .ref (ad x0)), (1, .long x1), (6, .int x6), (7, .int x7), (8, .int x8)]) (G : aw_G D cA base ad σ d s H locs) : W p l e rm_X4_nextSign s m args below meth c H locs 0 0 (aw_Ei D cA base ad σ below args s z) (F0 m 78 ls []) := by
  have hx := X.1; have hb := X.2.1; have hml := X.2.2.1; have hown := X.2.2.2.1
  unfold f_X4_nextSign_J78 at hf
  refine lv_iload hx hb dX4_nextSign_78 (lv_at hl 2 rfl) ?_
  refine lv_istore_n (lv' := [(3, .int x6), (0, .ref (ad x0)), (1, .long x1), (6, .int x6), (7, .int x7), (8, .int x8)]) hx hb dX4_nextSign_80 rfl hl (by decide) rfl (fun ls hl => ?_)
  refine lv_iload hx hb dX4_nextSign_81 (lv_at hl 4 rfl) ?_
  refine lv_istore (lv' := [(4, .int x7), (3, .int x6), (0, .ref (ad x0)), (1, .long x1), (6, .int x6), (7, .int x7), (8, .int x8)]) hx hb dX4_nextSign_83 hl (by decide) rfl (fun ls hl => ?_)
  refine lv_iload hx hb dX4_nextSign_85 (lv_at hl 6 rfl) ?_
  refine lv_istore (lv' := [(5, .int x8), (4, .int x7), (3, .int x6), (0, .ref (ad x0)), (1, .long x1), (6, .int x6), (7, .int x7), (8, .int x8)]) hx hb dX4_nextSign_87 hl (by decide) rfl (fun ls hl => ?_)
  exact w_X4_nextSign_J89 X hf hkb11 (lv_sub hl [3, 4, 2, 1, 0, 5] rfl) G
set_option maxHeartbeats 4000000 in
set_option maxRecDepth 100000 in
theorem w_X4_nextSign_B11 {z : Int32 × Dt} (X : aw_X p c cX4_nextSign 9 s RX4 m meth (some .int)) {kb11 : Int32 → Int32 → Int32 → Int32 → Dt → Option (Int32 × Dt)} {k11 : Int32 → Dt → Option (Int32 × Dt)} {x0 : Nat} {x1 : Int64} {x3 : Int32} {x4 : Int32} {x5 : Int32} {x6 : Int32} {d : Dt} (hf : f_X4_nextSign_B11 σ kb11 k11 x0 x1 x3 x4 x5 x6 d = some z) (hkb11 : ∀ (y3 : Int32) (y4 : Int32) (y5 : Int32) (y6 : Int32) (d : Dt), kb11 y3 y4 y5 y6 d = some z → ∀ (H : Heap) (locs : List Loc) (ls : Array Slot), lv_has ls 9 [(0, .ref (ad x0)), (1, .long x1), (3, .int y3), (4, .int y4), (5, .int y5), (6, .int y6)] → aw_G D cA base ad σ d s H locs → W p l e rm_X4_nextSign s m args below meth c H locs 0 0 (aw_Ei D cA base ad σ below args s z) (F0 m 11 ls [])) (hk11 : ∀ (y3 : Int32) (d : Dt), k11 y3 d = some z → ∀ (H : Heap) (locs : List Loc) (ls : Array Slot), lv_has ls 9 [(3, .int y3)] → aw_G D cA base ad σ d s H locs → W p l e rm_X4_nextSign s m args below meth c H locs 0 0 (aw_Ei D cA base ad σ below args s z) (F0 m 95 ls [])) {H : Heap} {locs : List Loc} {ls : Array Slot} (hl : lv_has ls 9 [(0, .ref (ad x0)), (1, .long x1), (3, .int x3), (4, .int x4), (5, .int x5), (6, .int x6)]) (G : aw_G D cA base ad σ d s H locs) : W p l e rm_X4_nextSign s m args below meth c H locs 0 0 (aw_Ei D cA base ad σ below args s z) (F0 m 11 ls []) := by
  have hx := X.1; have hb := X.2.1; have hml := X.2.2.1; have hown := X.2.2.2.1
  unfold f_X4_nextSign_B11 at hf
  refine lv_iload hx hb dX4_nextSign_11 (lv_at hl 5 rfl) ?_
  refine lv_bipush (v := (50 : Int32)) hx hb dX4_nextSign_13 (by decide) ?_
  refine lv_icmp_ge (tgt := 95) hx hb dX4_nextSign_15 (by decide) (fun hc => ?_) (fun hc => ?_)
  · have hf := aw_ite_t hc hf
    exact hk11 _ _ hf _ _ _ (lv_sub hl [2] rfl) G
  · have hf := aw_ite_f hc hf
    refine lv_aload_n hx hb dX4_nextSign_18 rfl (lv_at hl 0 rfl) ?_
    obtain ⟨hc_1, hf⟩ := aw_chk_some hf
    refine gf_X4_23 hx hb G hown hc_1 dX4_nextSign_19 ?_
    refine lv_lload_n hx hb dX4_nextSign_22 rfl (lv_at hl 1 rfl) ?_
    refine lv_ldc2 (v := (-1 : Int64)) hx hb hown (G.1.hts _ m_629) dX4_nextSign_23 ?_
    refine lv_lxor hx hb dX4_nextSign_26 ?_
    refine lv_land hx hb dX4_nextSign_27 ?_
    refine lv_iload hx hb dX4_nextSign_28 (lv_at hl 5 rfl) ?_
    obtain ⟨z_2, hz_3, hf⟩ := aw_bind_some hf
    refine aw_NI (As := [.long ((d.2 x0 3) &&& (x1 ^^^ ((-1 : Int64)))), .int x6]) (rest := []) X G hl.1 cr_X4_62 (c_X10_has l hz_3) ⟨rfl, rfl⟩ rfl rfl rfl ⟨Nat.le_of_ble_eq_true rfl, Nat.le_of_ble_eq_true rfl⟩ (Nat.le_of_ble_eq_true rfl) dX4_nextSign_30 ⟨Nat.zero_le _, Nat.zero_le _⟩ (fun H locs G => ?_)
    refine lv_if_eq (tgt := 89) hx hb dX4_nextSign_33 (by decide) (fun hc => ?_) (fun hc => ?_)
    · have hf := aw_ite_t hc hf
      exact w_X4_nextSign_J89 X hf hkb11 (lv_sub hl [0, 1, 2, 3, 4, 5] rfl) G
    · have hf := aw_ite_f hc hf
      refine lv_aload_n hx hb dX4_nextSign_36 rfl (lv_at hl 0 rfl) ?_
      refine lv_lload_n hx hb dX4_nextSign_37 rfl (lv_at hl 1 rfl) ?_
      refine lv_lconst (v := (1 : Int64)) hx hb dX4_nextSign_38 (by decide) ?_
      refine lv_iload hx hb dX4_nextSign_39 (lv_at hl 5 rfl) ?_
      refine lv_lshl hx hb dX4_nextSign_41 rfl ?_
      refine lv_lor hx hb dX4_nextSign_42 ?_
      obtain ⟨z_4, hz_5, hf⟩ := aw_bind_some hf
      refine aw_VI (As := [.long (x1 ||| (((1 : Int64)) <<< (x6.toInt64 &&& 63)))]) (rest := []) X G hl.1 cr_X4_66 (c_X4_weightRead l hz_5) ⟨rfl, rfl⟩ rfl rfl rfl (by decide) hc_1 rfl ⟨Nat.le_of_ble_eq_true rfl, Nat.le_of_ble_eq_true rfl⟩ (Nat.le_of_ble_eq_true rfl) dX4_nextSign_43 ⟨Nat.zero_le _, Nat.zero_le _⟩ (fun H locs G => ?_)
      refine lv_istore (lv' := [(7, .int z_4.1), (0, .ref (ad x0)), (1, .long x1), (3, .int x3), (4, .int x4), (5, .int x5), (6, .int x6)]) hx hb dX4_nextSign_46 hl (by decide) rfl (fun ls hl => ?_)
      refine lv_aload_n hx hb dX4_nextSign_48 rfl (lv_at hl 1 rfl) ?_
      refine lv_lload_n hx hb dX4_nextSign_49 rfl (lv_at hl 2 rfl) ?_
      refine lv_iload hx hb dX4_nextSign_50 (lv_at hl 6 rfl) ?_
      obtain ⟨z_6, hz_7, hf⟩ := aw_bind_some hf
      refine aw_VI (As := [.long x1, .int x6]) (rest := []) X G hl.1 cr_X4_69 (c_X4_weightUnreadWith l hz_7) ⟨rfl, rfl⟩ rfl rfl rfl (by decide) hc_1 rfl ⟨Nat.le_of_ble_eq_true rfl, Nat.le_of_ble_eq_true rfl⟩ (Nat.le_of_ble_eq_true rfl) dX4_nextSign_52 ⟨Nat.zero_le _, Nat.zero_le _⟩ (fun H locs G => ?_)
      refine lv_istore (lv' := [(8, .int z_6.1), (7, .int z_4.1), (0, .ref (ad x0)), (1, .long x1), (3, .int x3), (4, .int x4), (5, .int x5), (6, .int x6)]) hx hb dX4_nextSign_55 hl (by decide) rfl (fun ls hl => ?_)
      refine lv_iload hx hb dX4_nextSign_57 (lv_at hl 1 rfl) ?_
      refine lv_iload hx hb dX4_nextSign_59 (lv_at hl 5 rfl) ?_
      refine lv_icmp_gt (tgt := 78) hx hb dX4_nextSign_61 (by decide) (fun hc => ?_) (fun hc => ?_)
      · have hf := aw_ite_t hc hf
        exact w_X4_nextSign_J78 X hf hkb11 (lv_sub hl [2, 3, 7, 1, 0] rfl) G
      · have hf := aw_ite_f hc hf
        refine lv_iload hx hb dX4_nextSign_64 (lv_at hl 1 rfl) ?_
        refine lv_iload hx hb dX4_nextSign_66 (lv_at hl 5 rfl) ?_
        refine lv_icmp_ne (tgt := 89) hx hb dX4_nextSign_68 (by decide) (fun hc => ?_) (fun hc => ?_)
        · have hf := aw_ite_f hc hf
          exact w_X4_nextSign_J89 X hf hkb11 (lv_sub hl [2, 3, 4, 5, 6, 7] rfl) G
        · have hf := aw_ite_t hc hf
          refine lv_iload hx hb dX4_nextSign_71 (lv_at hl 0 rfl) ?_
          refine lv_iload hx hb dX4_nextSign_73 (lv_at hl 6 rfl) ?_
          refine lv_icmp_le (tgt := 89) hx hb dX4_nextSign_75 (by decide) (fun hc => ?_) (fun hc => ?_)
          · have hf := aw_ite_t hc hf
            exact w_X4_nextSign_J89 X hf hkb11 (lv_sub hl [2, 3, 4, 5, 6, 7] rfl) G
          · have hf := aw_ite_f hc hf
            exact w_X4_nextSign_J78 X hf hkb11 (lv_sub hl [2, 3, 7, 1, 0] rfl) G
theorem w_X4_nextSign_L11 {z : Int32 × Dt} (X : aw_X p c cX4_nextSign 9 s RX4 m meth (some .int)) {k11 : Int32 → Dt → Option (Int32 × Dt)} {x0 : Nat} {x1 : Int64} (n : Nat) {x3 : Int32} {x4 : Int32} {x5 : Int32} {x6 : Int32} {d : Dt} (hf : f_X4_nextSign_L11 σ n k11 x0 x1 x3 x4 x5 x6 d = some z) (hk11 : ∀ (y3 : Int32) (d : Dt), k11 y3 d = some z → ∀ (H : Heap) (locs : List Loc) (ls : Array Slot), lv_has ls 9 [(3, .int y3)] → aw_G D cA base ad σ d s H locs → W p l e rm_X4_nextSign s m args below meth c H locs 0 0 (aw_Ei D cA base ad σ below args s z) (F0 m 95 ls [])) {H : Heap} {locs : List Loc} {ls : Array Slot} (hl : lv_has ls 9 [(0, .ref (ad x0)), (1, .long x1), (3, .int x3), (4, .int x4), (5, .int x5), (6, .int x6)]) (G : aw_G D cA base ad σ d s H locs) : W p l e rm_X4_nextSign s m args below meth c H locs 0 0 (aw_Ei D cA base ad σ below args s z) (F0 m 11 ls []) := by
  induction n generalizing x3 x4 x5 x6 d H locs ls with
  | zero => exact absurd (show (none : Option (Int32 × Dt)) = some z from hf) (by simp)
  | succ n ih => exact w_X4_nextSign_B11 X (kb11 := f_X4_nextSign_L11 σ n k11 x0 x1) hf  (fun x3 x4 x5 x6 d hf H locs ls hl G => ih hf hl G) hk11 hl G
end W_X4_nextSign
set_option maxHeartbeats 4000000 in
set_option maxRecDepth 100000 in
theorem c_X4_nextSign (l : Launch) {σ : Sg} {x0 : Nat} {x1 : Int64} {d : Dt} {z : Int32 × Dt} (hf : f_X4_nextSign σ x0 x1 d = some z) : aw_Mi l yX4_nextSign (Cond.code yX4_nextSign cX4_nextSign 9 (some .int)) rm_X4_nextSign (fun ad => [.ref (ad x0), .long x1]) σ d z := by
  intro D cA base ad
  refine aw_ofW (own := RX4) (cc := cX4_nextSign) (nL := 9) (ret := some .int) (by decide) rfl rfl ?_
  intro p e s m below meth c X hnm G
  have hx := X.1; have hb := X.2.1; have hml := X.2.2.1; have hown := X.2.2.2.1
  refine aw_ls (lv := [(0, .ref (ad x0)), (1, .long x1)]) (Nat.le_of_ble_eq_true rfl) rfl (fun ls hl => ?_)
  unfold f_X4_nextSign at hf
  refine lv_iconst (v := (0 : Int32)) hx hb dX4_nextSign_0 (by decide) ?_
  refine lv_istore_n (lv' := [(3, .int ((0 : Int32))), (0, .ref (ad x0)), (1, .long x1)]) hx hb dX4_nextSign_1 rfl hl (by decide) rfl (fun ls hl => ?_)
  refine lv_iconst (v := (-1 : Int32)) hx hb dX4_nextSign_2 (by decide) ?_
  refine lv_istore (lv' := [(4, .int ((-1 : Int32))), (3, .int ((0 : Int32))), (0, .ref (ad x0)), (1, .long x1)]) hx hb dX4_nextSign_3 hl (by decide) rfl (fun ls hl => ?_)
  refine lv_iconst (v := (-1 : Int32)) hx hb dX4_nextSign_5 (by decide) ?_
  refine lv_istore (lv' := [(5, .int ((-1 : Int32))), (4, .int ((-1 : Int32))), (3, .int ((0 : Int32))), (0, .ref (ad x0)), (1, .long x1)]) hx hb dX4_nextSign_6 hl (by decide) rfl (fun ls hl => ?_)
  refine lv_iconst (v := (0 : Int32)) hx hb dX4_nextSign_8 (by decide) ?_
  refine lv_istore (lv' := [(6, .int ((0 : Int32))), (5, .int ((-1 : Int32))), (4, .int ((-1 : Int32))), (3, .int ((0 : Int32))), (0, .ref (ad x0)), (1, .long x1)]) hx hb dX4_nextSign_9 hl (by decide) rfl (fun ls hl => ?_)
  refine w_X4_nextSign_L11 X aw_FU hf  (fun x3_8 d_9 hf H locs ls hl G => ?_) (lv_sub hl [4, 5, 3, 2, 1, 0] rfl) G
  refine lv_iload_n hx hb dX4_nextSign_95 rfl (lv_at hl 0 rfl) ?_
  exact aw_reti X G hf dX4_nextSign_96
def rm_X4_putInOrder : Room := { frames := 3, cells := 0, slots := 0, locals := 75 }
def f_X4_putInOrder_B15 (σ : Sg) (kb15 : Int64 → Dt → Option (Unit × Dt)) (k15 : Dt → Option (Unit × Dt)) (x0 : Nat) (x3 : Int32) (x1 : Int64) (d : Dt) : Option (Unit × Dt) :=
  aw_chk (aw_O σ 4 8 x0) (if x3 ≤ (d.1 x0 5) then k15 d else if ((50 : Int32)) ≤ (d.1 x0 5) then k15 d else (f_X4_nextSign σ x0 x1 d).bind (fun z_5 => (σ.2.2 x0 4).bind (fun q_7 => aw_chk (aw_I σ 20 q_7 (z_5.2.1 x0 5)) (kb15 (x1 ||| (((1 : Int64)) <<< (z_5.1.toInt64 &&& 63))) (aw_sI (aw_sI z_5.2 q_7 (z_5.2.1 x0 5).toNatClampNeg z_5.1) x0 5 (((aw_sI z_5.2 q_7 (z_5.2.1 x0 5).toNatClampNeg z_5.1).1 x0 5) + ((1 : Int32))))))))
def f_X4_putInOrder_L15 (σ : Sg) (n : Nat) (k15 : Dt → Option (Unit × Dt)) (x0 : Nat) (x3 : Int32) : Int64 → Dt → Option (Unit × Dt) := match n with
  | 0 => fun _ _ => none
  | n + 1 => fun x1 d => f_X4_putInOrder_B15 σ (f_X4_putInOrder_L15 σ n k15 x0 x3) k15 x0 x3 x1 d
def f_X4_putInOrder_J70 (σ : Sg)  (d : Dt) : Option (Unit × Dt) :=
  some ((), d)
def f_X4_putInOrder (σ : Sg) (x0 : Nat) (d : Dt) : Option (Unit × Dt) :=
  aw_chk (aw_O σ 4 8 x0) ((f_J13_bitCount_95d88 σ (d.2 x0 3) d).bind (fun z_2 => f_X4_putInOrder_L15 σ aw_FU (fun d_10 => f_X4_putInOrder_J70 σ d_10) x0 z_2.1 ((0 : Int64)) (aw_sI z_2.2 x0 5 ((0 : Int32)))))
section W_X4_putInOrder
variable {p : Program} {l : Launch} {e : Env} {s : State} {m : MethodId} {args : Array Value} {below : List Frame} {meth : Method} {c : Code}
variable {D : va_G} {cA : Nat → ClassId} {base : Nat} {ad : Nat → Nat} {σ : Sg}
set_option maxHeartbeats 4000000 in
set_option maxRecDepth 100000 in
theorem w_X4_putInOrder_B15 {z : Unit × Dt} (X : aw_X p c cX4_putInOrder 5 s RX4 m meth (none)) {kb15 : Int64 → Dt → Option (Unit × Dt)} {k15 : Dt → Option (Unit × Dt)} {x0 : Nat} {x3 : Int32} {x1 : Int64} {d : Dt} (hf : f_X4_putInOrder_B15 σ kb15 k15 x0 x3 x1 d = some z) (hkb15 : ∀ (y1 : Int64) (d : Dt), kb15 y1 d = some z → ∀ (H : Heap) (locs : List Loc) (ls : Array Slot), lv_has ls 5 [(0, .ref (ad x0)), (1, .long y1), (3, .int x3)] → aw_G D cA base ad σ d s H locs → W p l e rm_X4_putInOrder s m args below meth c H locs 0 0 (aw_Ev D cA base ad σ below args s z) (F0 m 15 ls [])) (hk15 : ∀ (d : Dt), k15 d = some z → ∀ (H : Heap) (locs : List Loc) (ls : Array Slot), lv_has ls 5 [] → aw_G D cA base ad σ d s H locs → W p l e rm_X4_putInOrder s m args below meth c H locs 0 0 (aw_Ev D cA base ad σ below args s z) (F0 m 70 ls [])) {H : Heap} {locs : List Loc} {ls : Array Slot} (hl : lv_has ls 5 [(0, .ref (ad x0)), (1, .long x1), (3, .int x3)]) (G : aw_G D cA base ad σ d s H locs) : W p l e rm_X4_putInOrder s m args below meth c H locs 0 0 (aw_Ev D cA base ad σ below args s z) (F0 m 15 ls []) := by
  have hx := X.1; have hb := X.2.1; have hml := X.2.2.1; have hown := X.2.2.2.1
  unfold f_X4_putInOrder_B15 at hf
  refine lv_aload_n hx hb dX4_putInOrder_15 rfl (lv_at hl 0 rfl) ?_
  obtain ⟨hc_4, hf⟩ := aw_chk_some hf
  refine gf_X4_30 hx hb G hown hc_4 dX4_putInOrder_16 ?_
  refine lv_iload_n hx hb dX4_putInOrder_19 rfl (lv_at hl 2 rfl) ?_
  refine lv_icmp_ge (tgt := 70) hx hb dX4_putInOrder_20 (by decide) (fun hc => ?_) (fun hc => ?_)
  · have hf := aw_ite_t hc hf
    exact hk15 _ hf _ _ _ (lv_sub hl [] rfl) G
  · have hf := aw_ite_f hc hf
    refine lv_aload_n hx hb dX4_putInOrder_23 rfl (lv_at hl 0 rfl) ?_
    refine gf_X4_30 hx hb G hown hc_4 dX4_putInOrder_24 ?_
    refine lv_bipush (v := (50 : Int32)) hx hb dX4_putInOrder_27 (by decide) ?_
    refine lv_icmp_ge (tgt := 70) hx hb dX4_putInOrder_29 (by decide) (fun hc => ?_) (fun hc => ?_)
    · have hf := aw_ite_t hc hf
      exact hk15 _ hf _ _ _ (lv_sub hl [] rfl) G
    · have hf := aw_ite_f hc hf
      refine lv_aload_n hx hb dX4_putInOrder_32 rfl (lv_at hl 0 rfl) ?_
      refine lv_lload_n hx hb dX4_putInOrder_33 rfl (lv_at hl 1 rfl) ?_
      obtain ⟨z_5, hz_6, hf⟩ := aw_bind_some hf
      refine aw_VI (As := [.long x1]) (rest := []) X G hl.1 cr_X4_57 (c_X4_nextSign l hz_6) ⟨rfl, rfl⟩ rfl rfl rfl (by decide) hc_4 rfl ⟨Nat.le_of_ble_eq_true rfl, Nat.le_of_ble_eq_true rfl⟩ (Nat.le_of_ble_eq_true rfl) dX4_putInOrder_34 ⟨Nat.zero_le _, Nat.zero_le _⟩ (fun H locs G => ?_)
      refine lv_istore (lv' := [(4, .int z_5.1), (0, .ref (ad x0)), (1, .long x1), (3, .int x3)]) hx hb dX4_putInOrder_37 hl (by decide) rfl (fun ls hl => ?_)
      refine lv_aload_n hx hb dX4_putInOrder_39 rfl (lv_at hl 1 rfl) ?_
      obtain ⟨q_7, hq_8, hf⟩ := aw_bind_some hf
      refine gf_X4_27 hx hb G hown hc_4 hq_8 dX4_putInOrder_40 ?_
      refine lv_aload_n hx hb dX4_putInOrder_43 rfl (lv_at hl 1 rfl) ?_
      refine gf_X4_30 hx hb G hown hc_4 dX4_putInOrder_44 ?_
      refine lv_iload hx hb dX4_putInOrder_47 (lv_at hl 0 rfl) ?_
      obtain ⟨hc_9, hf⟩ := aw_chk_some hf
      refine aw_ias hx hb G hc_9 dX4_putInOrder_49 (fun H locs G => ?_)
      refine lv_aload_n hx hb dX4_putInOrder_50 rfl (lv_at hl 1 rfl) ?_
      refine lv_dup hx hb dX4_putInOrder_51 rfl ?_
      refine gf_X4_30 hx hb G hown hc_4 dX4_putInOrder_52 ?_
      refine lv_iconst (v := (1 : Int32)) hx hb dX4_putInOrder_55 (by decide) ?_
      refine lv_iadd hx hb dX4_putInOrder_56 ?_
      refine pf_X4_30 hx hb G hown hc_4 dX4_putInOrder_57 (fun H locs G => ?_)
      refine lv_lload_n hx hb dX4_putInOrder_60 rfl (lv_at hl 2 rfl) ?_
      refine lv_lconst (v := (1 : Int64)) hx hb dX4_putInOrder_61 (by decide) ?_
      refine lv_iload hx hb dX4_putInOrder_62 (lv_at hl 0 rfl) ?_
      refine lv_lshl hx hb dX4_putInOrder_64 rfl ?_
      refine lv_lor hx hb dX4_putInOrder_65 ?_
      refine lv_lstore_n (lv' := [(1, .long (x1 ||| (((1 : Int64)) <<< (z_5.1.toInt64 &&& 63)))), (4, .int z_5.1), (0, .ref (ad x0)), (3, .int x3)]) hx hb dX4_putInOrder_66 rfl hl (by decide) rfl (fun ls hl => ?_)
      refine lv_goto (tgt := 15) hx hb dX4_putInOrder_67 (by decide) ?_
      exact hkb15 _ _ hf _ _ _ (lv_sub hl [2, 0, 3] rfl) G
theorem w_X4_putInOrder_L15 {z : Unit × Dt} (X : aw_X p c cX4_putInOrder 5 s RX4 m meth (none)) {k15 : Dt → Option (Unit × Dt)} {x0 : Nat} {x3 : Int32} (n : Nat) {x1 : Int64} {d : Dt} (hf : f_X4_putInOrder_L15 σ n k15 x0 x3 x1 d = some z) (hk15 : ∀ (d : Dt), k15 d = some z → ∀ (H : Heap) (locs : List Loc) (ls : Array Slot), lv_has ls 5 [] → aw_G D cA base ad σ d s H locs → W p l e rm_X4_putInOrder s m args below meth c H locs 0 0 (aw_Ev D cA base ad σ below args s z) (F0 m 70 ls [])) {H : Heap} {locs : List Loc} {ls : Array Slot} (hl : lv_has ls 5 [(0, .ref (ad x0)), (1, .long x1), (3, .int x3)]) (G : aw_G D cA base ad σ d s H locs) : W p l e rm_X4_putInOrder s m args below meth c H locs 0 0 (aw_Ev D cA base ad σ below args s z) (F0 m 15 ls []) := by
  induction n generalizing x1 d H locs ls with
  | zero => exact absurd (show (none : Option (Unit × Dt)) = some z from hf) (by simp)
  | succ n ih => exact w_X4_putInOrder_B15 X (kb15 := f_X4_putInOrder_L15 σ n k15 x0 x3) hf  (fun x1 d hf H locs ls hl G => ih hf hl G) hk15 hl G
set_option maxHeartbeats 4000000 in
set_option maxRecDepth 100000 in
theorem w_X4_putInOrder_J70 {z : Unit × Dt} (X : aw_X p c cX4_putInOrder 5 s RX4 m meth (none))  {d : Dt} (hf : f_X4_putInOrder_J70 σ d = some z)  {H : Heap} {locs : List Loc} {ls : Array Slot} (hl : lv_has ls 5 []) (G : aw_G D cA base ad σ d s H locs) : W p l e rm_X4_putInOrder s m args below meth c H locs 0 0 (aw_Ev D cA base ad σ below args s z) (F0 m 70 ls []) := by
  have hx := X.1; have hb := X.2.1; have hml := X.2.2.1; have hown := X.2.2.2.1
  unfold f_X4_putInOrder_J70 at hf
  exact aw_retv X G hf dX4_putInOrder_70
end W_X4_putInOrder
set_option maxHeartbeats 4000000 in
set_option maxRecDepth 100000 in
theorem c_X4_putInOrder (l : Launch) {σ : Sg} {x0 : Nat} {d : Dt} {z : Unit × Dt} (hf : f_X4_putInOrder σ x0 d = some z) : aw_Mv l yX4_putInOrder (Cond.code yX4_putInOrder cX4_putInOrder 5 (none)) rm_X4_putInOrder (fun ad => [.ref (ad x0)]) σ d z := by
  intro D cA base ad
  refine aw_ofW (own := RX4) (cc := cX4_putInOrder) (nL := 5) (ret := none) (by decide) rfl rfl ?_
  intro p e s m below meth c X hnm G
  have hx := X.1; have hb := X.2.1; have hml := X.2.2.1; have hown := X.2.2.2.1
  refine aw_ls (lv := [(0, .ref (ad x0))]) (Nat.le_of_ble_eq_true rfl) rfl (fun ls hl => ?_)
  unfold f_X4_putInOrder at hf
  refine lv_lconst (v := (0 : Int64)) hx hb dX4_putInOrder_0 (by decide) ?_
  refine lv_lstore_n (lv' := [(1, .long ((0 : Int64))), (0, .ref (ad x0))]) hx hb dX4_putInOrder_1 rfl hl (by decide) rfl (fun ls hl => ?_)
  refine lv_aload_n hx hb dX4_putInOrder_2 rfl (lv_at hl 1 rfl) ?_
  obtain ⟨hc_1, hf⟩ := aw_chk_some hf
  refine gf_X4_23 hx hb G hown hc_1 dX4_putInOrder_3 ?_
  obtain ⟨z_2, hz_3, hf⟩ := aw_bind_some hf
  refine aw_SI (As := [.long (d.2 x0 3)]) (rest := []) X G hl.1 cr_X4_51 (c_J13_bitCount_95d88 l hz_3) ⟨rfl, rfl⟩ rfl rfl rfl ⟨Nat.le_of_ble_eq_true rfl, Nat.le_of_ble_eq_true rfl⟩ (Nat.le_of_ble_eq_true rfl) dX4_putInOrder_6 ⟨Nat.zero_le _, Nat.zero_le _⟩ (fun H locs G => ?_)
  refine lv_istore_n (lv' := [(3, .int z_2.1), (1, .long ((0 : Int64))), (0, .ref (ad x0))]) hx hb dX4_putInOrder_9 rfl hl (by decide) rfl (fun ls hl => ?_)
  refine lv_aload_n hx hb dX4_putInOrder_10 rfl (lv_at hl 2 rfl) ?_
  refine lv_iconst (v := (0 : Int32)) hx hb dX4_putInOrder_11 (by decide) ?_
  refine pf_X4_30 hx hb G hown hc_1 dX4_putInOrder_12 (fun H locs G => ?_)
  refine w_X4_putInOrder_L15 X aw_FU hf  (fun d_10 hf H locs ls hl G => ?_) (lv_sub hl [2, 1, 0] rfl) G
  exact w_X4_putInOrder_J70 X hf  (lv_sub hl [] rfl) G
def rm_X4_costOfOrder : Room := { frames := 1, cells := 0, slots := 0, locals := 22 }
def f_X4_costOfOrder_J50 (σ : Sg) (kb17 : Int32 → Int32 → Dt → Option (Int32 × Dt)) (x0 : Nat) (x1 : Int32) (x2 : Int32) (x3 : Int32) (x4 : Int32) (d : Dt) : Option (Int32 × Dt) :=
  kb17 x3 (x4 + 1) d
def f_X4_costOfOrder_B17 (σ : Sg) (kb17 : Int32 → Int32 → Dt → Option (Int32 × Dt)) (k17 : Int32 → Dt → Option (Int32 × Dt)) (x0 : Nat) (x1 : Int32) (x2 : Int32) (x3 : Int32) (x4 : Int32) (d : Dt) : Option (Int32 × Dt) :=
  aw_chk (aw_O σ 4 8 x0) (if (d.1 x0 5) ≤ x4 then k17 x3 d else (σ.2.2 x0 0).bind (fun q_3 => aw_chk (aw_I σ 21 q_3 x2) ((σ.2.2 x0 4).bind (fun q_6 => aw_chk (aw_I σ 20 q_6 x4) ((f_X10_has σ (d.2 q_3 x2.toNatClampNeg) (d.1 q_6 x4.toNatClampNeg) d).bind (fun z_9 => if z_9.1 = 0 then f_X4_costOfOrder_J50 σ kb17 x0 x1 x2 x3 x4 z_9.2 else f_X4_costOfOrder_J50 σ kb17 x0 x1 x2 (x4 + ((1 : Int32))) x4 z_9.2))))))
def f_X4_costOfOrder_L17 (σ : Sg) (n : Nat) (k17 : Int32 → Dt → Option (Int32 × Dt)) (x0 : Nat) (x1 : Int32) (x2 : Int32) : Int32 → Int32 → Dt → Option (Int32 × Dt) := match n with
  | 0 => fun _ _ _ => none
  | n + 1 => fun x3 x4 d => f_X4_costOfOrder_B17 σ (f_X4_costOfOrder_L17 σ n k17 x0 x1 x2) k17 x0 x1 x2 x3 x4 d
def f_X4_costOfOrder_B4 (σ : Sg) (kb4 : Int32 → Int32 → Dt → Option (Int32 × Dt)) (k4 : Int32 → Dt → Option (Int32 × Dt)) (x0 : Nat) (x1 : Int32) (x2 : Int32) (d : Dt) : Option (Int32 × Dt) :=
  aw_chk (aw_O σ 4 8 x0) (if (d.1 x0 2) ≤ x2 then k4 x1 d else f_X4_costOfOrder_L17 σ aw_FU (fun x3_11 d_12 => (σ.2.2 x0 1).bind (fun q_13 => aw_chk (aw_I σ 20 q_13 x2) (kb4 (x1 + ((d_12.1 q_13 x2.toNatClampNeg) * x3_11)) (x2 + 1) d_12))) x0 x1 x2 ((0 : Int32)) ((0 : Int32)) d)
def f_X4_costOfOrder_L4 (σ : Sg) (n : Nat) (k4 : Int32 → Dt → Option (Int32 × Dt)) (x0 : Nat) : Int32 → Int32 → Dt → Option (Int32 × Dt) := match n with
  | 0 => fun _ _ _ => none
  | n + 1 => fun x1 x2 d => f_X4_costOfOrder_B4 σ (f_X4_costOfOrder_L4 σ n k4 x0) k4 x0 x1 x2 d
def f_X4_costOfOrder (σ : Sg) (x0 : Nat) (d : Dt) : Option (Int32 × Dt) :=
  f_X4_costOfOrder_L4 σ aw_FU (fun x1_16 d_17 => some (x1_16, d_17)) x0 ((0 : Int32)) ((0 : Int32)) d
section W_X4_costOfOrder
variable {p : Program} {l : Launch} {e : Env} {s : State} {m : MethodId} {args : Array Value} {below : List Frame} {meth : Method} {c : Code}
variable {D : va_G} {cA : Nat → ClassId} {base : Nat} {ad : Nat → Nat} {σ : Sg}
set_option maxHeartbeats 4000000 in
set_option maxRecDepth 100000 in
theorem w_X4_costOfOrder_J50 {z : Int32 × Dt} (X : aw_X p c cX4_costOfOrder 5 s RX4 m meth (some .int)) {kb17 : Int32 → Int32 → Dt → Option (Int32 × Dt)} {x0 : Nat} {x1 : Int32} {x2 : Int32} {x3 : Int32} {x4 : Int32} {d : Dt} (hf : f_X4_costOfOrder_J50 σ kb17 x0 x1 x2 x3 x4 d = some z) (hkb17 : ∀ (y3 : Int32) (y4 : Int32) (d : Dt), kb17 y3 y4 d = some z → ∀ (H : Heap) (locs : List Loc) (ls : Array Slot), lv_has ls 5 [(0, .ref (ad x0)), (1, .int x1), (2, .int x2), (3, .int y3), (4, .int y4)] → aw_G D cA base ad σ d s H locs → W p l e rm_X4_costOfOrder s m args below meth c H locs 0 0 (aw_Ei D cA base ad σ below args s z) (F0 m 17 ls [])) {H : Heap} {locs : List Loc} {ls : Array Slot} (hl : lv_has ls 5 [(0, .ref (ad x0)), (1, .int x1), (2, .int x2), (3, .int x3), (4, .int x4)]) (G : aw_G D cA base ad σ d s H locs) : W p l e rm_X4_costOfOrder s m args below meth c H locs 0 0 (aw_Ei D cA base ad σ below args s z) (F0 m 50 ls []) := by
  have hx := X.1; have hb := X.2.1; have hml := X.2.2.1; have hown := X.2.2.2.1
  unfold f_X4_costOfOrder_J50 at hf
  refine lv_iinc (v := x4 + 1) (lv' := [(4, .int (x4 + 1)), (0, .ref (ad x0)), (1, .int x1), (2, .int x2), (3, .int x3)]) hx hb dX4_costOfOrder_50 hl (k := 4) rfl rfl (by decide) rfl (fun ls hl => ?_)
  refine lv_goto (tgt := 17) hx hb dX4_costOfOrder_53 (by decide) ?_
  exact hkb17 _ _ _ hf _ _ _ (lv_sub hl [1, 2, 3, 4, 0] rfl) G
set_option maxHeartbeats 4000000 in
set_option maxRecDepth 100000 in
theorem w_X4_costOfOrder_B17 {z : Int32 × Dt} (X : aw_X p c cX4_costOfOrder 5 s RX4 m meth (some .int)) {kb17 : Int32 → Int32 → Dt → Option (Int32 × Dt)} {k17 : Int32 → Dt → Option (Int32 × Dt)} {x0 : Nat} {x1 : Int32} {x2 : Int32} {x3 : Int32} {x4 : Int32} {d : Dt} (hf : f_X4_costOfOrder_B17 σ kb17 k17 x0 x1 x2 x3 x4 d = some z) (hkb17 : ∀ (y3 : Int32) (y4 : Int32) (d : Dt), kb17 y3 y4 d = some z → ∀ (H : Heap) (locs : List Loc) (ls : Array Slot), lv_has ls 5 [(0, .ref (ad x0)), (1, .int x1), (2, .int x2), (3, .int y3), (4, .int y4)] → aw_G D cA base ad σ d s H locs → W p l e rm_X4_costOfOrder s m args below meth c H locs 0 0 (aw_Ei D cA base ad σ below args s z) (F0 m 17 ls [])) (hk17 : ∀ (y3 : Int32) (d : Dt), k17 y3 d = some z → ∀ (H : Heap) (locs : List Loc) (ls : Array Slot), lv_has ls 5 [(0, .ref (ad x0)), (1, .int x1), (2, .int x2), (3, .int y3)] → aw_G D cA base ad σ d s H locs → W p l e rm_X4_costOfOrder s m args below meth c H locs 0 0 (aw_Ei D cA base ad σ below args s z) (F0 m 56 ls [])) {H : Heap} {locs : List Loc} {ls : Array Slot} (hl : lv_has ls 5 [(0, .ref (ad x0)), (1, .int x1), (2, .int x2), (3, .int x3), (4, .int x4)]) (G : aw_G D cA base ad σ d s H locs) : W p l e rm_X4_costOfOrder s m args below meth c H locs 0 0 (aw_Ei D cA base ad σ below args s z) (F0 m 17 ls []) := by
  have hx := X.1; have hb := X.2.1; have hml := X.2.2.1; have hown := X.2.2.2.1
  unfold f_X4_costOfOrder_B17 at hf
  refine lv_iload hx hb dX4_costOfOrder_17 (lv_at hl 4 rfl) ?_
  refine lv_aload_n hx hb dX4_costOfOrder_19 rfl (lv_at hl 0 rfl) ?_
  obtain ⟨hc_2, hf⟩ := aw_chk_some hf
  refine gf_X4_30 hx hb G hown hc_2 dX4_costOfOrder_20 ?_
  refine lv_icmp_ge (tgt := 56) hx hb dX4_costOfOrder_23 (by decide) (fun hc => ?_) (fun hc => ?_)
  · have hf := aw_ite_t hc hf
    exact hk17 _ _ hf _ _ _ (lv_sub hl [0, 1, 2, 3] rfl) G
  · have hf := aw_ite_f hc hf
    refine lv_aload_n hx hb dX4_costOfOrder_26 rfl (lv_at hl 0 rfl) ?_
    obtain ⟨q_3, hq_4, hf⟩ := aw_bind_some hf
    refine gf_X4_9 hx hb G hown hc_2 hq_4 dX4_costOfOrder_27 ?_
    refine lv_iload_n hx hb dX4_costOfOrder_30 rfl (lv_at hl 2 rfl) ?_
    obtain ⟨hc_5, hf⟩ := aw_chk_some hf
    refine aw_lal hx hb G hc_5 dX4_costOfOrder_31 ?_
    refine lv_aload_n hx hb dX4_costOfOrder_32 rfl (lv_at hl 0 rfl) ?_
    obtain ⟨q_6, hq_7, hf⟩ := aw_bind_some hf
    refine gf_X4_27 hx hb G hown hc_2 hq_7 dX4_costOfOrder_33 ?_
    refine lv_iload hx hb dX4_costOfOrder_36 (lv_at hl 4 rfl) ?_
    obtain ⟨hc_8, hf⟩ := aw_chk_some hf
    refine aw_ial hx hb G hc_8 dX4_costOfOrder_38 ?_
    obtain ⟨z_9, hz_10, hf⟩ := aw_bind_some hf
    refine aw_NI (As := [.long (d.2 q_3 x2.toNatClampNeg), .int (d.1 q_6 x4.toNatClampNeg)]) (rest := []) X G hl.1 cr_X4_62 (c_X10_has l hz_10) ⟨rfl, rfl⟩ rfl rfl rfl ⟨Nat.le_of_ble_eq_true rfl, Nat.le_of_ble_eq_true rfl⟩ (Nat.le_of_ble_eq_true rfl) dX4_costOfOrder_39 ⟨Nat.zero_le _, Nat.zero_le _⟩ (fun H locs G => ?_)
    refine lv_if_eq (tgt := 50) hx hb dX4_costOfOrder_42 (by decide) (fun hc => ?_) (fun hc => ?_)
    · have hf := aw_ite_t hc hf
      exact w_X4_costOfOrder_J50 X hf hkb17 (lv_sub hl [0, 1, 2, 3, 4] rfl) G
    · have hf := aw_ite_f hc hf
      refine lv_iload hx hb dX4_costOfOrder_45 (lv_at hl 4 rfl) ?_
      refine lv_iconst (v := (1 : Int32)) hx hb dX4_costOfOrder_47 (by decide) ?_
      refine lv_iadd hx hb dX4_costOfOrder_48 ?_
      refine lv_istore_n (lv' := [(3, .int (x4 + ((1 : Int32)))), (0, .ref (ad x0)), (1, .int x1), (2, .int x2), (4, .int x4)]) hx hb dX4_costOfOrder_49 rfl hl (by decide) rfl (fun ls hl => ?_)
      exact w_X4_costOfOrder_J50 X hf hkb17 (lv_sub hl [1, 2, 3, 0, 4] rfl) G
theorem w_X4_costOfOrder_L17 {z : Int32 × Dt} (X : aw_X p c cX4_costOfOrder 5 s RX4 m meth (some .int)) {k17 : Int32 → Dt → Option (Int32 × Dt)} {x0 : Nat} {x1 : Int32} {x2 : Int32} (n : Nat) {x3 : Int32} {x4 : Int32} {d : Dt} (hf : f_X4_costOfOrder_L17 σ n k17 x0 x1 x2 x3 x4 d = some z) (hk17 : ∀ (y3 : Int32) (d : Dt), k17 y3 d = some z → ∀ (H : Heap) (locs : List Loc) (ls : Array Slot), lv_has ls 5 [(0, .ref (ad x0)), (1, .int x1), (2, .int x2), (3, .int y3)] → aw_G D cA base ad σ d s H locs → W p l e rm_X4_costOfOrder s m args below meth c H locs 0 0 (aw_Ei D cA base ad σ below args s z) (F0 m 56 ls [])) {H : Heap} {locs : List Loc} {ls : Array Slot} (hl : lv_has ls 5 [(0, .ref (ad x0)), (1, .int x1), (2, .int x2), (3, .int x3), (4, .int x4)]) (G : aw_G D cA base ad σ d s H locs) : W p l e rm_X4_costOfOrder s m args below meth c H locs 0 0 (aw_Ei D cA base ad σ below args s z) (F0 m 17 ls []) := by
  induction n generalizing x3 x4 d H locs ls with
  | zero => exact absurd (show (none : Option (Int32 × Dt)) = some z from hf) (by simp)
  | succ n ih => exact w_X4_costOfOrder_B17 X (kb17 := f_X4_costOfOrder_L17 σ n k17 x0 x1 x2) hf  (fun x3 x4 d hf H locs ls hl G => ih hf hl G) hk17 hl G
set_option maxHeartbeats 4000000 in
set_option maxRecDepth 100000 in
theorem w_X4_costOfOrder_B4 {z : Int32 × Dt} (X : aw_X p c cX4_costOfOrder 5 s RX4 m meth (some .int)) {kb4 : Int32 → Int32 → Dt → Option (Int32 × Dt)} {k4 : Int32 → Dt → Option (Int32 × Dt)} {x0 : Nat} {x1 : Int32} {x2 : Int32} {d : Dt} (hf : f_X4_costOfOrder_B4 σ kb4 k4 x0 x1 x2 d = some z) (hkb4 : ∀ (y1 : Int32) (y2 : Int32) (d : Dt), kb4 y1 y2 d = some z → ∀ (H : Heap) (locs : List Loc) (ls : Array Slot), lv_has ls 5 [(0, .ref (ad x0)), (1, .int y1), (2, .int y2)] → aw_G D cA base ad σ d s H locs → W p l e rm_X4_costOfOrder s m args below meth c H locs 0 0 (aw_Ei D cA base ad σ below args s z) (F0 m 4 ls [])) (hk4 : ∀ (y1 : Int32) (d : Dt), k4 y1 d = some z → ∀ (H : Heap) (locs : List Loc) (ls : Array Slot), lv_has ls 5 [(1, .int y1)] → aw_G D cA base ad σ d s H locs → W p l e rm_X4_costOfOrder s m args below meth c H locs 0 0 (aw_Ei D cA base ad σ below args s z) (F0 m 73 ls [])) {H : Heap} {locs : List Loc} {ls : Array Slot} (hl : lv_has ls 5 [(0, .ref (ad x0)), (1, .int x1), (2, .int x2)]) (G : aw_G D cA base ad σ d s H locs) : W p l e rm_X4_costOfOrder s m args below meth c H locs 0 0 (aw_Ei D cA base ad σ below args s z) (F0 m 4 ls []) := by
  have hx := X.1; have hb := X.2.1; have hml := X.2.2.1; have hown := X.2.2.2.1
  unfold f_X4_costOfOrder_B4 at hf
  refine lv_iload_n hx hb dX4_costOfOrder_4 rfl (lv_at hl 2 rfl) ?_
  refine lv_aload_n hx hb dX4_costOfOrder_5 rfl (lv_at hl 0 rfl) ?_
  obtain ⟨hc_1, hf⟩ := aw_chk_some hf
  refine gf_X4_19 hx hb G hown hc_1 dX4_costOfOrder_6 ?_
  refine lv_icmp_ge (tgt := 73) hx hb dX4_costOfOrder_9 (by decide) (fun hc => ?_) (fun hc => ?_)
  · have hf := aw_ite_t hc hf
    exact hk4 _ _ hf _ _ _ (lv_sub hl [1] rfl) G
  · have hf := aw_ite_f hc hf
    refine lv_iconst (v := (0 : Int32)) hx hb dX4_costOfOrder_12 (by decide) ?_
    refine lv_istore_n (lv' := [(3, .int ((0 : Int32))), (0, .ref (ad x0)), (1, .int x1), (2, .int x2)]) hx hb dX4_costOfOrder_13 rfl hl (by decide) rfl (fun ls hl => ?_)
    refine lv_iconst (v := (0 : Int32)) hx hb dX4_costOfOrder_14 (by decide) ?_
    refine lv_istore (lv' := [(4, .int ((0 : Int32))), (3, .int ((0 : Int32))), (0, .ref (ad x0)), (1, .int x1), (2, .int x2)]) hx hb dX4_costOfOrder_15 hl (by decide) rfl (fun ls hl => ?_)
    refine w_X4_costOfOrder_L17 X aw_FU hf  (fun x3_11 d_12 hf H locs ls hl G => ?_) (lv_sub hl [2, 3, 4, 1, 0] rfl) G
    refine lv_iload_n hx hb dX4_costOfOrder_56 rfl (lv_at hl 1 rfl) ?_
    refine lv_aload_n hx hb dX4_costOfOrder_57 rfl (lv_at hl 0 rfl) ?_
    obtain ⟨q_13, hq_14, hf⟩ := aw_bind_some hf
    refine gf_X4_15 hx hb G hown hc_1 hq_14 dX4_costOfOrder_58 ?_
    refine lv_iload_n hx hb dX4_costOfOrder_61 rfl (lv_at hl 2 rfl) ?_
    obtain ⟨hc_15, hf⟩ := aw_chk_some hf
    refine aw_ial hx hb G hc_15 dX4_costOfOrder_62 ?_
    refine lv_iload_n hx hb dX4_costOfOrder_63 rfl (lv_at hl 3 rfl) ?_
    refine lv_imul hx hb dX4_costOfOrder_64 ?_
    refine lv_iadd hx hb dX4_costOfOrder_65 ?_
    refine lv_istore_n (lv' := [(1, .int (x1 + ((d_12.1 q_13 x2.toNatClampNeg) * x3_11))), (0, .ref (ad x0)), (2, .int x2), (3, .int x3_11)]) hx hb dX4_costOfOrder_66 rfl hl (by decide) rfl (fun ls hl => ?_)
    refine lv_iinc (v := x2 + 1) (lv' := [(2, .int (x2 + 1)), (1, .int (x1 + ((d_12.1 q_13 x2.toNatClampNeg) * x3_11))), (0, .ref (ad x0)), (3, .int x3_11)]) hx hb dX4_costOfOrder_67 hl (k := 2) rfl rfl (by decide) rfl (fun ls hl => ?_)
    refine lv_goto (tgt := 4) hx hb dX4_costOfOrder_70 (by decide) ?_
    exact hkb4 _ _ _ hf _ _ _ (lv_sub hl [2, 1, 0] rfl) G
theorem w_X4_costOfOrder_L4 {z : Int32 × Dt} (X : aw_X p c cX4_costOfOrder 5 s RX4 m meth (some .int)) {k4 : Int32 → Dt → Option (Int32 × Dt)} {x0 : Nat} (n : Nat) {x1 : Int32} {x2 : Int32} {d : Dt} (hf : f_X4_costOfOrder_L4 σ n k4 x0 x1 x2 d = some z) (hk4 : ∀ (y1 : Int32) (d : Dt), k4 y1 d = some z → ∀ (H : Heap) (locs : List Loc) (ls : Array Slot), lv_has ls 5 [(1, .int y1)] → aw_G D cA base ad σ d s H locs → W p l e rm_X4_costOfOrder s m args below meth c H locs 0 0 (aw_Ei D cA base ad σ below args s z) (F0 m 73 ls [])) {H : Heap} {locs : List Loc} {ls : Array Slot} (hl : lv_has ls 5 [(0, .ref (ad x0)), (1, .int x1), (2, .int x2)]) (G : aw_G D cA base ad σ d s H locs) : W p l e rm_X4_costOfOrder s m args below meth c H locs 0 0 (aw_Ei D cA base ad σ below args s z) (F0 m 4 ls []) := by
  induction n generalizing x1 x2 d H locs ls with
  | zero => exact absurd (show (none : Option (Int32 × Dt)) = some z from hf) (by simp)
  | succ n ih => exact w_X4_costOfOrder_B4 X (kb4 := f_X4_costOfOrder_L4 σ n k4 x0) hf  (fun x1 x2 d hf H locs ls hl G => ih hf hl G) hk4 hl G
end W_X4_costOfOrder
set_option maxHeartbeats 4000000 in
set_option maxRecDepth 100000 in
theorem c_X4_costOfOrder (l : Launch) {σ : Sg} {x0 : Nat} {d : Dt} {z : Int32 × Dt} (hf : f_X4_costOfOrder σ x0 d = some z) : aw_Mi l yX4_costOfOrder (Cond.code yX4_costOfOrder cX4_costOfOrder 5 (some .int)) rm_X4_costOfOrder (fun ad => [.ref (ad x0)]) σ d z := by
  intro D cA base ad
  refine aw_ofW (own := RX4) (cc := cX4_costOfOrder) (nL := 5) (ret := some .int) (by decide) rfl rfl ?_
  intro p e s m below meth c X hnm G
  have hx := X.1; have hb := X.2.1; have hml := X.2.2.1; have hown := X.2.2.2.1
  refine aw_ls (lv := [(0, .ref (ad x0))]) (Nat.le_of_ble_eq_true rfl) rfl (fun ls hl => ?_)
  unfold f_X4_costOfOrder at hf
  refine lv_iconst (v := (0 : Int32)) hx hb dX4_costOfOrder_0 (by decide) ?_
  refine lv_istore_n (lv' := [(1, .int ((0 : Int32))), (0, .ref (ad x0))]) hx hb dX4_costOfOrder_1 rfl hl (by decide) rfl (fun ls hl => ?_)
  refine lv_iconst (v := (0 : Int32)) hx hb dX4_costOfOrder_2 (by decide) ?_
  refine lv_istore_n (lv' := [(2, .int ((0 : Int32))), (1, .int ((0 : Int32))), (0, .ref (ad x0))]) hx hb dX4_costOfOrder_3 rfl hl (by decide) rfl (fun ls hl => ?_)
  refine w_X4_costOfOrder_L4 X aw_FU hf  (fun x1_16 d_17 hf H locs ls hl G => ?_) (lv_sub hl [2, 1, 0] rfl) G
  refine lv_iload_n hx hb dX4_costOfOrder_73 rfl (lv_at hl 0 rfl) ?_
  exact aw_reti X G hf dX4_costOfOrder_74
def rm_X4_listLearnable : Room := { frames := 1, cells := 0, slots := 0, locals := 22 }
def f_X4_listLearnable_J37 (σ : Sg) (kb4 : Int32 → Int32 → Dt → Option (Int32 × Dt)) (x0 : Nat) (x1 : Int32) (x2 : Int32) (d : Dt) : Option (Int32 × Dt) :=
  kb4 x1 (x2 + 1) d
def f_X4_listLearnable_B4 (σ : Sg) (kb4 : Int32 → Int32 → Dt → Option (Int32 × Dt)) (k4 : Int32 → Dt → Option (Int32 × Dt)) (x0 : Nat) (x1 : Int32) (x2 : Int32) (d : Dt) : Option (Int32 × Dt) :=
  if ((50 : Int32)) ≤ x2 then k4 x1 d else if ((10 : Int32)) ≤ x1 then k4 x1 d else aw_chk (aw_O σ 4 8 x0) ((f_X10_has σ (d.2 x0 3) x2 d).bind (fun z_2 => if z_2.1 = 0 then f_X4_listLearnable_J37 σ kb4 x0 x1 x2 z_2.2 else (σ.2.2 x0 7).bind (fun q_4 => aw_chk (aw_I σ 20 q_4 x1) (f_X4_listLearnable_J37 σ kb4 x0 (x1 + 1) x2 (aw_sI z_2.2 q_4 x1.toNatClampNeg x2)))))
def f_X4_listLearnable_L4 (σ : Sg) (n : Nat) (k4 : Int32 → Dt → Option (Int32 × Dt)) (x0 : Nat) : Int32 → Int32 → Dt → Option (Int32 × Dt) := match n with
  | 0 => fun _ _ _ => none
  | n + 1 => fun x1 x2 d => f_X4_listLearnable_B4 σ (f_X4_listLearnable_L4 σ n k4 x0) k4 x0 x1 x2 d
def f_X4_listLearnable_J43 (σ : Sg) (x1 : Int32) (d : Dt) : Option (Int32 × Dt) :=
  some (x1, d)
def f_X4_listLearnable (σ : Sg) (x0 : Nat) (d : Dt) : Option (Int32 × Dt) :=
  f_X4_listLearnable_L4 σ aw_FU (fun x1_7 d_8 => f_X4_listLearnable_J43 σ x1_7 d_8) x0 ((0 : Int32)) ((0 : Int32)) d
section W_X4_listLearnable
variable {p : Program} {l : Launch} {e : Env} {s : State} {m : MethodId} {args : Array Value} {below : List Frame} {meth : Method} {c : Code}
variable {D : va_G} {cA : Nat → ClassId} {base : Nat} {ad : Nat → Nat} {σ : Sg}
set_option maxHeartbeats 4000000 in
set_option maxRecDepth 100000 in
theorem w_X4_listLearnable_J37 {z : Int32 × Dt} (X : aw_X p c cX4_listLearnable 3 s RX4 m meth (some .int)) {kb4 : Int32 → Int32 → Dt → Option (Int32 × Dt)} {x0 : Nat} {x1 : Int32} {x2 : Int32} {d : Dt} (hf : f_X4_listLearnable_J37 σ kb4 x0 x1 x2 d = some z) (hkb4 : ∀ (y1 : Int32) (y2 : Int32) (d : Dt), kb4 y1 y2 d = some z → ∀ (H : Heap) (locs : List Loc) (ls : Array Slot), lv_has ls 3 [(0, .ref (ad x0)), (1, .int y1), (2, .int y2)] → aw_G D cA base ad σ d s H locs → W p l e rm_X4_listLearnable s m args below meth c H locs 0 0 (aw_Ei D cA base ad σ below args s z) (F0 m 4 ls [])) {H : Heap} {locs : List Loc} {ls : Array Slot} (hl : lv_has ls 3 [(0, .ref (ad x0)), (1, .int x1), (2, .int x2)]) (G : aw_G D cA base ad σ d s H locs) : W p l e rm_X4_listLearnable s m args below meth c H locs 0 0 (aw_Ei D cA base ad σ below args s z) (F0 m 37 ls []) := by
  have hx := X.1; have hb := X.2.1; have hml := X.2.2.1; have hown := X.2.2.2.1
  unfold f_X4_listLearnable_J37 at hf
  refine lv_iinc (v := x2 + 1) (lv' := [(2, .int (x2 + 1)), (0, .ref (ad x0)), (1, .int x1)]) hx hb dX4_listLearnable_37 hl (k := 2) rfl rfl (by decide) rfl (fun ls hl => ?_)
  refine lv_goto (tgt := 4) hx hb dX4_listLearnable_40 (by decide) ?_
  exact hkb4 _ _ _ hf _ _ _ (lv_sub hl [1, 2, 0] rfl) G
set_option maxHeartbeats 4000000 in
set_option maxRecDepth 100000 in
theorem w_X4_listLearnable_B4 {z : Int32 × Dt} (X : aw_X p c cX4_listLearnable 3 s RX4 m meth (some .int)) {kb4 : Int32 → Int32 → Dt → Option (Int32 × Dt)} {k4 : Int32 → Dt → Option (Int32 × Dt)} {x0 : Nat} {x1 : Int32} {x2 : Int32} {d : Dt} (hf : f_X4_listLearnable_B4 σ kb4 k4 x0 x1 x2 d = some z) (hkb4 : ∀ (y1 : Int32) (y2 : Int32) (d : Dt), kb4 y1 y2 d = some z → ∀ (H : Heap) (locs : List Loc) (ls : Array Slot), lv_has ls 3 [(0, .ref (ad x0)), (1, .int y1), (2, .int y2)] → aw_G D cA base ad σ d s H locs → W p l e rm_X4_listLearnable s m args below meth c H locs 0 0 (aw_Ei D cA base ad σ below args s z) (F0 m 4 ls [])) (hk4 : ∀ (y1 : Int32) (d : Dt), k4 y1 d = some z → ∀ (H : Heap) (locs : List Loc) (ls : Array Slot), lv_has ls 3 [(1, .int y1)] → aw_G D cA base ad σ d s H locs → W p l e rm_X4_listLearnable s m args below meth c H locs 0 0 (aw_Ei D cA base ad σ below args s z) (F0 m 43 ls [])) {H : Heap} {locs : List Loc} {ls : Array Slot} (hl : lv_has ls 3 [(0, .ref (ad x0)), (1, .int x1), (2, .int x2)]) (G : aw_G D cA base ad σ d s H locs) : W p l e rm_X4_listLearnable s m args below meth c H locs 0 0 (aw_Ei D cA base ad σ below args s z) (F0 m 4 ls []) := by
  have hx := X.1; have hb := X.2.1; have hml := X.2.2.1; have hown := X.2.2.2.1
  unfold f_X4_listLearnable_B4 at hf
  refine lv_iload_n hx hb dX4_listLearnable_4 rfl (lv_at hl 2 rfl) ?_
  refine lv_bipush (v := (50 : Int32)) hx hb dX4_listLearnable_5 (by decide) ?_
  refine lv_icmp_ge (tgt := 43) hx hb dX4_listLearnable_7 (by decide) (fun hc => ?_) (fun hc => ?_)
  · have hf := aw_ite_t hc hf
    exact hk4 _ _ hf _ _ _ (lv_sub hl [1] rfl) G
  · have hf := aw_ite_f hc hf
    refine lv_iload_n hx hb dX4_listLearnable_10 rfl (lv_at hl 1 rfl) ?_
    refine lv_bipush (v := (10 : Int32)) hx hb dX4_listLearnable_11 (by decide) ?_
    refine lv_icmp_ge (tgt := 43) hx hb dX4_listLearnable_13 (by decide) (fun hc => ?_) (fun hc => ?_)
    · have hf := aw_ite_t hc hf
      exact hk4 _ _ hf _ _ _ (lv_sub hl [1] rfl) G
    · have hf := aw_ite_f hc hf
      refine lv_aload_n hx hb dX4_listLearnable_16 rfl (lv_at hl 0 rfl) ?_
      obtain ⟨hc_1, hf⟩ := aw_chk_some hf
      refine gf_X4_23 hx hb G hown hc_1 dX4_listLearnable_17 ?_
      refine lv_iload_n hx hb dX4_listLearnable_20 rfl (lv_at hl 2 rfl) ?_
      obtain ⟨z_2, hz_3, hf⟩ := aw_bind_some hf
      refine aw_NI (As := [.long (d.2 x0 3), .int x2]) (rest := []) X G hl.1 cr_X4_62 (c_X10_has l hz_3) ⟨rfl, rfl⟩ rfl rfl rfl ⟨Nat.le_of_ble_eq_true rfl, Nat.le_of_ble_eq_true rfl⟩ (Nat.le_of_ble_eq_true rfl) dX4_listLearnable_21 ⟨Nat.zero_le _, Nat.zero_le _⟩ (fun H locs G => ?_)
      refine lv_if_eq (tgt := 37) hx hb dX4_listLearnable_24 (by decide) (fun hc => ?_) (fun hc => ?_)
      · have hf := aw_ite_t hc hf
        exact w_X4_listLearnable_J37 X hf hkb4 (lv_sub hl [0, 1, 2] rfl) G
      · have hf := aw_ite_f hc hf
        refine lv_aload_n hx hb dX4_listLearnable_27 rfl (lv_at hl 0 rfl) ?_
        obtain ⟨q_4, hq_5, hf⟩ := aw_bind_some hf
        refine gf_X4_36 hx hb G hown hc_1 hq_5 dX4_listLearnable_28 ?_
        refine lv_iload_n hx hb dX4_listLearnable_31 rfl (lv_at hl 1 rfl) ?_
        refine lv_iload_n hx hb dX4_listLearnable_32 rfl (lv_at hl 2 rfl) ?_
        obtain ⟨hc_6, hf⟩ := aw_chk_some hf
        refine aw_ias hx hb G hc_6 dX4_listLearnable_33 (fun H locs G => ?_)
        refine lv_iinc (v := x1 + 1) (lv' := [(1, .int (x1 + 1)), (0, .ref (ad x0)), (2, .int x2)]) hx hb dX4_listLearnable_34 hl (k := 1) rfl rfl (by decide) rfl (fun ls hl => ?_)
        exact w_X4_listLearnable_J37 X hf hkb4 (lv_sub hl [1, 0, 2] rfl) G
theorem w_X4_listLearnable_L4 {z : Int32 × Dt} (X : aw_X p c cX4_listLearnable 3 s RX4 m meth (some .int)) {k4 : Int32 → Dt → Option (Int32 × Dt)} {x0 : Nat} (n : Nat) {x1 : Int32} {x2 : Int32} {d : Dt} (hf : f_X4_listLearnable_L4 σ n k4 x0 x1 x2 d = some z) (hk4 : ∀ (y1 : Int32) (d : Dt), k4 y1 d = some z → ∀ (H : Heap) (locs : List Loc) (ls : Array Slot), lv_has ls 3 [(1, .int y1)] → aw_G D cA base ad σ d s H locs → W p l e rm_X4_listLearnable s m args below meth c H locs 0 0 (aw_Ei D cA base ad σ below args s z) (F0 m 43 ls [])) {H : Heap} {locs : List Loc} {ls : Array Slot} (hl : lv_has ls 3 [(0, .ref (ad x0)), (1, .int x1), (2, .int x2)]) (G : aw_G D cA base ad σ d s H locs) : W p l e rm_X4_listLearnable s m args below meth c H locs 0 0 (aw_Ei D cA base ad σ below args s z) (F0 m 4 ls []) := by
  induction n generalizing x1 x2 d H locs ls with
  | zero => exact absurd (show (none : Option (Int32 × Dt)) = some z from hf) (by simp)
  | succ n ih => exact w_X4_listLearnable_B4 X (kb4 := f_X4_listLearnable_L4 σ n k4 x0) hf  (fun x1 x2 d hf H locs ls hl G => ih hf hl G) hk4 hl G
set_option maxHeartbeats 4000000 in
set_option maxRecDepth 100000 in
theorem w_X4_listLearnable_J43 {z : Int32 × Dt} (X : aw_X p c cX4_listLearnable 3 s RX4 m meth (some .int)) {x1 : Int32} {d : Dt} (hf : f_X4_listLearnable_J43 σ x1 d = some z)  {H : Heap} {locs : List Loc} {ls : Array Slot} (hl : lv_has ls 3 [(1, .int x1)]) (G : aw_G D cA base ad σ d s H locs) : W p l e rm_X4_listLearnable s m args below meth c H locs 0 0 (aw_Ei D cA base ad σ below args s z) (F0 m 43 ls []) := by
  have hx := X.1; have hb := X.2.1; have hml := X.2.2.1; have hown := X.2.2.2.1
  unfold f_X4_listLearnable_J43 at hf
  refine lv_iload_n hx hb dX4_listLearnable_43 rfl (lv_at hl 0 rfl) ?_
  exact aw_reti X G hf dX4_listLearnable_44
end W_X4_listLearnable
set_option maxHeartbeats 4000000 in
set_option maxRecDepth 100000 in
theorem c_X4_listLearnable (l : Launch) {σ : Sg} {x0 : Nat} {d : Dt} {z : Int32 × Dt} (hf : f_X4_listLearnable σ x0 d = some z) : aw_Mi l yX4_listLearnable (Cond.code yX4_listLearnable cX4_listLearnable 3 (some .int)) rm_X4_listLearnable (fun ad => [.ref (ad x0)]) σ d z := by
  intro D cA base ad
  refine aw_ofW (own := RX4) (cc := cX4_listLearnable) (nL := 3) (ret := some .int) (by decide) rfl rfl ?_
  intro p e s m below meth c X hnm G
  have hx := X.1; have hb := X.2.1; have hml := X.2.2.1; have hown := X.2.2.2.1
  refine aw_ls (lv := [(0, .ref (ad x0))]) (Nat.le_of_ble_eq_true rfl) rfl (fun ls hl => ?_)
  unfold f_X4_listLearnable at hf
  refine lv_iconst (v := (0 : Int32)) hx hb dX4_listLearnable_0 (by decide) ?_
  refine lv_istore_n (lv' := [(1, .int ((0 : Int32))), (0, .ref (ad x0))]) hx hb dX4_listLearnable_1 rfl hl (by decide) rfl (fun ls hl => ?_)
  refine lv_iconst (v := (0 : Int32)) hx hb dX4_listLearnable_2 (by decide) ?_
  refine lv_istore_n (lv' := [(2, .int ((0 : Int32))), (1, .int ((0 : Int32))), (0, .ref (ad x0))]) hx hb dX4_listLearnable_3 rfl hl (by decide) rfl (fun ls hl => ?_)
  refine w_X4_listLearnable_L4 X aw_FU hf  (fun x1_7 d_8 hf H locs ls hl G => ?_) (lv_sub hl [2, 1, 0] rfl) G
  exact w_X4_listLearnable_J43 X hf  (lv_sub hl [0] rfl) G
def rm_X4_signsIn : Room := { frames := 0, cells := 0, slots := 0, locals := 0 }
def f_X4_signsIn_J32 (σ : Sg) (kb5 : Int64 → Int32 → Dt → Option (Int64 × Dt)) (x0 : Nat) (x1 : Int32) (x2 : Int32) (x3 : Int64) (x5 : Int32) (d : Dt) : Option (Int64 × Dt) :=
  kb5 x3 (x5 + 1) d
def f_X4_signsIn_B5 (σ : Sg) (kb5 : Int64 → Int32 → Dt → Option (Int64 × Dt)) (k5 : Int64 → Dt → Option (Int64 × Dt)) (x0 : Nat) (x1 : Int32) (x2 : Int32) (x3 : Int64) (x5 : Int32) (d : Dt) : Option (Int64 × Dt) :=
  if x2 ≤ x5 then k5 x3 d else if ((x1 >>> (x5 &&& 31)) &&& ((1 : Int32))) = 0 then f_X4_signsIn_J32 σ kb5 x0 x1 x2 x3 x5 d else aw_chk (aw_O σ 4 8 x0) ((σ.2.2 x0 7).bind (fun q_2 => aw_chk (aw_I σ 20 q_2 x5) (f_X4_signsIn_J32 σ kb5 x0 x1 x2 (x3 ||| (((1 : Int64)) <<< ((d.1 q_2 x5.toNatClampNeg).toInt64 &&& 63))) x5 d)))
def f_X4_signsIn_L5 (σ : Sg) (n : Nat) (k5 : Int64 → Dt → Option (Int64 × Dt)) (x0 : Nat) (x1 : Int32) (x2 : Int32) : Int64 → Int32 → Dt → Option (Int64 × Dt) := match n with
  | 0 => fun _ _ _ => none
  | n + 1 => fun x3 x5 d => f_X4_signsIn_B5 σ (f_X4_signsIn_L5 σ n k5 x0 x1 x2) k5 x0 x1 x2 x3 x5 d
def f_X4_signsIn (σ : Sg) (x0 : Nat) (x1 : Int32) (x2 : Int32) (d : Dt) : Option (Int64 × Dt) :=
  f_X4_signsIn_L5 σ aw_FU (fun x3_5 d_6 => some (x3_5, d_6)) x0 x1 x2 ((0 : Int64)) ((0 : Int32)) d
section W_X4_signsIn
variable {p : Program} {l : Launch} {e : Env} {s : State} {m : MethodId} {args : Array Value} {below : List Frame} {meth : Method} {c : Code}
variable {D : va_G} {cA : Nat → ClassId} {base : Nat} {ad : Nat → Nat} {σ : Sg}
set_option maxHeartbeats 4000000 in
set_option maxRecDepth 100000 in
theorem w_X4_signsIn_J32 {z : Int64 × Dt} (X : aw_X p c cX4_signsIn 6 s RX4 m meth (some .long)) {kb5 : Int64 → Int32 → Dt → Option (Int64 × Dt)} {x0 : Nat} {x1 : Int32} {x2 : Int32} {x3 : Int64} {x5 : Int32} {d : Dt} (hf : f_X4_signsIn_J32 σ kb5 x0 x1 x2 x3 x5 d = some z) (hkb5 : ∀ (y3 : Int64) (y5 : Int32) (d : Dt), kb5 y3 y5 d = some z → ∀ (H : Heap) (locs : List Loc) (ls : Array Slot), lv_has ls 6 [(0, .ref (ad x0)), (1, .int x1), (2, .int x2), (3, .long y3), (5, .int y5)] → aw_G D cA base ad σ d s H locs → W p l e rm_X4_signsIn s m args below meth c H locs 0 0 (aw_El D cA base ad σ below args s z) (F0 m 5 ls [])) {H : Heap} {locs : List Loc} {ls : Array Slot} (hl : lv_has ls 6 [(0, .ref (ad x0)), (1, .int x1), (2, .int x2), (3, .long x3), (5, .int x5)]) (G : aw_G D cA base ad σ d s H locs) : W p l e rm_X4_signsIn s m args below meth c H locs 0 0 (aw_El D cA base ad σ below args s z) (F0 m 32 ls []) := by
  have hx := X.1; have hb := X.2.1; have hml := X.2.2.1; have hown := X.2.2.2.1
  unfold f_X4_signsIn_J32 at hf
  refine lv_iinc (v := x5 + 1) (lv' := [(5, .int (x5 + 1)), (0, .ref (ad x0)), (1, .int x1), (2, .int x2), (3, .long x3)]) hx hb dX4_signsIn_32 hl (k := 4) rfl rfl (by decide) rfl (fun ls hl => ?_)
  refine lv_goto (tgt := 5) hx hb dX4_signsIn_35 (by decide) ?_
  exact hkb5 _ _ _ hf _ _ _ (lv_sub hl [1, 2, 3, 4, 0] rfl) G
set_option maxHeartbeats 4000000 in
set_option maxRecDepth 100000 in
theorem w_X4_signsIn_B5 {z : Int64 × Dt} (X : aw_X p c cX4_signsIn 6 s RX4 m meth (some .long)) {kb5 : Int64 → Int32 → Dt → Option (Int64 × Dt)} {k5 : Int64 → Dt → Option (Int64 × Dt)} {x0 : Nat} {x1 : Int32} {x2 : Int32} {x3 : Int64} {x5 : Int32} {d : Dt} (hf : f_X4_signsIn_B5 σ kb5 k5 x0 x1 x2 x3 x5 d = some z) (hkb5 : ∀ (y3 : Int64) (y5 : Int32) (d : Dt), kb5 y3 y5 d = some z → ∀ (H : Heap) (locs : List Loc) (ls : Array Slot), lv_has ls 6 [(0, .ref (ad x0)), (1, .int x1), (2, .int x2), (3, .long y3), (5, .int y5)] → aw_G D cA base ad σ d s H locs → W p l e rm_X4_signsIn s m args below meth c H locs 0 0 (aw_El D cA base ad σ below args s z) (F0 m 5 ls [])) (hk5 : ∀ (y3 : Int64) (d : Dt), k5 y3 d = some z → ∀ (H : Heap) (locs : List Loc) (ls : Array Slot), lv_has ls 6 [(3, .long y3)] → aw_G D cA base ad σ d s H locs → W p l e rm_X4_signsIn s m args below meth c H locs 0 0 (aw_El D cA base ad σ below args s z) (F0 m 38 ls [])) {H : Heap} {locs : List Loc} {ls : Array Slot} (hl : lv_has ls 6 [(0, .ref (ad x0)), (1, .int x1), (2, .int x2), (3, .long x3), (5, .int x5)]) (G : aw_G D cA base ad σ d s H locs) : W p l e rm_X4_signsIn s m args below meth c H locs 0 0 (aw_El D cA base ad σ below args s z) (F0 m 5 ls []) := by
  have hx := X.1; have hb := X.2.1; have hml := X.2.2.1; have hown := X.2.2.2.1
  unfold f_X4_signsIn_B5 at hf
  refine lv_iload hx hb dX4_signsIn_5 (lv_at hl 4 rfl) ?_
  refine lv_iload_n hx hb dX4_signsIn_7 rfl (lv_at hl 2 rfl) ?_
  refine lv_icmp_ge (tgt := 38) hx hb dX4_signsIn_8 (by decide) (fun hc => ?_) (fun hc => ?_)
  · have hf := aw_ite_t hc hf
    exact hk5 _ _ hf _ _ _ (lv_sub hl [3] rfl) G
  · have hf := aw_ite_f hc hf
    refine lv_iload_n hx hb dX4_signsIn_11 rfl (lv_at hl 1 rfl) ?_
    refine lv_iload hx hb dX4_signsIn_12 (lv_at hl 4 rfl) ?_
    refine lv_ishr hx hb dX4_signsIn_14 ?_
    refine lv_iconst (v := (1 : Int32)) hx hb dX4_signsIn_15 (by decide) ?_
    refine lv_iand hx hb dX4_signsIn_16 ?_
    refine lv_if_eq (tgt := 32) hx hb dX4_signsIn_17 (by decide) (fun hc => ?_) (fun hc => ?_)
    · have hf := aw_ite_t hc hf
      exact w_X4_signsIn_J32 X hf hkb5 (lv_sub hl [0, 1, 2, 3, 4] rfl) G
    · have hf := aw_ite_f hc hf
      refine lv_lload_n hx hb dX4_signsIn_20 rfl (lv_at hl 3 rfl) ?_
      refine lv_lconst (v := (1 : Int64)) hx hb dX4_signsIn_21 (by decide) ?_
      refine lv_aload_n hx hb dX4_signsIn_22 rfl (lv_at hl 0 rfl) ?_
      obtain ⟨hc_1, hf⟩ := aw_chk_some hf
      obtain ⟨q_2, hq_3, hf⟩ := aw_bind_some hf
      refine gf_X4_36 hx hb G hown hc_1 hq_3 dX4_signsIn_23 ?_
      refine lv_iload hx hb dX4_signsIn_26 (lv_at hl 4 rfl) ?_
      obtain ⟨hc_4, hf⟩ := aw_chk_some hf
      refine aw_ial hx hb G hc_4 dX4_signsIn_28 ?_
      refine lv_lshl hx hb dX4_signsIn_29 rfl ?_
      refine lv_lor hx hb dX4_signsIn_30 ?_
      refine lv_lstore_n (lv' := [(3, .long (x3 ||| (((1 : Int64)) <<< ((d.1 q_2 x5.toNatClampNeg).toInt64 &&& 63)))), (0, .ref (ad x0)), (1, .int x1), (2, .int x2), (5, .int x5)]) hx hb dX4_signsIn_31 rfl hl (by decide) rfl (fun ls hl => ?_)
      exact w_X4_signsIn_J32 X hf hkb5 (lv_sub hl [1, 2, 3, 0, 4] rfl) G
theorem w_X4_signsIn_L5 {z : Int64 × Dt} (X : aw_X p c cX4_signsIn 6 s RX4 m meth (some .long)) {k5 : Int64 → Dt → Option (Int64 × Dt)} {x0 : Nat} {x1 : Int32} {x2 : Int32} (n : Nat) {x3 : Int64} {x5 : Int32} {d : Dt} (hf : f_X4_signsIn_L5 σ n k5 x0 x1 x2 x3 x5 d = some z) (hk5 : ∀ (y3 : Int64) (d : Dt), k5 y3 d = some z → ∀ (H : Heap) (locs : List Loc) (ls : Array Slot), lv_has ls 6 [(3, .long y3)] → aw_G D cA base ad σ d s H locs → W p l e rm_X4_signsIn s m args below meth c H locs 0 0 (aw_El D cA base ad σ below args s z) (F0 m 38 ls [])) {H : Heap} {locs : List Loc} {ls : Array Slot} (hl : lv_has ls 6 [(0, .ref (ad x0)), (1, .int x1), (2, .int x2), (3, .long x3), (5, .int x5)]) (G : aw_G D cA base ad σ d s H locs) : W p l e rm_X4_signsIn s m args below meth c H locs 0 0 (aw_El D cA base ad σ below args s z) (F0 m 5 ls []) := by
  induction n generalizing x3 x5 d H locs ls with
  | zero => exact absurd (show (none : Option (Int64 × Dt)) = some z from hf) (by simp)
  | succ n ih => exact w_X4_signsIn_B5 X (kb5 := f_X4_signsIn_L5 σ n k5 x0 x1 x2) hf  (fun x3 x5 d hf H locs ls hl G => ih hf hl G) hk5 hl G
end W_X4_signsIn
set_option maxHeartbeats 4000000 in
set_option maxRecDepth 100000 in
theorem c_X4_signsIn (l : Launch) {σ : Sg} {x0 : Nat} {x1 : Int32} {x2 : Int32} {d : Dt} {z : Int64 × Dt} (hf : f_X4_signsIn σ x0 x1 x2 d = some z) : aw_Ml l yX4_signsIn (Cond.code yX4_signsIn cX4_signsIn 6 (some .long)) rm_X4_signsIn (fun ad => [.ref (ad x0), .int x1, .int x2]) σ d z := by
  intro D cA base ad
  refine aw_ofW (own := RX4) (cc := cX4_signsIn) (nL := 6) (ret := some .long) (by decide) rfl rfl ?_
  intro p e s m below meth c X hnm G
  have hx := X.1; have hb := X.2.1; have hml := X.2.2.1; have hown := X.2.2.2.1
  refine aw_ls (lv := [(0, .ref (ad x0)), (1, .int x1), (2, .int x2)]) (Nat.le_of_ble_eq_true rfl) rfl (fun ls hl => ?_)
  unfold f_X4_signsIn at hf
  refine lv_lconst (v := (0 : Int64)) hx hb dX4_signsIn_0 (by decide) ?_
  refine lv_lstore_n (lv' := [(3, .long ((0 : Int64))), (0, .ref (ad x0)), (1, .int x1), (2, .int x2)]) hx hb dX4_signsIn_1 rfl hl (by decide) rfl (fun ls hl => ?_)
  refine lv_iconst (v := (0 : Int32)) hx hb dX4_signsIn_2 (by decide) ?_
  refine lv_istore (lv' := [(5, .int ((0 : Int32))), (3, .long ((0 : Int64))), (0, .ref (ad x0)), (1, .int x1), (2, .int x2)]) hx hb dX4_signsIn_3 hl (by decide) rfl (fun ls hl => ?_)
  refine w_X4_signsIn_L5 X aw_FU hf  (fun x3_5 d_6 hf H locs ls hl G => ?_) (lv_sub hl [2, 3, 4, 1, 0] rfl) G
  refine lv_lload_n hx hb dX4_signsIn_38 rfl (lv_at hl 0 rfl) ?_
  exact aw_retl X G hf dX4_signsIn_39
def rm_X4_leastOfOrders : Room := { frames := 2, cells := 0, slots := 0, locals := 44 }
def f_X4_leastOfOrders_J84 (σ : Sg) (kb36 : Int32 → Int32 → Dt → Option (Int32 × Dt)) (x0 : Nat) (x1 : Int32) (x2 : Int32) (x3 : Int32) (x4 : Int32) (x5 : Int32) (d : Dt) : Option (Int32 × Dt) :=
  kb36 x4 (x5 + 1) d
def f_X4_leastOfOrders_J82 (σ : Sg) (kb36 : Int32 → Int32 → Dt → Option (Int32 × Dt)) (t0 : Int32) (x0 : Nat) (x1 : Int32) (x2 : Int32) (x3 : Int32) (x5 : Int32) (d : Dt) : Option (Int32 × Dt) :=
  f_X4_leastOfOrders_J84 σ kb36 x0 x1 x2 x3 t0 x5 d
def f_X4_leastOfOrders_B36 (σ : Sg) (kb36 : Int32 → Int32 → Dt → Option (Int32 × Dt)) (k36 : Int32 → Dt → Option (Int32 × Dt)) (x0 : Nat) (x1 : Int32) (x2 : Int32) (x3 : Int32) (x4 : Int32) (x5 : Int32) (d : Dt) : Option (Int32 × Dt) :=
  if x1 ≤ x5 then k36 x4 d else if ((x3 >>> (x5 &&& 31)) &&& ((1 : Int32))) = 0 then f_X4_leastOfOrders_J84 σ kb36 x0 x1 x2 x3 x4 x5 d else aw_chk (aw_O σ 4 8 x0) ((σ.2.2 x0 6).bind (fun q_10 => aw_chk (aw_I σ 20 q_10 (x3 ^^^ (((1 : Int32)) <<< (x5 &&& 31)))) (if x4 = ((-1 : Int32)) then f_X4_leastOfOrders_J82 σ kb36 (d.1 q_10 (x3 ^^^ (((1 : Int32)) <<< (x5 &&& 31))).toNatClampNeg) x0 x1 x2 x3 x5 d else f_X4_leastOfOrders_J82 σ kb36 (if (d.1 q_10 (x3 ^^^ (((1 : Int32)) <<< (x5 &&& 31))).toNatClampNeg) < x4 then (d.1 q_10 (x3 ^^^ (((1 : Int32)) <<< (x5 &&& 31))).toNatClampNeg) else x4) x0 x1 x2 x3 x5 d)))
def f_X4_leastOfOrders_L36 (σ : Sg) (n : Nat) (k36 : Int32 → Dt → Option (Int32 × Dt)) (x0 : Nat) (x1 : Int32) (x2 : Int32) (x3 : Int32) : Int32 → Int32 → Dt → Option (Int32 × Dt) := match n with
  | 0 => fun _ _ _ => none
  | n + 1 => fun x4 x5 d => f_X4_leastOfOrders_B36 σ (f_X4_leastOfOrders_L36 σ n k36 x0 x1 x2 x3) k36 x0 x1 x2 x3 x4 x5 d
def f_X4_leastOfOrders_B23 (σ : Sg) (kb23 : Int32 → Dt → Option (Int32 × Dt)) (k23 : Dt → Option (Int32 × Dt)) (x0 : Nat) (x1 : Int32) (x2 : Int32) (x3 : Int32) (d : Dt) : Option (Int32 × Dt) :=
  if (((1 : Int32)) <<< (x1 &&& 31)) ≤ x3 then k23 d else f_X4_leastOfOrders_L36 σ aw_FU (fun x4_13 d_14 => aw_chk (aw_O σ 4 8 x0) ((σ.2.2 x0 6).bind (fun q_16 => (f_X4_signsIn σ x0 x3 x1 d_14).bind (fun z_18 => (f_X4_weightRead σ x0 z_18.1 z_18.2).bind (fun z_20 => aw_chk (aw_I σ 20 q_16 x3) (kb23 (x3 + 1) (aw_sI z_20.2 q_16 x3.toNatClampNeg ((x4_13 + x2) - z_20.1)))))))) x0 x1 x2 x3 ((-1 : Int32)) ((0 : Int32)) d
def f_X4_leastOfOrders_L23 (σ : Sg) (n : Nat) (k23 : Dt → Option (Int32 × Dt)) (x0 : Nat) (x1 : Int32) (x2 : Int32) : Int32 → Dt → Option (Int32 × Dt) := match n with
  | 0 => fun _ _ => none
  | n + 1 => fun x3 d => f_X4_leastOfOrders_B23 σ (f_X4_leastOfOrders_L23 σ n k23 x0 x1 x2) k23 x0 x1 x2 x3 d
def f_X4_leastOfOrders (σ : Sg) (x0 : Nat) (d : Dt) : Option (Int32 × Dt) :=
  aw_chk (aw_O σ 4 8 x0) ((f_X4_listLearnable σ x0 d).bind (fun z_1 => (f_X4_weightRead σ x0 (z_1.2.2 x0 3) z_1.2).bind (fun z_4 => (σ.2.2 x0 6).bind (fun q_6 => aw_chk (aw_I σ 20 q_6 ((0 : Int32))) (f_X4_leastOfOrders_L23 σ aw_FU (fun d_23 => aw_chk (aw_I σ 20 q_6 ((((1 : Int32)) <<< (z_1.1 &&& 31)) - ((1 : Int32)))) (some (d_23.1 q_6 ((((1 : Int32)) <<< (z_1.1 &&& 31)) - ((1 : Int32))).toNatClampNeg, d_23))) x0 z_1.1 z_4.1 ((1 : Int32)) (aw_sI z_4.2 q_6 ((0 : Int32)).toNatClampNeg z_4.1))))))
section W_X4_leastOfOrders
variable {p : Program} {l : Launch} {e : Env} {s : State} {m : MethodId} {args : Array Value} {below : List Frame} {meth : Method} {c : Code}
variable {D : va_G} {cA : Nat → ClassId} {base : Nat} {ad : Nat → Nat} {σ : Sg}
set_option maxHeartbeats 4000000 in
set_option maxRecDepth 100000 in
theorem w_X4_leastOfOrders_J84 {z : Int32 × Dt} (X : aw_X p c cX4_leastOfOrders 7 s RX4 m meth (some .int)) {kb36 : Int32 → Int32 → Dt → Option (Int32 × Dt)} {x0 : Nat} {x1 : Int32} {x2 : Int32} {x3 : Int32} {x4 : Int32} {x5 : Int32} {d : Dt} (hf : f_X4_leastOfOrders_J84 σ kb36 x0 x1 x2 x3 x4 x5 d = some z) (hkb36 : ∀ (y4 : Int32) (y5 : Int32) (d : Dt), kb36 y4 y5 d = some z → ∀ (H : Heap) (locs : List Loc) (ls : Array Slot), lv_has ls 7 [(0, .ref (ad x0)), (1, .int x1), (2, .int x2), (3, .int x3), (4, .int y4), (5, .int y5)] → aw_G D cA base ad σ d s H locs → W p l e rm_X4_leastOfOrders s m args below meth c H locs 0 0 (aw_Ei D cA base ad σ below args s z) (F0 m 36 ls [])) {H : Heap} {locs : List Loc} {ls : Array Slot} (hl : lv_has ls 7 [(0, .ref (ad x0)), (1, .int x1), (2, .int x2), (3, .int x3), (4, .int x4), (5, .int x5)]) (G : aw_G D cA base ad σ d s H locs) : W p l e rm_X4_leastOfOrders s m args below meth c H locs 0 0 (aw_Ei D cA base ad σ below args s z) (F0 m 84 ls []) := by
  have hx := X.1; have hb := X.2.1; have hml := X.2.2.1; have hown := X.2.2.2.1
  unfold f_X4_leastOfOrders_J84 at hf
  refine lv_iinc (v := x5 + 1) (lv' := [(5, .int (x5 + 1)), (0, .ref (ad x0)), (1, .int x1), (2, .int x2), (3, .int x3), (4, .int x4)]) hx hb dX4_leastOfOrders_84 hl (k := 5) rfl rfl (by decide) rfl (fun ls hl => ?_)
  refine lv_goto (tgt := 36) hx hb dX4_leastOfOrders_87 (by decide) ?_
  exact hkb36 _ _ _ hf _ _ _ (lv_sub hl [1, 2, 3, 4, 5, 0] rfl) G
set_option maxHeartbeats 4000000 in
set_option maxRecDepth 100000 in
theorem w_X4_leastOfOrders_J82 {z : Int32 × Dt} (X : aw_X p c cX4_leastOfOrders 7 s RX4 m meth (some .int)) {kb36 : Int32 → Int32 → Dt → Option (Int32 × Dt)} {t0 : Int32} {x0 : Nat} {x1 : Int32} {x2 : Int32} {x3 : Int32} {x5 : Int32} {d : Dt} (hf : f_X4_leastOfOrders_J82 σ kb36 t0 x0 x1 x2 x3 x5 d = some z) (hkb36 : ∀ (y4 : Int32) (y5 : Int32) (d : Dt), kb36 y4 y5 d = some z → ∀ (H : Heap) (locs : List Loc) (ls : Array Slot), lv_has ls 7 [(0, .ref (ad x0)), (1, .int x1), (2, .int x2), (3, .int x3), (4, .int y4), (5, .int y5)] → aw_G D cA base ad σ d s H locs → W p l e rm_X4_leastOfOrders s m args below meth c H locs 0 0 (aw_Ei D cA base ad σ below args s z) (F0 m 36 ls [])) {H : Heap} {locs : List Loc} {ls : Array Slot} (hl : lv_has ls 7 [(0, .ref (ad x0)), (1, .int x1), (2, .int x2), (3, .int x3), (5, .int x5)]) (G : aw_G D cA base ad σ d s H locs) : W p l e rm_X4_leastOfOrders s m args below meth c H locs 0 0 (aw_Ei D cA base ad σ below args s z) (F0 m 82 ls [.int t0]) := by
  have hx := X.1; have hb := X.2.1; have hml := X.2.2.1; have hown := X.2.2.2.1
  unfold f_X4_leastOfOrders_J82 at hf
  refine lv_istore (lv' := [(4, .int t0), (0, .ref (ad x0)), (1, .int x1), (2, .int x2), (3, .int x3), (5, .int x5)]) hx hb dX4_leastOfOrders_82 hl (by decide) rfl (fun ls hl => ?_)
  exact w_X4_leastOfOrders_J84 X hf hkb36 (lv_sub hl [1, 2, 3, 4, 0, 5] rfl) G
set_option maxHeartbeats 4000000 in
set_option maxRecDepth 100000 in
theorem w_X4_leastOfOrders_B36 {z : Int32 × Dt} (X : aw_X p c cX4_leastOfOrders 7 s RX4 m meth (some .int)) {kb36 : Int32 → Int32 → Dt → Option (Int32 × Dt)} {k36 : Int32 → Dt → Option (Int32 × Dt)} {x0 : Nat} {x1 : Int32} {x2 : Int32} {x3 : Int32} {x4 : Int32} {x5 : Int32} {d : Dt} (hf : f_X4_leastOfOrders_B36 σ kb36 k36 x0 x1 x2 x3 x4 x5 d = some z) (hkb36 : ∀ (y4 : Int32) (y5 : Int32) (d : Dt), kb36 y4 y5 d = some z → ∀ (H : Heap) (locs : List Loc) (ls : Array Slot), lv_has ls 7 [(0, .ref (ad x0)), (1, .int x1), (2, .int x2), (3, .int x3), (4, .int y4), (5, .int y5)] → aw_G D cA base ad σ d s H locs → W p l e rm_X4_leastOfOrders s m args below meth c H locs 0 0 (aw_Ei D cA base ad σ below args s z) (F0 m 36 ls [])) (hk36 : ∀ (y4 : Int32) (d : Dt), k36 y4 d = some z → ∀ (H : Heap) (locs : List Loc) (ls : Array Slot), lv_has ls 7 [(0, .ref (ad x0)), (1, .int x1), (2, .int x2), (3, .int x3), (4, .int y4)] → aw_G D cA base ad σ d s H locs → W p l e rm_X4_leastOfOrders s m args below meth c H locs 0 0 (aw_Ei D cA base ad σ below args s z) (F0 m 90 ls [])) {H : Heap} {locs : List Loc} {ls : Array Slot} (hl : lv_has ls 7 [(0, .ref (ad x0)), (1, .int x1), (2, .int x2), (3, .int x3), (4, .int x4), (5, .int x5)]) (G : aw_G D cA base ad σ d s H locs) : W p l e rm_X4_leastOfOrders s m args below meth c H locs 0 0 (aw_Ei D cA base ad σ below args s z) (F0 m 36 ls []) := by
  have hx := X.1; have hb := X.2.1; have hml := X.2.2.1; have hown := X.2.2.2.1
  unfold f_X4_leastOfOrders_B36 at hf
  refine lv_iload hx hb dX4_leastOfOrders_36 (lv_at hl 5 rfl) ?_
  refine lv_iload_n hx hb dX4_leastOfOrders_38 rfl (lv_at hl 1 rfl) ?_
  refine lv_icmp_ge (tgt := 90) hx hb dX4_leastOfOrders_39 (by decide) (fun hc => ?_) (fun hc => ?_)
  · have hf := aw_ite_t hc hf
    exact hk36 _ _ hf _ _ _ (lv_sub hl [0, 1, 2, 3, 4] rfl) G
  · have hf := aw_ite_f hc hf
    refine lv_iload_n hx hb dX4_leastOfOrders_42 rfl (lv_at hl 3 rfl) ?_
    refine lv_iload hx hb dX4_leastOfOrders_43 (lv_at hl 5 rfl) ?_
    refine lv_ishr hx hb dX4_leastOfOrders_45 ?_
    refine lv_iconst (v := (1 : Int32)) hx hb dX4_leastOfOrders_46 (by decide) ?_
    refine lv_iand hx hb dX4_leastOfOrders_47 ?_
    refine lv_if_eq (tgt := 84) hx hb dX4_leastOfOrders_48 (by decide) (fun hc => ?_) (fun hc => ?_)
    · have hf := aw_ite_t hc hf
      exact w_X4_leastOfOrders_J84 X hf hkb36 (lv_sub hl [0, 1, 2, 3, 4, 5] rfl) G
    · have hf := aw_ite_f hc hf
      refine lv_aload_n hx hb dX4_leastOfOrders_51 rfl (lv_at hl 0 rfl) ?_
      obtain ⟨hc_9, hf⟩ := aw_chk_some hf
      obtain ⟨q_10, hq_11, hf⟩ := aw_bind_some hf
      refine gf_X4_33 hx hb G hown hc_9 hq_11 dX4_leastOfOrders_52 ?_
      refine lv_iload_n hx hb dX4_leastOfOrders_55 rfl (lv_at hl 3 rfl) ?_
      refine lv_iconst (v := (1 : Int32)) hx hb dX4_leastOfOrders_56 (by decide) ?_
      refine lv_iload hx hb dX4_leastOfOrders_57 (lv_at hl 5 rfl) ?_
      refine lv_ishl hx hb dX4_leastOfOrders_59 ?_
      refine lv_ixor hx hb dX4_leastOfOrders_60 ?_
      obtain ⟨hc_12, hf⟩ := aw_chk_some hf
      refine aw_ial hx hb G hc_12 dX4_leastOfOrders_61 ?_
      refine lv_istore (lv' := [(6, .int (d.1 q_10 (x3 ^^^ (((1 : Int32)) <<< (x5 &&& 31))).toNatClampNeg)), (0, .ref (ad x0)), (1, .int x1), (2, .int x2), (3, .int x3), (4, .int x4), (5, .int x5)]) hx hb dX4_leastOfOrders_62 hl (by decide) rfl (fun ls hl => ?_)
      refine lv_iload hx hb dX4_leastOfOrders_64 (lv_at hl 5 rfl) ?_
      refine lv_iconst (v := (-1 : Int32)) hx hb dX4_leastOfOrders_66 (by decide) ?_
      refine lv_icmp_ne (tgt := 75) hx hb dX4_leastOfOrders_67 (by decide) (fun hc => ?_) (fun hc => ?_)
      · have hf := aw_ite_f hc hf
        refine lv_iload hx hb dX4_leastOfOrders_75 (lv_at hl 5 rfl) ?_
        refine lv_iload hx hb dX4_leastOfOrders_77 (lv_at hl 0 rfl) ?_
        refine va_mmin hx hb (hml.trans hl.1.symm) hown (G.1.hts _ m_630) (G.1.hts _ m_631) (G.1.hts _ m_19) (G.1.hts _ m_632) (Nat.le_of_ble_eq_true rfl) (Nat.le_of_ble_eq_true rfl) (Nat.zero_le _) (Nat.zero_le _) dX4_leastOfOrders_79 ?_
        exact w_X4_leastOfOrders_J82 X hf hkb36 (lv_sub hl [1, 2, 3, 4, 6] rfl) G
      · have hf := aw_ite_t hc hf
        refine lv_iload hx hb dX4_leastOfOrders_70 (lv_at hl 0 rfl) ?_
        refine lv_goto (tgt := 82) hx hb dX4_leastOfOrders_72 (by decide) ?_
        exact w_X4_leastOfOrders_J82 X hf hkb36 (lv_sub hl [1, 2, 3, 4, 6] rfl) G
theorem w_X4_leastOfOrders_L36 {z : Int32 × Dt} (X : aw_X p c cX4_leastOfOrders 7 s RX4 m meth (some .int)) {k36 : Int32 → Dt → Option (Int32 × Dt)} {x0 : Nat} {x1 : Int32} {x2 : Int32} {x3 : Int32} (n : Nat) {x4 : Int32} {x5 : Int32} {d : Dt} (hf : f_X4_leastOfOrders_L36 σ n k36 x0 x1 x2 x3 x4 x5 d = some z) (hk36 : ∀ (y4 : Int32) (d : Dt), k36 y4 d = some z → ∀ (H : Heap) (locs : List Loc) (ls : Array Slot), lv_has ls 7 [(0, .ref (ad x0)), (1, .int x1), (2, .int x2), (3, .int x3), (4, .int y4)] → aw_G D cA base ad σ d s H locs → W p l e rm_X4_leastOfOrders s m args below meth c H locs 0 0 (aw_Ei D cA base ad σ below args s z) (F0 m 90 ls [])) {H : Heap} {locs : List Loc} {ls : Array Slot} (hl : lv_has ls 7 [(0, .ref (ad x0)), (1, .int x1), (2, .int x2), (3, .int x3), (4, .int x4), (5, .int x5)]) (G : aw_G D cA base ad σ d s H locs) : W p l e rm_X4_leastOfOrders s m args below meth c H locs 0 0 (aw_Ei D cA base ad σ below args s z) (F0 m 36 ls []) := by
  induction n generalizing x4 x5 d H locs ls with
  | zero => exact absurd (show (none : Option (Int32 × Dt)) = some z from hf) (by simp)
  | succ n ih => exact w_X4_leastOfOrders_B36 X (kb36 := f_X4_leastOfOrders_L36 σ n k36 x0 x1 x2 x3) hf  (fun x4 x5 d hf H locs ls hl G => ih hf hl G) hk36 hl G
set_option maxHeartbeats 4000000 in
set_option maxRecDepth 100000 in
theorem w_X4_leastOfOrders_B23 {z : Int32 × Dt} (X : aw_X p c cX4_leastOfOrders 7 s RX4 m meth (some .int)) {kb23 : Int32 → Dt → Option (Int32 × Dt)} {k23 : Dt → Option (Int32 × Dt)} {x0 : Nat} {x1 : Int32} {x2 : Int32} {x3 : Int32} {d : Dt} (hf : f_X4_leastOfOrders_B23 σ kb23 k23 x0 x1 x2 x3 d = some z) (hkb23 : ∀ (y3 : Int32) (d : Dt), kb23 y3 d = some z → ∀ (H : Heap) (locs : List Loc) (ls : Array Slot), lv_has ls 7 [(0, .ref (ad x0)), (1, .int x1), (2, .int x2), (3, .int y3)] → aw_G D cA base ad σ d s H locs → W p l e rm_X4_leastOfOrders s m args below meth c H locs 0 0 (aw_Ei D cA base ad σ below args s z) (F0 m 23 ls [])) (hk23 : ∀ (d : Dt), k23 d = some z → ∀ (H : Heap) (locs : List Loc) (ls : Array Slot), lv_has ls 7 [(0, .ref (ad x0)), (1, .int x1)] → aw_G D cA base ad σ d s H locs → W p l e rm_X4_leastOfOrders s m args below meth c H locs 0 0 (aw_Ei D cA base ad σ below args s z) (F0 m 117 ls [])) {H : Heap} {locs : List Loc} {ls : Array Slot} (hl : lv_has ls 7 [(0, .ref (ad x0)), (1, .int x1), (2, .int x2), (3, .int x3)]) (G : aw_G D cA base ad σ d s H locs) : W p l e rm_X4_leastOfOrders s m args below meth c H locs 0 0 (aw_Ei D cA base ad σ below args s z) (F0 m 23 ls []) := by
  have hx := X.1; have hb := X.2.1; have hml := X.2.2.1; have hown := X.2.2.2.1
  unfold f_X4_leastOfOrders_B23 at hf
  refine lv_iload_n hx hb dX4_leastOfOrders_23 rfl (lv_at hl 3 rfl) ?_
  refine lv_iconst (v := (1 : Int32)) hx hb dX4_leastOfOrders_24 (by decide) ?_
  refine lv_iload_n hx hb dX4_leastOfOrders_25 rfl (lv_at hl 1 rfl) ?_
  refine lv_ishl hx hb dX4_leastOfOrders_26 ?_
  refine lv_icmp_ge (tgt := 117) hx hb dX4_leastOfOrders_27 (by decide) (fun hc => ?_) (fun hc => ?_)
  · have hf := aw_ite_t hc hf
    exact hk23 _ hf _ _ _ (lv_sub hl [0, 1] rfl) G
  · have hf := aw_ite_f hc hf
    refine lv_iconst (v := (-1 : Int32)) hx hb dX4_leastOfOrders_30 (by decide) ?_
    refine lv_istore (lv' := [(4, .int ((-1 : Int32))), (0, .ref (ad x0)), (1, .int x1), (2, .int x2), (3, .int x3)]) hx hb dX4_leastOfOrders_31 hl (by decide) rfl (fun ls hl => ?_)
    refine lv_iconst (v := (0 : Int32)) hx hb dX4_leastOfOrders_33 (by decide) ?_
    refine lv_istore (lv' := [(5, .int ((0 : Int32))), (4, .int ((-1 : Int32))), (0, .ref (ad x0)), (1, .int x1), (2, .int x2), (3, .int x3)]) hx hb dX4_leastOfOrders_34 hl (by decide) rfl (fun ls hl => ?_)
    refine w_X4_leastOfOrders_L36 X aw_FU hf  (fun x4_13 d_14 hf H locs ls hl G => ?_) (lv_sub hl [2, 3, 4, 5, 1, 0] rfl) G
    refine lv_aload_n hx hb dX4_leastOfOrders_90 rfl (lv_at hl 0 rfl) ?_
    obtain ⟨hc_15, hf⟩ := aw_chk_some hf
    obtain ⟨q_16, hq_17, hf⟩ := aw_bind_some hf
    refine gf_X4_33 hx hb G hown hc_15 hq_17 dX4_leastOfOrders_91 ?_
    refine lv_iload_n hx hb dX4_leastOfOrders_94 rfl (lv_at hl 3 rfl) ?_
    refine lv_iload hx hb dX4_leastOfOrders_95 (lv_at hl 4 rfl) ?_
    refine lv_iload_n hx hb dX4_leastOfOrders_97 rfl (lv_at hl 2 rfl) ?_
    refine lv_iadd hx hb dX4_leastOfOrders_98 ?_
    refine lv_aload_n hx hb dX4_leastOfOrders_99 rfl (lv_at hl 0 rfl) ?_
    refine lv_aload_n hx hb dX4_leastOfOrders_100 rfl (lv_at hl 0 rfl) ?_
    refine lv_iload_n hx hb dX4_leastOfOrders_101 rfl (lv_at hl 3 rfl) ?_
    refine lv_iload_n hx hb dX4_leastOfOrders_102 rfl (lv_at hl 1 rfl) ?_
    obtain ⟨z_18, hz_19, hf⟩ := aw_bind_some hf
    refine aw_VL (As := [.int x3, .int x1]) (rest := [.ref (ad x0), .int (x4_13 + x2), .int x3, .ref (ad q_16)]) X G hl.1 cr_X4_83 (c_X4_signsIn l hz_19) ⟨rfl, rfl⟩ rfl rfl rfl (by decide) hc_15 rfl ⟨Nat.le_of_ble_eq_true rfl, Nat.le_of_ble_eq_true rfl⟩ (Nat.le_of_ble_eq_true rfl) dX4_leastOfOrders_103 ⟨Nat.zero_le _, Nat.zero_le _⟩ (fun H locs G => ?_)
    obtain ⟨z_20, hz_21, hf⟩ := aw_bind_some hf
    refine aw_VI (As := [.long z_18.1]) (rest := [.int (x4_13 + x2), .int x3, .ref (ad q_16)]) X G hl.1 cr_X4_66 (c_X4_weightRead l hz_21) ⟨rfl, rfl⟩ rfl rfl rfl (by decide) hc_15 rfl ⟨Nat.le_of_ble_eq_true rfl, Nat.le_of_ble_eq_true rfl⟩ (Nat.le_of_ble_eq_true rfl) dX4_leastOfOrders_106 ⟨Nat.zero_le _, Nat.zero_le _⟩ (fun H locs G => ?_)
    refine lv_isub hx hb dX4_leastOfOrders_109 ?_
    obtain ⟨hc_22, hf⟩ := aw_chk_some hf
    refine aw_ias hx hb G hc_22 dX4_leastOfOrders_110 (fun H locs G => ?_)
    refine lv_iinc (v := x3 + 1) (lv' := [(3, .int (x3 + 1)), (0, .ref (ad x0)), (1, .int x1), (2, .int x2), (4, .int x4_13)]) hx hb dX4_leastOfOrders_111 hl (k := 3) rfl rfl (by decide) rfl (fun ls hl => ?_)
    refine lv_goto (tgt := 23) hx hb dX4_leastOfOrders_114 (by decide) ?_
    exact hkb23 _ _ hf _ _ _ (lv_sub hl [1, 2, 3, 0] rfl) G
theorem w_X4_leastOfOrders_L23 {z : Int32 × Dt} (X : aw_X p c cX4_leastOfOrders 7 s RX4 m meth (some .int)) {k23 : Dt → Option (Int32 × Dt)} {x0 : Nat} {x1 : Int32} {x2 : Int32} (n : Nat) {x3 : Int32} {d : Dt} (hf : f_X4_leastOfOrders_L23 σ n k23 x0 x1 x2 x3 d = some z) (hk23 : ∀ (d : Dt), k23 d = some z → ∀ (H : Heap) (locs : List Loc) (ls : Array Slot), lv_has ls 7 [(0, .ref (ad x0)), (1, .int x1)] → aw_G D cA base ad σ d s H locs → W p l e rm_X4_leastOfOrders s m args below meth c H locs 0 0 (aw_Ei D cA base ad σ below args s z) (F0 m 117 ls [])) {H : Heap} {locs : List Loc} {ls : Array Slot} (hl : lv_has ls 7 [(0, .ref (ad x0)), (1, .int x1), (2, .int x2), (3, .int x3)]) (G : aw_G D cA base ad σ d s H locs) : W p l e rm_X4_leastOfOrders s m args below meth c H locs 0 0 (aw_Ei D cA base ad σ below args s z) (F0 m 23 ls []) := by
  induction n generalizing x3 d H locs ls with
  | zero => exact absurd (show (none : Option (Int32 × Dt)) = some z from hf) (by simp)
  | succ n ih => exact w_X4_leastOfOrders_B23 X (kb23 := f_X4_leastOfOrders_L23 σ n k23 x0 x1 x2) hf  (fun x3 d hf H locs ls hl G => ih hf hl G) hk23 hl G
end W_X4_leastOfOrders
set_option maxHeartbeats 4000000 in
set_option maxRecDepth 100000 in
theorem c_X4_leastOfOrders (l : Launch) {σ : Sg} {x0 : Nat} {d : Dt} {z : Int32 × Dt} (hf : f_X4_leastOfOrders σ x0 d = some z) : aw_Mi l yX4_leastOfOrders (Cond.code yX4_leastOfOrders cX4_leastOfOrders 7 (some .int)) rm_X4_leastOfOrders (fun ad => [.ref (ad x0)]) σ d z := by
  intro D cA base ad
  refine aw_ofW (own := RX4) (cc := cX4_leastOfOrders) (nL := 7) (ret := some .int) (by decide) rfl rfl ?_
  intro p e s m below meth c X hnm G
  have hx := X.1; have hb := X.2.1; have hml := X.2.2.1; have hown := X.2.2.2.1
  refine aw_ls (lv := [(0, .ref (ad x0))]) (Nat.le_of_ble_eq_true rfl) rfl (fun ls hl => ?_)
  unfold f_X4_leastOfOrders at hf
  refine lv_aload_n hx hb dX4_leastOfOrders_0 rfl (lv_at hl 0 rfl) ?_
  obtain ⟨hc_3, hf⟩ := aw_chk_some hf
  obtain ⟨z_1, hz_2, hf⟩ := aw_bind_some hf
  refine aw_VI (As := []) (rest := []) X G hl.1 cr_X4_73 (c_X4_listLearnable l hz_2) ⟨rfl, rfl⟩ rfl rfl rfl (by decide) hc_3 rfl ⟨Nat.le_of_ble_eq_true rfl, Nat.le_of_ble_eq_true rfl⟩ (Nat.le_of_ble_eq_true rfl) dX4_leastOfOrders_1 ⟨Nat.zero_le _, Nat.zero_le _⟩ (fun H locs G => ?_)
  refine lv_istore_n (lv' := [(1, .int z_1.1), (0, .ref (ad x0))]) hx hb dX4_leastOfOrders_4 rfl hl (by decide) rfl (fun ls hl => ?_)
  refine lv_aload_n hx hb dX4_leastOfOrders_5 rfl (lv_at hl 1 rfl) ?_
  refine lv_aload_n hx hb dX4_leastOfOrders_6 rfl (lv_at hl 1 rfl) ?_
  refine gf_X4_23 hx hb G hown hc_3 dX4_leastOfOrders_7 ?_
  obtain ⟨z_4, hz_5, hf⟩ := aw_bind_some hf
  refine aw_VI (As := [.long (z_1.2.2 x0 3)]) (rest := []) X G hl.1 cr_X4_66 (c_X4_weightRead l hz_5) ⟨rfl, rfl⟩ rfl rfl rfl (by decide) hc_3 rfl ⟨Nat.le_of_ble_eq_true rfl, Nat.le_of_ble_eq_true rfl⟩ (Nat.le_of_ble_eq_true rfl) dX4_leastOfOrders_10 ⟨Nat.zero_le _, Nat.zero_le _⟩ (fun H locs G => ?_)
  refine lv_istore_n (lv' := [(2, .int z_4.1), (1, .int z_1.1), (0, .ref (ad x0))]) hx hb dX4_leastOfOrders_13 rfl hl (by decide) rfl (fun ls hl => ?_)
  refine lv_aload_n hx hb dX4_leastOfOrders_14 rfl (lv_at hl 2 rfl) ?_
  obtain ⟨q_6, hq_7, hf⟩ := aw_bind_some hf
  refine gf_X4_33 hx hb G hown hc_3 hq_7 dX4_leastOfOrders_15 ?_
  refine lv_iconst (v := (0 : Int32)) hx hb dX4_leastOfOrders_18 (by decide) ?_
  refine lv_iload_n hx hb dX4_leastOfOrders_19 rfl (lv_at hl 0 rfl) ?_
  obtain ⟨hc_8, hf⟩ := aw_chk_some hf
  refine aw_ias hx hb G hc_8 dX4_leastOfOrders_20 (fun H locs G => ?_)
  refine lv_iconst (v := (1 : Int32)) hx hb dX4_leastOfOrders_21 (by decide) ?_
  refine lv_istore_n (lv' := [(3, .int ((1 : Int32))), (2, .int z_4.1), (1, .int z_1.1), (0, .ref (ad x0))]) hx hb dX4_leastOfOrders_22 rfl hl (by decide) rfl (fun ls hl => ?_)
  refine w_X4_leastOfOrders_L23 X aw_FU hf  (fun d_23 hf H locs ls hl G => ?_) (lv_sub hl [3, 2, 1, 0] rfl) G
  refine lv_aload_n hx hb dX4_leastOfOrders_117 rfl (lv_at hl 0 rfl) ?_
  refine gf_X4_33 hx hb G hown hc_3 hq_7 dX4_leastOfOrders_118 ?_
  refine lv_iconst (v := (1 : Int32)) hx hb dX4_leastOfOrders_121 (by decide) ?_
  refine lv_iload_n hx hb dX4_leastOfOrders_122 rfl (lv_at hl 1 rfl) ?_
  refine lv_ishl hx hb dX4_leastOfOrders_123 ?_
  refine lv_iconst (v := (1 : Int32)) hx hb dX4_leastOfOrders_124 (by decide) ?_
  refine lv_isub hx hb dX4_leastOfOrders_125 ?_
  obtain ⟨hc_24, hf⟩ := aw_chk_some hf
  refine aw_ial hx hb G hc_24 dX4_leastOfOrders_126 ?_
  exact aw_reti X G hf dX4_leastOfOrders_127
def rm_J7_fill_d0a16 : Room := { frames := 0, cells := 0, slots := 0, locals := 0 }
def f_J7_fill_d0a16_B6 (σ : Sg) (kb6 : Int32 → Dt → Option (Unit × Dt)) (k6 : Dt → Option (Unit × Dt)) (x0 : Nat) (x1 : Int64) (x4 : Int32) (x3 : Int32) (d : Dt) : Option (Unit × Dt) :=
  if x4 ≤ x3 then k6 d else aw_chk (aw_I σ 21 x0 x3) (kb6 (x3 + 1) (aw_sL d x0 x3.toNatClampNeg x1))
def f_J7_fill_d0a16_L6 (σ : Sg) (n : Nat) (k6 : Dt → Option (Unit × Dt)) (x0 : Nat) (x1 : Int64) (x4 : Int32) : Int32 → Dt → Option (Unit × Dt) := match n with
  | 0 => fun _ _ => none
  | n + 1 => fun x3 d => f_J7_fill_d0a16_B6 σ (f_J7_fill_d0a16_L6 σ n k6 x0 x1 x4) k6 x0 x1 x4 x3 d
def f_J7_fill_d0a16 (σ : Sg) (x0 : Nat) (x1 : Int64) (d : Dt) : Option (Unit × Dt) :=
  aw_chk (aw_Y σ 21 x0) (f_J7_fill_d0a16_L6 σ aw_FU (fun d_3 => some ((), d_3)) x0 x1 (Int32.ofNat (σ.2.1 x0).2) ((0 : Int32)) d)
section W_J7_fill_d0a16
variable {p : Program} {l : Launch} {e : Env} {s : State} {m : MethodId} {args : Array Value} {below : List Frame} {meth : Method} {c : Code}
variable {D : va_G} {cA : Nat → ClassId} {base : Nat} {ad : Nat → Nat} {σ : Sg}
set_option maxHeartbeats 4000000 in
set_option maxRecDepth 100000 in
theorem w_J7_fill_d0a16_B6 {z : Unit × Dt} (X : aw_X p c cJ7_fill_d0a16 5 s RJ7 m meth (none)) {kb6 : Int32 → Dt → Option (Unit × Dt)} {k6 : Dt → Option (Unit × Dt)} {x0 : Nat} {x1 : Int64} {x4 : Int32} {x3 : Int32} {d : Dt} (hf : f_J7_fill_d0a16_B6 σ kb6 k6 x0 x1 x4 x3 d = some z) (hkb6 : ∀ (y3 : Int32) (d : Dt), kb6 y3 d = some z → ∀ (H : Heap) (locs : List Loc) (ls : Array Slot), lv_has ls 5 [(0, .ref (ad x0)), (1, .long x1), (3, .int y3), (4, .int x4)] → aw_G D cA base ad σ d s H locs → W p l e rm_J7_fill_d0a16 s m args below meth c H locs 0 0 (aw_Ev D cA base ad σ below args s z) (F0 m 6 ls [])) (hk6 : ∀ (d : Dt), k6 d = some z → ∀ (H : Heap) (locs : List Loc) (ls : Array Slot), lv_has ls 5 [] → aw_G D cA base ad σ d s H locs → W p l e rm_J7_fill_d0a16 s m args below meth c H locs 0 0 (aw_Ev D cA base ad σ below args s z) (F0 m 22 ls [])) {H : Heap} {locs : List Loc} {ls : Array Slot} (hl : lv_has ls 5 [(0, .ref (ad x0)), (1, .long x1), (3, .int x3), (4, .int x4)]) (G : aw_G D cA base ad σ d s H locs) : W p l e rm_J7_fill_d0a16 s m args below meth c H locs 0 0 (aw_Ev D cA base ad σ below args s z) (F0 m 6 ls []) := by
  have hx := X.1; have hb := X.2.1; have hml := X.2.2.1; have hown := X.2.2.2.1
  unfold f_J7_fill_d0a16_B6 at hf
  refine lv_iload_n hx hb dJ7_fill_d0a16_6 rfl (lv_at hl 2 rfl) ?_
  refine lv_iload hx hb dJ7_fill_d0a16_7 (lv_at hl 3 rfl) ?_
  refine lv_icmp_ge (tgt := 22) hx hb dJ7_fill_d0a16_9 (by decide) (fun hc => ?_) (fun hc => ?_)
  · have hf := aw_ite_t hc hf
    exact hk6 _ hf _ _ _ (lv_sub hl [] rfl) G
  · have hf := aw_ite_f hc hf
    refine lv_aload_n hx hb dJ7_fill_d0a16_12 rfl (lv_at hl 0 rfl) ?_
    refine lv_iload_n hx hb dJ7_fill_d0a16_13 rfl (lv_at hl 2 rfl) ?_
    refine lv_lload_n hx hb dJ7_fill_d0a16_14 rfl (lv_at hl 1 rfl) ?_
    obtain ⟨hc_2, hf⟩ := aw_chk_some hf
    refine aw_las hx hb G hc_2 dJ7_fill_d0a16_15 (fun H locs G => ?_)
    refine lv_iinc (v := x3 + 1) (lv' := [(3, .int (x3 + 1)), (0, .ref (ad x0)), (1, .long x1), (4, .int x4)]) hx hb dJ7_fill_d0a16_16 hl (k := 2) rfl rfl (by decide) rfl (fun ls hl => ?_)
    refine lv_goto (tgt := 6) hx hb dJ7_fill_d0a16_19 (by decide) ?_
    exact hkb6 _ _ hf _ _ _ (lv_sub hl [1, 2, 0, 3] rfl) G
theorem w_J7_fill_d0a16_L6 {z : Unit × Dt} (X : aw_X p c cJ7_fill_d0a16 5 s RJ7 m meth (none)) {k6 : Dt → Option (Unit × Dt)} {x0 : Nat} {x1 : Int64} {x4 : Int32} (n : Nat) {x3 : Int32} {d : Dt} (hf : f_J7_fill_d0a16_L6 σ n k6 x0 x1 x4 x3 d = some z) (hk6 : ∀ (d : Dt), k6 d = some z → ∀ (H : Heap) (locs : List Loc) (ls : Array Slot), lv_has ls 5 [] → aw_G D cA base ad σ d s H locs → W p l e rm_J7_fill_d0a16 s m args below meth c H locs 0 0 (aw_Ev D cA base ad σ below args s z) (F0 m 22 ls [])) {H : Heap} {locs : List Loc} {ls : Array Slot} (hl : lv_has ls 5 [(0, .ref (ad x0)), (1, .long x1), (3, .int x3), (4, .int x4)]) (G : aw_G D cA base ad σ d s H locs) : W p l e rm_J7_fill_d0a16 s m args below meth c H locs 0 0 (aw_Ev D cA base ad σ below args s z) (F0 m 6 ls []) := by
  induction n generalizing x3 d H locs ls with
  | zero => exact absurd (show (none : Option (Unit × Dt)) = some z from hf) (by simp)
  | succ n ih => exact w_J7_fill_d0a16_B6 X (kb6 := f_J7_fill_d0a16_L6 σ n k6 x0 x1 x4) hf  (fun x3 d hf H locs ls hl G => ih hf hl G) hk6 hl G
end W_J7_fill_d0a16
set_option maxHeartbeats 4000000 in
set_option maxRecDepth 100000 in
theorem c_J7_fill_d0a16 (l : Launch) {σ : Sg} {x0 : Nat} {x1 : Int64} {d : Dt} {z : Unit × Dt} (hf : f_J7_fill_d0a16 σ x0 x1 d = some z) : aw_Mv l yJ7_fill_d0a16 (Cond.code yJ7_fill_d0a16 cJ7_fill_d0a16 5 (none)) rm_J7_fill_d0a16 (fun ad => [.ref (ad x0), .long x1]) σ d z := by
  intro D cA base ad
  refine aw_ofW (own := RJ7) (cc := cJ7_fill_d0a16) (nL := 5) (ret := none) (by decide) rfl rfl ?_
  intro p e s m below meth c X hnm G
  have hx := X.1; have hb := X.2.1; have hml := X.2.2.1; have hown := X.2.2.2.1
  refine aw_ls (lv := [(0, .ref (ad x0)), (1, .long x1)]) (Nat.le_of_ble_eq_true rfl) rfl (fun ls hl => ?_)
  unfold f_J7_fill_d0a16 at hf
  refine lv_iconst (v := (0 : Int32)) hx hb dJ7_fill_d0a16_0 (by decide) ?_
  refine lv_istore_n (lv' := [(3, .int ((0 : Int32))), (0, .ref (ad x0)), (1, .long x1)]) hx hb dJ7_fill_d0a16_1 rfl hl (by decide) rfl (fun ls hl => ?_)
  refine lv_aload_n hx hb dJ7_fill_d0a16_2 rfl (lv_at hl 1 rfl) ?_
  obtain ⟨hc_1, hf⟩ := aw_chk_some hf
  refine aw_lln hx hb G hc_1 dJ7_fill_d0a16_3 ?_
  refine lv_istore (lv' := [(4, .int (Int32.ofNat (σ.2.1 x0).2)), (3, .int ((0 : Int32))), (0, .ref (ad x0)), (1, .long x1)]) hx hb dJ7_fill_d0a16_4 hl (by decide) rfl (fun ls hl => ?_)
  refine w_J7_fill_d0a16_L6 X aw_FU hf  (fun d_3 hf H locs ls hl G => ?_) (lv_sub hl [2, 3, 1, 0] rfl) G
  exact aw_retv X G hf dJ7_fill_d0a16_22
def rm_X5_readHeads : Room := { frames := 1, cells := 0, slots := 0, locals := 25 }
def f_X5_readHeads_J128 (σ : Sg) (kb10 : Int32 → Dt → Option (Unit × Dt)) (x0 : Nat) (x1 : Nat) (x2 : Nat) (x3 : Int32) (x4 : Int32) (d : Dt) : Option (Unit × Dt) :=
  kb10 (x4 + 1) d
def f_X5_readHeads_J108 (σ : Sg) (kb10 : Int32 → Dt → Option (Unit × Dt)) (x0 : Nat) (x1 : Nat) (x2 : Nat) (x3 : Int32) (x4 : Int32) (x5 : Int32) (x6 : Int64) (d : Dt) : Option (Unit × Dt) :=
  aw_chk (aw_O σ 5 6 x0) ((σ.2.2 x0 1).bind (fun q_12 => aw_chk (aw_O σ 1 5 x1) ((f_X1_unitsWith σ x1 x5 ((8 : Int32)) ((4 : Int32)) d).bind (fun z_14 => aw_chk (aw_I σ 21 q_12 x4) (f_X5_readHeads_J128 σ kb10 x0 x1 x2 x3 x4 (aw_sL z_14.2 q_12 x4.toNatClampNeg (x6 * z_14.1.toInt64)))))))
def f_X5_readHeads_B10 (σ : Sg) (kb10 : Int32 → Dt → Option (Unit × Dt)) (k10 : Dt → Option (Unit × Dt)) (x0 : Nat) (x1 : Nat) (x2 : Nat) (x3 : Int32) (x4 : Int32) (d : Dt) : Option (Unit × Dt) :=
  if x3 < x4 then k10 d else aw_chk (aw_I σ 20 x2 (x4 - ((1 : Int32)))) (aw_chk (aw_O σ 1 5 x1) (if (d.1 x1 0) = ((1 : Int32)) then aw_chk (aw_O σ 5 6 x0) ((σ.2.2 x0 1).bind (fun q_23 => (σ.2.2 x0 0).bind (fun q_25 => aw_chk (aw_I σ 21 q_25 (x4 - ((1 : Int32)))) ((f_X1_unitsWith σ x1 (d.1 x2 (x4 - ((1 : Int32))).toNatClampNeg) ((0 : Int32)) ((36 : Int32)) d).bind (fun z_28 => aw_chk (aw_I σ 21 q_23 x4) (f_X5_readHeads_J128 σ kb10 x0 x1 x2 x3 x4 (aw_sL z_28.2 q_23 x4.toNatClampNeg ((d.2 q_25 (x4 - ((1 : Int32))).toNatClampNeg) * z_28.1.toInt64)))))))) else aw_chk (aw_O σ 5 6 x0) ((σ.2.2 x0 0).bind (fun q_8 => aw_chk (aw_I σ 21 q_8 (x4 - ((1 : Int32)))) (if x4 < ((2 : Int32)) then f_X5_readHeads_J108 σ kb10 x0 x1 x2 x3 x4 (d.1 x2 (x4 - ((1 : Int32))).toNatClampNeg) (d.2 q_8 (x4 - ((1 : Int32))).toNatClampNeg) d else aw_chk (aw_I σ 21 q_8 (x4 - ((2 : Int32)))) (aw_chk (aw_I σ 20 x2 (x4 - ((2 : Int32)))) ((f_X1_unitsWith σ x1 (d.1 x2 (x4 - ((2 : Int32))).toNatClampNeg) ((0 : Int32)) ((8 : Int32)) d).bind (fun z_20 => f_X5_readHeads_J108 σ kb10 x0 x1 x2 x3 x4 (d.1 x2 (x4 - ((1 : Int32))).toNatClampNeg) ((d.2 q_8 (x4 - ((1 : Int32))).toNatClampNeg) + ((d.2 q_8 (x4 - ((2 : Int32))).toNatClampNeg) * z_20.1.toInt64)) z_20.2))))))))
def f_X5_readHeads_L10 (σ : Sg) (n : Nat) (k10 : Dt → Option (Unit × Dt)) (x0 : Nat) (x1 : Nat) (x2 : Nat) (x3 : Int32) : Int32 → Dt → Option (Unit × Dt) := match n with
  | 0 => fun _ _ => none
  | n + 1 => fun x4 d => f_X5_readHeads_B10 σ (f_X5_readHeads_L10 σ n k10 x0 x1 x2 x3) k10 x0 x1 x2 x3 x4 d
def f_X5_readHeads (σ : Sg) (x0 : Nat) (x1 : Nat) (x2 : Nat) (x3 : Int32) (d : Dt) : Option (Unit × Dt) :=
  aw_chk (aw_O σ 5 6 x0) ((σ.2.2 x0 1).bind (fun q_2 => aw_chk (aw_I σ 21 q_2 ((0 : Int32))) (f_X5_readHeads_L10 σ aw_FU (fun d_31 => some ((), d_31)) x0 x1 x2 x3 ((1 : Int32)) (aw_sL d q_2 ((0 : Int32)).toNatClampNeg ((0 : Int64))))))
section W_X5_readHeads
variable {p : Program} {l : Launch} {e : Env} {s : State} {m : MethodId} {args : Array Value} {below : List Frame} {meth : Method} {c : Code}
variable {D : va_G} {cA : Nat → ClassId} {base : Nat} {ad : Nat → Nat} {σ : Sg}
set_option maxHeartbeats 4000000 in
set_option maxRecDepth 100000 in
theorem w_X5_readHeads_J128 {z : Unit × Dt} (X : aw_X p c cX5_readHeads 8 s RX5 m meth (none)) {kb10 : Int32 → Dt → Option (Unit × Dt)} {x0 : Nat} {x1 : Nat} {x2 : Nat} {x3 : Int32} {x4 : Int32} {d : Dt} (hf : f_X5_readHeads_J128 σ kb10 x0 x1 x2 x3 x4 d = some z) (hkb10 : ∀ (y4 : Int32) (d : Dt), kb10 y4 d = some z → ∀ (H : Heap) (locs : List Loc) (ls : Array Slot), lv_has ls 8 [(0, .ref (ad x0)), (1, .ref (ad x1)), (2, .ref (ad x2)), (3, .int x3), (4, .int y4)] → aw_G D cA base ad σ d s H locs → W p l e rm_X5_readHeads s m args below meth c H locs 0 0 (aw_Ev D cA base ad σ below args s z) (F0 m 10 ls [])) {H : Heap} {locs : List Loc} {ls : Array Slot} (hl : lv_has ls 8 [(0, .ref (ad x0)), (1, .ref (ad x1)), (2, .ref (ad x2)), (3, .int x3), (4, .int x4)]) (G : aw_G D cA base ad σ d s H locs) : W p l e rm_X5_readHeads s m args below meth c H locs 0 0 (aw_Ev D cA base ad σ below args s z) (F0 m 128 ls []) := by
  have hx := X.1; have hb := X.2.1; have hml := X.2.2.1; have hown := X.2.2.2.1
  unfold f_X5_readHeads_J128 at hf
  refine lv_iinc (v := x4 + 1) (lv' := [(4, .int (x4 + 1)), (0, .ref (ad x0)), (1, .ref (ad x1)), (2, .ref (ad x2)), (3, .int x3)]) hx hb dX5_readHeads_128 hl (k := 4) rfl rfl (by decide) rfl (fun ls hl => ?_)
  refine lv_goto (tgt := 10) hx hb dX5_readHeads_131 (by decide) ?_
  exact hkb10 _ _ hf _ _ _ (lv_sub hl [1, 2, 3, 4, 0] rfl) G
set_option maxHeartbeats 4000000 in
set_option maxRecDepth 100000 in
theorem w_X5_readHeads_J108 {z : Unit × Dt} (X : aw_X p c cX5_readHeads 8 s RX5 m meth (none)) {kb10 : Int32 → Dt → Option (Unit × Dt)} {x0 : Nat} {x1 : Nat} {x2 : Nat} {x3 : Int32} {x4 : Int32} {x5 : Int32} {x6 : Int64} {d : Dt} (hf : f_X5_readHeads_J108 σ kb10 x0 x1 x2 x3 x4 x5 x6 d = some z) (hkb10 : ∀ (y4 : Int32) (d : Dt), kb10 y4 d = some z → ∀ (H : Heap) (locs : List Loc) (ls : Array Slot), lv_has ls 8 [(0, .ref (ad x0)), (1, .ref (ad x1)), (2, .ref (ad x2)), (3, .int x3), (4, .int y4)] → aw_G D cA base ad σ d s H locs → W p l e rm_X5_readHeads s m args below meth c H locs 0 0 (aw_Ev D cA base ad σ below args s z) (F0 m 10 ls [])) {H : Heap} {locs : List Loc} {ls : Array Slot} (hl : lv_has ls 8 [(0, .ref (ad x0)), (1, .ref (ad x1)), (2, .ref (ad x2)), (3, .int x3), (4, .int x4), (5, .int x5), (6, .long x6)]) (G : aw_G D cA base ad σ d s H locs) : W p l e rm_X5_readHeads s m args below meth c H locs 0 0 (aw_Ev D cA base ad σ below args s z) (F0 m 108 ls []) := by
  have hx := X.1; have hb := X.2.1; have hml := X.2.2.1; have hown := X.2.2.2.1
  unfold f_X5_readHeads_J108 at hf
  refine lv_aload_n hx hb dX5_readHeads_108 rfl (lv_at hl 0 rfl) ?_
  obtain ⟨hc_11, hf⟩ := aw_chk_some hf
  obtain ⟨q_12, hq_13, hf⟩ := aw_bind_some hf
  refine gf_X5_15 hx hb G hown hc_11 hq_13 dX5_readHeads_109 ?_
  refine lv_iload hx hb dX5_readHeads_112 (lv_at hl 4 rfl) ?_
  refine lv_lload hx hb dX5_readHeads_114 (lv_at hl 6 rfl) ?_
  refine lv_aload_n hx hb dX5_readHeads_116 rfl (lv_at hl 1 rfl) ?_
  refine lv_iload hx hb dX5_readHeads_117 (lv_at hl 5 rfl) ?_
  refine lv_bipush (v := (8 : Int32)) hx hb dX5_readHeads_119 (by decide) ?_
  refine lv_iconst (v := (4 : Int32)) hx hb dX5_readHeads_121 (by decide) ?_
  obtain ⟨hc_16, hf⟩ := aw_chk_some hf
  obtain ⟨z_14, hz_15, hf⟩ := aw_bind_some hf
  refine aw_VI (As := [.int x5, .int ((8 : Int32)), .int ((4 : Int32))]) (rest := [.long x6, .int x4, .ref (ad q_12)]) X G hl.1 cr_X5_57 (c_X1_unitsWith l hz_15) ⟨rfl, rfl⟩ rfl rfl rfl (by decide) hc_16 rfl ⟨Nat.le_of_ble_eq_true rfl, Nat.le_of_ble_eq_true rfl⟩ (Nat.le_of_ble_eq_true rfl) dX5_readHeads_122 ⟨Nat.zero_le _, Nat.zero_le _⟩ (fun H locs G => ?_)
  refine lv_i2l hx hb dX5_readHeads_125 rfl ?_
  refine lv_lmul hx hb dX5_readHeads_126 ?_
  obtain ⟨hc_17, hf⟩ := aw_chk_some hf
  refine aw_las hx hb G hc_17 dX5_readHeads_127 (fun H locs G => ?_)
  exact w_X5_readHeads_J128 X hf hkb10 (lv_sub hl [0, 1, 2, 3, 4] rfl) G
set_option maxHeartbeats 4000000 in
set_option maxRecDepth 100000 in
theorem w_X5_readHeads_B10 {z : Unit × Dt} (X : aw_X p c cX5_readHeads 8 s RX5 m meth (none)) {kb10 : Int32 → Dt → Option (Unit × Dt)} {k10 : Dt → Option (Unit × Dt)} {x0 : Nat} {x1 : Nat} {x2 : Nat} {x3 : Int32} {x4 : Int32} {d : Dt} (hf : f_X5_readHeads_B10 σ kb10 k10 x0 x1 x2 x3 x4 d = some z) (hkb10 : ∀ (y4 : Int32) (d : Dt), kb10 y4 d = some z → ∀ (H : Heap) (locs : List Loc) (ls : Array Slot), lv_has ls 8 [(0, .ref (ad x0)), (1, .ref (ad x1)), (2, .ref (ad x2)), (3, .int x3), (4, .int y4)] → aw_G D cA base ad σ d s H locs → W p l e rm_X5_readHeads s m args below meth c H locs 0 0 (aw_Ev D cA base ad σ below args s z) (F0 m 10 ls [])) (hk10 : ∀ (d : Dt), k10 d = some z → ∀ (H : Heap) (locs : List Loc) (ls : Array Slot), lv_has ls 8 [] → aw_G D cA base ad σ d s H locs → W p l e rm_X5_readHeads s m args below meth c H locs 0 0 (aw_Ev D cA base ad σ below args s z) (F0 m 134 ls [])) {H : Heap} {locs : List Loc} {ls : Array Slot} (hl : lv_has ls 8 [(0, .ref (ad x0)), (1, .ref (ad x1)), (2, .ref (ad x2)), (3, .int x3), (4, .int x4)]) (G : aw_G D cA base ad σ d s H locs) : W p l e rm_X5_readHeads s m args below meth c H locs 0 0 (aw_Ev D cA base ad σ below args s z) (F0 m 10 ls []) := by
  have hx := X.1; have hb := X.2.1; have hml := X.2.2.1; have hown := X.2.2.2.1
  unfold f_X5_readHeads_B10 at hf
  refine lv_iload hx hb dX5_readHeads_10 (lv_at hl 4 rfl) ?_
  refine lv_iload_n hx hb dX5_readHeads_12 rfl (lv_at hl 3 rfl) ?_
  refine lv_icmp_gt (tgt := 134) hx hb dX5_readHeads_13 (by decide) (fun hc => ?_) (fun hc => ?_)
  · have hf := aw_ite_t hc hf
    exact hk10 _ hf _ _ _ (lv_sub hl [] rfl) G
  · have hf := aw_ite_f hc hf
    refine lv_aload_n hx hb dX5_readHeads_16 rfl (lv_at hl 2 rfl) ?_
    refine lv_iload hx hb dX5_readHeads_17 (lv_at hl 4 rfl) ?_
    refine lv_iconst (v := (1 : Int32)) hx hb dX5_readHeads_19 (by decide) ?_
    refine lv_isub hx hb dX5_readHeads_20 ?_
    obtain ⟨hc_5, hf⟩ := aw_chk_some hf
    refine aw_ial hx hb G hc_5 dX5_readHeads_21 ?_
    refine lv_istore (lv' := [(5, .int (d.1 x2 (x4 - ((1 : Int32))).toNatClampNeg)), (0, .ref (ad x0)), (1, .ref (ad x1)), (2, .ref (ad x2)), (3, .int x3), (4, .int x4)]) hx hb dX5_readHeads_22 hl (by decide) rfl (fun ls hl => ?_)
    refine lv_aload_n hx hb dX5_readHeads_24 rfl (lv_at hl 2 rfl) ?_
    obtain ⟨hc_6, hf⟩ := aw_chk_some hf
    refine gf_X5_51 hx hb G hown hc_6 dX5_readHeads_25 ?_
    refine lv_iconst (v := (1 : Int32)) hx hb dX5_readHeads_28 (by decide) ?_
    refine lv_icmp_ne (tgt := 62) hx hb dX5_readHeads_29 (by decide) (fun hc => ?_) (fun hc => ?_)
    · have hf := aw_ite_f hc hf
      refine lv_aload_n hx hb dX5_readHeads_62 rfl (lv_at hl 1 rfl) ?_
      obtain ⟨hc_7, hf⟩ := aw_chk_some hf
      obtain ⟨q_8, hq_9, hf⟩ := aw_bind_some hf
      refine gf_X5_9 hx hb G hown hc_7 hq_9 dX5_readHeads_63 ?_
      refine lv_iload hx hb dX5_readHeads_66 (lv_at hl 5 rfl) ?_
      refine lv_iconst (v := (1 : Int32)) hx hb dX5_readHeads_68 (by decide) ?_
      refine lv_isub hx hb dX5_readHeads_69 ?_
      obtain ⟨hc_10, hf⟩ := aw_chk_some hf
      refine aw_lal hx hb G hc_10 dX5_readHeads_70 ?_
      refine lv_lstore (lv' := [(6, .long (d.2 q_8 (x4 - ((1 : Int32))).toNatClampNeg)), (5, .int (d.1 x2 (x4 - ((1 : Int32))).toNatClampNeg)), (0, .ref (ad x0)), (1, .ref (ad x1)), (2, .ref (ad x2)), (3, .int x3), (4, .int x4)]) hx hb dX5_readHeads_71 hl (by decide) rfl (fun ls hl => ?_)
      refine lv_iload hx hb dX5_readHeads_73 (lv_at hl 6 rfl) ?_
      refine lv_iconst (v := (2 : Int32)) hx hb dX5_readHeads_75 (by decide) ?_
      refine lv_icmp_lt (tgt := 108) hx hb dX5_readHeads_76 (by decide) (fun hc => ?_) (fun hc => ?_)
      · have hf := aw_ite_t hc hf
        exact w_X5_readHeads_J108 X hf hkb10 (lv_sub hl [2, 3, 4, 5, 6, 1, 0] rfl) G
      · have hf := aw_ite_f hc hf
        refine lv_lload hx hb dX5_readHeads_79 (lv_at hl 0 rfl) ?_
        refine lv_aload_n hx hb dX5_readHeads_81 rfl (lv_at hl 2 rfl) ?_
        refine gf_X5_9 hx hb G hown hc_7 hq_9 dX5_readHeads_82 ?_
        refine lv_iload hx hb dX5_readHeads_85 (lv_at hl 6 rfl) ?_
        refine lv_iconst (v := (2 : Int32)) hx hb dX5_readHeads_87 (by decide) ?_
        refine lv_isub hx hb dX5_readHeads_88 ?_
        obtain ⟨hc_18, hf⟩ := aw_chk_some hf
        refine aw_lal hx hb G hc_18 dX5_readHeads_89 ?_
        refine lv_aload_n hx hb dX5_readHeads_90 rfl (lv_at hl 3 rfl) ?_
        refine lv_aload_n hx hb dX5_readHeads_91 rfl (lv_at hl 4 rfl) ?_
        refine lv_iload hx hb dX5_readHeads_92 (lv_at hl 6 rfl) ?_
        refine lv_iconst (v := (2 : Int32)) hx hb dX5_readHeads_94 (by decide) ?_
        refine lv_isub hx hb dX5_readHeads_95 ?_
        obtain ⟨hc_19, hf⟩ := aw_chk_some hf
        refine aw_ial hx hb G hc_19 dX5_readHeads_96 ?_
        refine lv_iconst (v := (0 : Int32)) hx hb dX5_readHeads_97 (by decide) ?_
        refine lv_bipush (v := (8 : Int32)) hx hb dX5_readHeads_98 (by decide) ?_
        obtain ⟨z_20, hz_21, hf⟩ := aw_bind_some hf
        refine aw_VI (As := [.int (d.1 x2 (x4 - ((2 : Int32))).toNatClampNeg), .int ((0 : Int32)), .int ((8 : Int32))]) (rest := [.long (d.2 q_8 (x4 - ((2 : Int32))).toNatClampNeg), .long (d.2 q_8 (x4 - ((1 : Int32))).toNatClampNeg)]) X G hl.1 cr_X5_57 (c_X1_unitsWith l hz_21) ⟨rfl, rfl⟩ rfl rfl rfl (by decide) hc_6 rfl ⟨Nat.le_of_ble_eq_true rfl, Nat.le_of_ble_eq_true rfl⟩ (Nat.le_of_ble_eq_true rfl) dX5_readHeads_100 ⟨Nat.zero_le _, Nat.zero_le _⟩ (fun H locs G => ?_)
        refine lv_i2l hx hb dX5_readHeads_103 rfl ?_
        refine lv_lmul hx hb dX5_readHeads_104 ?_
        refine lv_ladd hx hb dX5_readHeads_105 ?_
        refine lv_lstore (lv' := [(6, .long ((d.2 q_8 (x4 - ((1 : Int32))).toNatClampNeg) + ((d.2 q_8 (x4 - ((2 : Int32))).toNatClampNeg) * z_20.1.toInt64))), (5, .int (d.1 x2 (x4 - ((1 : Int32))).toNatClampNeg)), (0, .ref (ad x0)), (1, .ref (ad x1)), (2, .ref (ad x2)), (3, .int x3), (4, .int x4)]) hx hb dX5_readHeads_106 hl (by decide) rfl (fun ls hl => ?_)
        exact w_X5_readHeads_J108 X hf hkb10 (lv_sub hl [2, 3, 4, 5, 6, 1, 0] rfl) G
    · have hf := aw_ite_t hc hf
      refine lv_aload_n hx hb dX5_readHeads_32 rfl (lv_at hl 1 rfl) ?_
      obtain ⟨hc_22, hf⟩ := aw_chk_some hf
      obtain ⟨q_23, hq_24, hf⟩ := aw_bind_some hf
      refine gf_X5_15 hx hb G hown hc_22 hq_24 dX5_readHeads_33 ?_
      refine lv_iload hx hb dX5_readHeads_36 (lv_at hl 5 rfl) ?_
      refine lv_aload_n hx hb dX5_readHeads_38 rfl (lv_at hl 1 rfl) ?_
      obtain ⟨q_25, hq_26, hf⟩ := aw_bind_some hf
      refine gf_X5_9 hx hb G hown hc_22 hq_26 dX5_readHeads_39 ?_
      refine lv_iload hx hb dX5_readHeads_42 (lv_at hl 5 rfl) ?_
      refine lv_iconst (v := (1 : Int32)) hx hb dX5_readHeads_44 (by decide) ?_
      refine lv_isub hx hb dX5_readHeads_45 ?_
      obtain ⟨hc_27, hf⟩ := aw_chk_some hf
      refine aw_lal hx hb G hc_27 dX5_readHeads_46 ?_
      refine lv_aload_n hx hb dX5_readHeads_47 rfl (lv_at hl 2 rfl) ?_
      refine lv_iload hx hb dX5_readHeads_48 (lv_at hl 0 rfl) ?_
      refine lv_iconst (v := (0 : Int32)) hx hb dX5_readHeads_50 (by decide) ?_
      refine lv_bipush (v := (36 : Int32)) hx hb dX5_readHeads_51 (by decide) ?_
      obtain ⟨z_28, hz_29, hf⟩ := aw_bind_some hf
      refine aw_VI (As := [.int (d.1 x2 (x4 - ((1 : Int32))).toNatClampNeg), .int ((0 : Int32)), .int ((36 : Int32))]) (rest := [.long (d.2 q_25 (x4 - ((1 : Int32))).toNatClampNeg), .int x4, .ref (ad q_23)]) X G hl.1 cr_X5_57 (c_X1_unitsWith l hz_29) ⟨rfl, rfl⟩ rfl rfl rfl (by decide) hc_6 rfl ⟨Nat.le_of_ble_eq_true rfl, Nat.le_of_ble_eq_true rfl⟩ (Nat.le_of_ble_eq_true rfl) dX5_readHeads_53 ⟨Nat.zero_le _, Nat.zero_le _⟩ (fun H locs G => ?_)
      refine lv_i2l hx hb dX5_readHeads_56 rfl ?_
      refine lv_lmul hx hb dX5_readHeads_57 ?_
      obtain ⟨hc_30, hf⟩ := aw_chk_some hf
      refine aw_las hx hb G hc_30 dX5_readHeads_58 (fun H locs G => ?_)
      refine lv_goto (tgt := 128) hx hb dX5_readHeads_59 (by decide) ?_
      exact w_X5_readHeads_J128 X hf hkb10 (lv_sub hl [1, 2, 3, 4, 5] rfl) G
theorem w_X5_readHeads_L10 {z : Unit × Dt} (X : aw_X p c cX5_readHeads 8 s RX5 m meth (none)) {k10 : Dt → Option (Unit × Dt)} {x0 : Nat} {x1 : Nat} {x2 : Nat} {x3 : Int32} (n : Nat) {x4 : Int32} {d : Dt} (hf : f_X5_readHeads_L10 σ n k10 x0 x1 x2 x3 x4 d = some z) (hk10 : ∀ (d : Dt), k10 d = some z → ∀ (H : Heap) (locs : List Loc) (ls : Array Slot), lv_has ls 8 [] → aw_G D cA base ad σ d s H locs → W p l e rm_X5_readHeads s m args below meth c H locs 0 0 (aw_Ev D cA base ad σ below args s z) (F0 m 134 ls [])) {H : Heap} {locs : List Loc} {ls : Array Slot} (hl : lv_has ls 8 [(0, .ref (ad x0)), (1, .ref (ad x1)), (2, .ref (ad x2)), (3, .int x3), (4, .int x4)]) (G : aw_G D cA base ad σ d s H locs) : W p l e rm_X5_readHeads s m args below meth c H locs 0 0 (aw_Ev D cA base ad σ below args s z) (F0 m 10 ls []) := by
  induction n generalizing x4 d H locs ls with
  | zero => exact absurd (show (none : Option (Unit × Dt)) = some z from hf) (by simp)
  | succ n ih => exact w_X5_readHeads_B10 X (kb10 := f_X5_readHeads_L10 σ n k10 x0 x1 x2 x3) hf  (fun x4 d hf H locs ls hl G => ih hf hl G) hk10 hl G
end W_X5_readHeads
set_option maxHeartbeats 4000000 in
set_option maxRecDepth 100000 in
theorem c_X5_readHeads (l : Launch) {σ : Sg} {x0 : Nat} {x1 : Nat} {x2 : Nat} {x3 : Int32} {d : Dt} {z : Unit × Dt} (hf : f_X5_readHeads σ x0 x1 x2 x3 d = some z) : aw_Mv l yX5_readHeads (Cond.code yX5_readHeads cX5_readHeads 8 (none)) rm_X5_readHeads (fun ad => [.ref (ad x0), .ref (ad x1), .ref (ad x2), .int x3]) σ d z := by
  intro D cA base ad
  refine aw_ofW (own := RX5) (cc := cX5_readHeads) (nL := 8) (ret := none) (by decide) rfl rfl ?_
  intro p e s m below meth c X hnm G
  have hx := X.1; have hb := X.2.1; have hml := X.2.2.1; have hown := X.2.2.2.1
  refine aw_ls (lv := [(0, .ref (ad x0)), (1, .ref (ad x1)), (2, .ref (ad x2)), (3, .int x3)]) (Nat.le_of_ble_eq_true rfl) rfl (fun ls hl => ?_)
  unfold f_X5_readHeads at hf
  refine lv_aload_n hx hb dX5_readHeads_0 rfl (lv_at hl 0 rfl) ?_
  obtain ⟨hc_1, hf⟩ := aw_chk_some hf
  obtain ⟨q_2, hq_3, hf⟩ := aw_bind_some hf
  refine gf_X5_15 hx hb G hown hc_1 hq_3 dX5_readHeads_1 ?_
  refine lv_iconst (v := (0 : Int32)) hx hb dX5_readHeads_4 (by decide) ?_
  refine lv_lconst (v := (0 : Int64)) hx hb dX5_readHeads_5 (by decide) ?_
  obtain ⟨hc_4, hf⟩ := aw_chk_some hf
  refine aw_las hx hb G hc_4 dX5_readHeads_6 (fun H locs G => ?_)
  refine lv_iconst (v := (1 : Int32)) hx hb dX5_readHeads_7 (by decide) ?_
  refine lv_istore (lv' := [(4, .int ((1 : Int32))), (0, .ref (ad x0)), (1, .ref (ad x1)), (2, .ref (ad x2)), (3, .int x3)]) hx hb dX5_readHeads_8 hl (by decide) rfl (fun ls hl => ?_)
  refine w_X5_readHeads_L10 X aw_FU hf  (fun d_31 hf H locs ls hl G => ?_) (lv_sub hl [1, 2, 3, 4, 0] rfl) G
  exact aw_retv X G hf dX5_readHeads_134
def rm_X5_readTones : Room := { frames := 1, cells := 0, slots := 0, locals := 23 }
def f_X5_readTones_B25 (σ : Sg) (kb25 : Int32 → Dt → Option (Unit × Dt)) (k25 : Dt → Option (Unit × Dt)) (x0 : Nat) (x1 : Nat) (x2 : Nat) (x3 : Int32) (x4 : Int32) (x5 : Int32) (d : Dt) : Option (Unit × Dt) :=
  if x3 < x5 then k25 d else aw_chk (aw_O σ 5 6 x0) ((σ.2.2 x0 2).bind (fun q_12 => (σ.2.2 x0 1).bind (fun q_14 => aw_chk (aw_I σ 21 q_14 x5) (aw_chk (aw_I σ 21 q_14 (x5 - ((1 : Int32)))) (aw_chk (aw_I σ 20 x2 (x5 - ((1 : Int32)))) (aw_chk (aw_O σ 1 5 x1) ((f_X1_markedTonesWith σ x1 (d.1 x2 (x5 - ((1 : Int32))).toNatClampNeg) d).bind (fun z_19 => aw_chk (aw_I σ 21 q_12 x5) (kb25 (x5 + 1) (aw_sL z_19.2 q_12 x5.toNatClampNeg (((d.2 q_14 x5.toNatClampNeg) * x4.toInt64) + ((d.2 q_14 (x5 - ((1 : Int32))).toNatClampNeg) * z_19.1.toInt64))))))))))))
def f_X5_readTones_L25 (σ : Sg) (n : Nat) (k25 : Dt → Option (Unit × Dt)) (x0 : Nat) (x1 : Nat) (x2 : Nat) (x3 : Int32) (x4 : Int32) : Int32 → Dt → Option (Unit × Dt) := match n with
  | 0 => fun _ _ => none
  | n + 1 => fun x5 d => f_X5_readTones_B25 σ (f_X5_readTones_L25 σ n k25 x0 x1 x2 x3 x4) k25 x0 x1 x2 x3 x4 x5 d
def f_X5_readTones (σ : Sg) (x0 : Nat) (x1 : Nat) (x2 : Nat) (x3 : Int32) (d : Dt) : Option (Unit × Dt) :=
  aw_chk (aw_O σ 1 5 x1) ((f_X1_unmarkedTones σ x1 d).bind (fun z_1 => aw_chk (aw_O σ 5 6 x0) ((σ.2.2 x0 2).bind (fun q_5 => (σ.2.2 x0 1).bind (fun q_7 => aw_chk (aw_I σ 21 q_7 ((0 : Int32))) (aw_chk (aw_I σ 21 q_5 ((0 : Int32))) (f_X5_readTones_L25 σ aw_FU (fun d_23 => some ((), d_23)) x0 x1 x2 x3 z_1.1 ((1 : Int32)) (aw_sL z_1.2 q_5 ((0 : Int32)).toNatClampNeg ((z_1.2.2 q_7 ((0 : Int32)).toNatClampNeg) * z_1.1.toInt64)))))))))
section W_X5_readTones
variable {p : Program} {l : Launch} {e : Env} {s : State} {m : MethodId} {args : Array Value} {below : List Frame} {meth : Method} {c : Code}
variable {D : va_G} {cA : Nat → ClassId} {base : Nat} {ad : Nat → Nat} {σ : Sg}
set_option maxHeartbeats 4000000 in
set_option maxRecDepth 100000 in
theorem w_X5_readTones_B25 {z : Unit × Dt} (X : aw_X p c cX5_readTones 6 s RX5 m meth (none)) {kb25 : Int32 → Dt → Option (Unit × Dt)} {k25 : Dt → Option (Unit × Dt)} {x0 : Nat} {x1 : Nat} {x2 : Nat} {x3 : Int32} {x4 : Int32} {x5 : Int32} {d : Dt} (hf : f_X5_readTones_B25 σ kb25 k25 x0 x1 x2 x3 x4 x5 d = some z) (hkb25 : ∀ (y5 : Int32) (d : Dt), kb25 y5 d = some z → ∀ (H : Heap) (locs : List Loc) (ls : Array Slot), lv_has ls 6 [(0, .ref (ad x0)), (1, .ref (ad x1)), (2, .ref (ad x2)), (3, .int x3), (4, .int x4), (5, .int y5)] → aw_G D cA base ad σ d s H locs → W p l e rm_X5_readTones s m args below meth c H locs 0 0 (aw_Ev D cA base ad σ below args s z) (F0 m 25 ls [])) (hk25 : ∀ (d : Dt), k25 d = some z → ∀ (H : Heap) (locs : List Loc) (ls : Array Slot), lv_has ls 6 [] → aw_G D cA base ad σ d s H locs → W p l e rm_X5_readTones s m args below meth c H locs 0 0 (aw_Ev D cA base ad σ below args s z) (F0 m 77 ls [])) {H : Heap} {locs : List Loc} {ls : Array Slot} (hl : lv_has ls 6 [(0, .ref (ad x0)), (1, .ref (ad x1)), (2, .ref (ad x2)), (3, .int x3), (4, .int x4), (5, .int x5)]) (G : aw_G D cA base ad σ d s H locs) : W p l e rm_X5_readTones s m args below meth c H locs 0 0 (aw_Ev D cA base ad σ below args s z) (F0 m 25 ls []) := by
  have hx := X.1; have hb := X.2.1; have hml := X.2.2.1; have hown := X.2.2.2.1
  unfold f_X5_readTones_B25 at hf
  refine lv_iload hx hb dX5_readTones_25 (lv_at hl 5 rfl) ?_
  refine lv_iload_n hx hb dX5_readTones_27 rfl (lv_at hl 3 rfl) ?_
  refine lv_icmp_gt (tgt := 77) hx hb dX5_readTones_28 (by decide) (fun hc => ?_) (fun hc => ?_)
  · have hf := aw_ite_t hc hf
    exact hk25 _ hf _ _ _ (lv_sub hl [] rfl) G
  · have hf := aw_ite_f hc hf
    refine lv_aload_n hx hb dX5_readTones_31 rfl (lv_at hl 0 rfl) ?_
    obtain ⟨hc_11, hf⟩ := aw_chk_some hf
    obtain ⟨q_12, hq_13, hf⟩ := aw_bind_some hf
    refine gf_X5_18 hx hb G hown hc_11 hq_13 dX5_readTones_32 ?_
    refine lv_iload hx hb dX5_readTones_35 (lv_at hl 5 rfl) ?_
    refine lv_aload_n hx hb dX5_readTones_37 rfl (lv_at hl 0 rfl) ?_
    obtain ⟨q_14, hq_15, hf⟩ := aw_bind_some hf
    refine gf_X5_15 hx hb G hown hc_11 hq_15 dX5_readTones_38 ?_
    refine lv_iload hx hb dX5_readTones_41 (lv_at hl 5 rfl) ?_
    obtain ⟨hc_16, hf⟩ := aw_chk_some hf
    refine aw_lal hx hb G hc_16 dX5_readTones_43 ?_
    refine lv_iload hx hb dX5_readTones_44 (lv_at hl 4 rfl) ?_
    refine lv_i2l hx hb dX5_readTones_46 rfl ?_
    refine lv_lmul hx hb dX5_readTones_47 ?_
    refine lv_aload_n hx hb dX5_readTones_48 rfl (lv_at hl 0 rfl) ?_
    refine gf_X5_15 hx hb G hown hc_11 hq_15 dX5_readTones_49 ?_
    refine lv_iload hx hb dX5_readTones_52 (lv_at hl 5 rfl) ?_
    refine lv_iconst (v := (1 : Int32)) hx hb dX5_readTones_54 (by decide) ?_
    refine lv_isub hx hb dX5_readTones_55 ?_
    obtain ⟨hc_17, hf⟩ := aw_chk_some hf
    refine aw_lal hx hb G hc_17 dX5_readTones_56 ?_
    refine lv_aload_n hx hb dX5_readTones_57 rfl (lv_at hl 1 rfl) ?_
    refine lv_aload_n hx hb dX5_readTones_58 rfl (lv_at hl 2 rfl) ?_
    refine lv_iload hx hb dX5_readTones_59 (lv_at hl 5 rfl) ?_
    refine lv_iconst (v := (1 : Int32)) hx hb dX5_readTones_61 (by decide) ?_
    refine lv_isub hx hb dX5_readTones_62 ?_
    obtain ⟨hc_18, hf⟩ := aw_chk_some hf
    refine aw_ial hx hb G hc_18 dX5_readTones_63 ?_
    obtain ⟨hc_21, hf⟩ := aw_chk_some hf
    obtain ⟨z_19, hz_20, hf⟩ := aw_bind_some hf
    refine aw_VI (As := [.int (d.1 x2 (x5 - ((1 : Int32))).toNatClampNeg)]) (rest := [.long (d.2 q_14 (x5 - ((1 : Int32))).toNatClampNeg), .long ((d.2 q_14 x5.toNatClampNeg) * x4.toInt64), .int x5, .ref (ad q_12)]) X G hl.1 cr_X5_65 (c_X1_markedTonesWith l hz_20) ⟨rfl, rfl⟩ rfl rfl rfl (by decide) hc_21 rfl ⟨Nat.le_of_ble_eq_true rfl, Nat.le_of_ble_eq_true rfl⟩ (Nat.le_of_ble_eq_true rfl) dX5_readTones_64 ⟨Nat.zero_le _, Nat.zero_le _⟩ (fun H locs G => ?_)
    refine lv_i2l hx hb dX5_readTones_67 rfl ?_
    refine lv_lmul hx hb dX5_readTones_68 ?_
    refine lv_ladd hx hb dX5_readTones_69 ?_
    obtain ⟨hc_22, hf⟩ := aw_chk_some hf
    refine aw_las hx hb G hc_22 dX5_readTones_70 (fun H locs G => ?_)
    refine lv_iinc (v := x5 + 1) (lv' := [(5, .int (x5 + 1)), (0, .ref (ad x0)), (1, .ref (ad x1)), (2, .ref (ad x2)), (3, .int x3), (4, .int x4)]) hx hb dX5_readTones_71 hl (k := 5) rfl rfl (by decide) rfl (fun ls hl => ?_)
    refine lv_goto (tgt := 25) hx hb dX5_readTones_74 (by decide) ?_
    exact hkb25 _ _ hf _ _ _ (lv_sub hl [1, 2, 3, 4, 5, 0] rfl) G
theorem w_X5_readTones_L25 {z : Unit × Dt} (X : aw_X p c cX5_readTones 6 s RX5 m meth (none)) {k25 : Dt → Option (Unit × Dt)} {x0 : Nat} {x1 : Nat} {x2 : Nat} {x3 : Int32} {x4 : Int32} (n : Nat) {x5 : Int32} {d : Dt} (hf : f_X5_readTones_L25 σ n k25 x0 x1 x2 x3 x4 x5 d = some z) (hk25 : ∀ (d : Dt), k25 d = some z → ∀ (H : Heap) (locs : List Loc) (ls : Array Slot), lv_has ls 6 [] → aw_G D cA base ad σ d s H locs → W p l e rm_X5_readTones s m args below meth c H locs 0 0 (aw_Ev D cA base ad σ below args s z) (F0 m 77 ls [])) {H : Heap} {locs : List Loc} {ls : Array Slot} (hl : lv_has ls 6 [(0, .ref (ad x0)), (1, .ref (ad x1)), (2, .ref (ad x2)), (3, .int x3), (4, .int x4), (5, .int x5)]) (G : aw_G D cA base ad σ d s H locs) : W p l e rm_X5_readTones s m args below meth c H locs 0 0 (aw_Ev D cA base ad σ below args s z) (F0 m 25 ls []) := by
  induction n generalizing x5 d H locs ls with
  | zero => exact absurd (show (none : Option (Unit × Dt)) = some z from hf) (by simp)
  | succ n ih => exact w_X5_readTones_B25 X (kb25 := f_X5_readTones_L25 σ n k25 x0 x1 x2 x3 x4) hf  (fun x5 d hf H locs ls hl G => ih hf hl G) hk25 hl G
end W_X5_readTones
set_option maxHeartbeats 4000000 in
set_option maxRecDepth 100000 in
theorem c_X5_readTones (l : Launch) {σ : Sg} {x0 : Nat} {x1 : Nat} {x2 : Nat} {x3 : Int32} {d : Dt} {z : Unit × Dt} (hf : f_X5_readTones σ x0 x1 x2 x3 d = some z) : aw_Mv l yX5_readTones (Cond.code yX5_readTones cX5_readTones 6 (none)) rm_X5_readTones (fun ad => [.ref (ad x0), .ref (ad x1), .ref (ad x2), .int x3]) σ d z := by
  intro D cA base ad
  refine aw_ofW (own := RX5) (cc := cX5_readTones) (nL := 6) (ret := none) (by decide) rfl rfl ?_
  intro p e s m below meth c X hnm G
  have hx := X.1; have hb := X.2.1; have hml := X.2.2.1; have hown := X.2.2.2.1
  refine aw_ls (lv := [(0, .ref (ad x0)), (1, .ref (ad x1)), (2, .ref (ad x2)), (3, .int x3)]) (Nat.le_of_ble_eq_true rfl) rfl (fun ls hl => ?_)
  unfold f_X5_readTones at hf
  refine lv_aload_n hx hb dX5_readTones_0 rfl (lv_at hl 1 rfl) ?_
  obtain ⟨hc_3, hf⟩ := aw_chk_some hf
  obtain ⟨z_1, hz_2, hf⟩ := aw_bind_some hf
  refine aw_VI (As := []) (rest := []) X G hl.1 cr_X5_61 (c_X1_unmarkedTones l hz_2) ⟨rfl, rfl⟩ rfl rfl rfl (by decide) hc_3 rfl ⟨Nat.le_of_ble_eq_true rfl, Nat.le_of_ble_eq_true rfl⟩ (Nat.le_of_ble_eq_true rfl) dX5_readTones_1 ⟨Nat.zero_le _, Nat.zero_le _⟩ (fun H locs G => ?_)
  refine lv_istore (lv' := [(4, .int z_1.1), (0, .ref (ad x0)), (1, .ref (ad x1)), (2, .ref (ad x2)), (3, .int x3)]) hx hb dX5_readTones_4 hl (by decide) rfl (fun ls hl => ?_)
  refine lv_aload_n hx hb dX5_readTones_6 rfl (lv_at hl 1 rfl) ?_
  obtain ⟨hc_4, hf⟩ := aw_chk_some hf
  obtain ⟨q_5, hq_6, hf⟩ := aw_bind_some hf
  refine gf_X5_18 hx hb G hown hc_4 hq_6 dX5_readTones_7 ?_
  refine lv_iconst (v := (0 : Int32)) hx hb dX5_readTones_10 (by decide) ?_
  refine lv_aload_n hx hb dX5_readTones_11 rfl (lv_at hl 1 rfl) ?_
  obtain ⟨q_7, hq_8, hf⟩ := aw_bind_some hf
  refine gf_X5_15 hx hb G hown hc_4 hq_8 dX5_readTones_12 ?_
  refine lv_iconst (v := (0 : Int32)) hx hb dX5_readTones_15 (by decide) ?_
  obtain ⟨hc_9, hf⟩ := aw_chk_some hf
  refine aw_lal hx hb G hc_9 dX5_readTones_16 ?_
  refine lv_iload hx hb dX5_readTones_17 (lv_at hl 0 rfl) ?_
  refine lv_i2l hx hb dX5_readTones_19 rfl ?_
  refine lv_lmul hx hb dX5_readTones_20 ?_
  obtain ⟨hc_10, hf⟩ := aw_chk_some hf
  refine aw_las hx hb G hc_10 dX5_readTones_21 (fun H locs G => ?_)
  refine lv_iconst (v := (1 : Int32)) hx hb dX5_readTones_22 (by decide) ?_
  refine lv_istore (lv' := [(5, .int ((1 : Int32))), (4, .int z_1.1), (0, .ref (ad x0)), (1, .ref (ad x1)), (2, .ref (ad x2)), (3, .int x3)]) hx hb dX5_readTones_23 hl (by decide) rfl (fun ls hl => ?_)
  refine w_X5_readTones_L25 X aw_FU hf  (fun d_23 hf H locs ls hl G => ?_) (lv_sub hl [2, 3, 4, 5, 1, 0] rfl) G
  exact aw_retv X G hf dX5_readTones_77
def rm_X5_readCodas : Room := { frames := 1, cells := 0, slots := 0, locals := 25 }
def f_X5_readCodas_B15 (σ : Sg) (kb15 : Int32 → Dt → Option (Unit × Dt)) (k15 : Dt → Option (Unit × Dt)) (x0 : Nat) (x1 : Nat) (x2 : Nat) (x3 : Int32) (x4 : Int32) (d : Dt) : Option (Unit × Dt) :=
  if x3 < x4 then k15 d else aw_chk (aw_I σ 20 x2 (x4 - ((1 : Int32)))) (aw_chk (aw_O σ 1 5 x1) ((f_X1_codaUnits σ x1 d).bind (fun z_9 => (f_X1_unitsWith σ x1 (d.1 x2 (x4 - ((1 : Int32))).toNatClampNeg) z_9.1 ((8 : Int32)) z_9.2).bind (fun z_12 => aw_chk (aw_O σ 5 6 x0) ((σ.2.2 x0 0).bind (fun q_15 => (σ.2.2 x0 2).bind (fun q_17 => aw_chk (aw_I σ 21 q_17 x4) (aw_chk (aw_I σ 21 q_17 (x4 - ((1 : Int32)))) (aw_chk (aw_I σ 21 q_15 x4) (kb15 (x4 + 1) (aw_sL z_12.2 q_15 x4.toNatClampNeg ((z_12.2.2 q_17 x4.toNatClampNeg) + ((z_12.2.2 q_17 (x4 - ((1 : Int32))).toNatClampNeg) * z_12.1.toInt64)))))))))))))
def f_X5_readCodas_L15 (σ : Sg) (n : Nat) (k15 : Dt → Option (Unit × Dt)) (x0 : Nat) (x1 : Nat) (x2 : Nat) (x3 : Int32) : Int32 → Dt → Option (Unit × Dt) := match n with
  | 0 => fun _ _ => none
  | n + 1 => fun x4 d => f_X5_readCodas_B15 σ (f_X5_readCodas_L15 σ n k15 x0 x1 x2 x3) k15 x0 x1 x2 x3 x4 d
def f_X5_readCodas (σ : Sg) (x0 : Nat) (x1 : Nat) (x2 : Nat) (x3 : Int32) (d : Dt) : Option (Unit × Dt) :=
  aw_chk (aw_O σ 5 6 x0) ((σ.2.2 x0 0).bind (fun q_2 => (σ.2.2 x0 2).bind (fun q_4 => aw_chk (aw_I σ 21 q_4 ((0 : Int32))) (aw_chk (aw_I σ 21 q_2 ((0 : Int32))) (f_X5_readCodas_L15 σ aw_FU (fun d_22 => some ((), d_22)) x0 x1 x2 x3 ((1 : Int32)) (aw_sL d q_2 ((0 : Int32)).toNatClampNeg (d.2 q_4 ((0 : Int32)).toNatClampNeg)))))))
section W_X5_readCodas
variable {p : Program} {l : Launch} {e : Env} {s : State} {m : MethodId} {args : Array Value} {below : List Frame} {meth : Method} {c : Code}
variable {D : va_G} {cA : Nat → ClassId} {base : Nat} {ad : Nat → Nat} {σ : Sg}
set_option maxHeartbeats 4000000 in
set_option maxRecDepth 100000 in
theorem w_X5_readCodas_B15 {z : Unit × Dt} (X : aw_X p c cX5_readCodas 6 s RX5 m meth (none)) {kb15 : Int32 → Dt → Option (Unit × Dt)} {k15 : Dt → Option (Unit × Dt)} {x0 : Nat} {x1 : Nat} {x2 : Nat} {x3 : Int32} {x4 : Int32} {d : Dt} (hf : f_X5_readCodas_B15 σ kb15 k15 x0 x1 x2 x3 x4 d = some z) (hkb15 : ∀ (y4 : Int32) (d : Dt), kb15 y4 d = some z → ∀ (H : Heap) (locs : List Loc) (ls : Array Slot), lv_has ls 6 [(0, .ref (ad x0)), (1, .ref (ad x1)), (2, .ref (ad x2)), (3, .int x3), (4, .int y4)] → aw_G D cA base ad σ d s H locs → W p l e rm_X5_readCodas s m args below meth c H locs 0 0 (aw_Ev D cA base ad σ below args s z) (F0 m 15 ls [])) (hk15 : ∀ (d : Dt), k15 d = some z → ∀ (H : Heap) (locs : List Loc) (ls : Array Slot), lv_has ls 6 [] → aw_G D cA base ad σ d s H locs → W p l e rm_X5_readCodas s m args below meth c H locs 0 0 (aw_Ev D cA base ad σ below args s z) (F0 m 73 ls [])) {H : Heap} {locs : List Loc} {ls : Array Slot} (hl : lv_has ls 6 [(0, .ref (ad x0)), (1, .ref (ad x1)), (2, .ref (ad x2)), (3, .int x3), (4, .int x4)]) (G : aw_G D cA base ad σ d s H locs) : W p l e rm_X5_readCodas s m args below meth c H locs 0 0 (aw_Ev D cA base ad σ below args s z) (F0 m 15 ls []) := by
  have hx := X.1; have hb := X.2.1; have hml := X.2.2.1; have hown := X.2.2.2.1
  unfold f_X5_readCodas_B15 at hf
  refine lv_iload hx hb dX5_readCodas_15 (lv_at hl 4 rfl) ?_
  refine lv_iload_n hx hb dX5_readCodas_17 rfl (lv_at hl 3 rfl) ?_
  refine lv_icmp_gt (tgt := 73) hx hb dX5_readCodas_18 (by decide) (fun hc => ?_) (fun hc => ?_)
  · have hf := aw_ite_t hc hf
    exact hk15 _ hf _ _ _ (lv_sub hl [] rfl) G
  · have hf := aw_ite_f hc hf
    refine lv_aload_n hx hb dX5_readCodas_21 rfl (lv_at hl 1 rfl) ?_
    refine lv_aload_n hx hb dX5_readCodas_22 rfl (lv_at hl 2 rfl) ?_
    refine lv_iload hx hb dX5_readCodas_23 (lv_at hl 4 rfl) ?_
    refine lv_iconst (v := (1 : Int32)) hx hb dX5_readCodas_25 (by decide) ?_
    refine lv_isub hx hb dX5_readCodas_26 ?_
    obtain ⟨hc_8, hf⟩ := aw_chk_some hf
    refine aw_ial hx hb G hc_8 dX5_readCodas_27 ?_
    refine lv_aload_n hx hb dX5_readCodas_28 rfl (lv_at hl 1 rfl) ?_
    obtain ⟨hc_11, hf⟩ := aw_chk_some hf
    obtain ⟨z_9, hz_10, hf⟩ := aw_bind_some hf
    refine aw_VI (As := []) (rest := [.int (d.1 x2 (x4 - ((1 : Int32))).toNatClampNeg), .ref (ad x1)]) X G hl.1 cr_X5_69 (c_X1_codaUnits l hz_10) ⟨rfl, rfl⟩ rfl rfl rfl (by decide) hc_11 rfl ⟨Nat.le_of_ble_eq_true rfl, Nat.le_of_ble_eq_true rfl⟩ (Nat.le_of_ble_eq_true rfl) dX5_readCodas_29 ⟨Nat.zero_le _, Nat.zero_le _⟩ (fun H locs G => ?_)
    refine lv_bipush (v := (8 : Int32)) hx hb dX5_readCodas_32 (by decide) ?_
    obtain ⟨z_12, hz_13, hf⟩ := aw_bind_some hf
    refine aw_VI (As := [.int (d.1 x2 (x4 - ((1 : Int32))).toNatClampNeg), .int z_9.1, .int ((8 : Int32))]) (rest := []) X G hl.1 cr_X5_57 (c_X1_unitsWith l hz_13) ⟨rfl, rfl⟩ rfl rfl rfl (by decide) hc_11 rfl ⟨Nat.le_of_ble_eq_true rfl, Nat.le_of_ble_eq_true rfl⟩ (Nat.le_of_ble_eq_true rfl) dX5_readCodas_34 ⟨Nat.zero_le _, Nat.zero_le _⟩ (fun H locs G => ?_)
    refine lv_istore (lv' := [(5, .int z_12.1), (0, .ref (ad x0)), (1, .ref (ad x1)), (2, .ref (ad x2)), (3, .int x3), (4, .int x4)]) hx hb dX5_readCodas_37 hl (by decide) rfl (fun ls hl => ?_)
    refine lv_aload_n hx hb dX5_readCodas_39 rfl (lv_at hl 1 rfl) ?_
    obtain ⟨hc_14, hf⟩ := aw_chk_some hf
    obtain ⟨q_15, hq_16, hf⟩ := aw_bind_some hf
    refine gf_X5_9 hx hb G hown hc_14 hq_16 dX5_readCodas_40 ?_
    refine lv_iload hx hb dX5_readCodas_43 (lv_at hl 5 rfl) ?_
    refine lv_aload_n hx hb dX5_readCodas_45 rfl (lv_at hl 1 rfl) ?_
    obtain ⟨q_17, hq_18, hf⟩ := aw_bind_some hf
    refine gf_X5_18 hx hb G hown hc_14 hq_18 dX5_readCodas_46 ?_
    refine lv_iload hx hb dX5_readCodas_49 (lv_at hl 5 rfl) ?_
    obtain ⟨hc_19, hf⟩ := aw_chk_some hf
    refine aw_lal hx hb G hc_19 dX5_readCodas_51 ?_
    refine lv_aload_n hx hb dX5_readCodas_52 rfl (lv_at hl 1 rfl) ?_
    refine gf_X5_18 hx hb G hown hc_14 hq_18 dX5_readCodas_53 ?_
    refine lv_iload hx hb dX5_readCodas_56 (lv_at hl 5 rfl) ?_
    refine lv_iconst (v := (1 : Int32)) hx hb dX5_readCodas_58 (by decide) ?_
    refine lv_isub hx hb dX5_readCodas_59 ?_
    obtain ⟨hc_20, hf⟩ := aw_chk_some hf
    refine aw_lal hx hb G hc_20 dX5_readCodas_60 ?_
    refine lv_iload hx hb dX5_readCodas_61 (lv_at hl 0 rfl) ?_
    refine lv_i2l hx hb dX5_readCodas_63 rfl ?_
    refine lv_lmul hx hb dX5_readCodas_64 ?_
    refine lv_ladd hx hb dX5_readCodas_65 ?_
    obtain ⟨hc_21, hf⟩ := aw_chk_some hf
    refine aw_las hx hb G hc_21 dX5_readCodas_66 (fun H locs G => ?_)
    refine lv_iinc (v := x4 + 1) (lv' := [(4, .int (x4 + 1)), (5, .int z_12.1), (0, .ref (ad x0)), (1, .ref (ad x1)), (2, .ref (ad x2)), (3, .int x3)]) hx hb dX5_readCodas_67 hl (k := 5) rfl rfl (by decide) rfl (fun ls hl => ?_)
    refine lv_goto (tgt := 15) hx hb dX5_readCodas_70 (by decide) ?_
    exact hkb15 _ _ hf _ _ _ (lv_sub hl [2, 3, 4, 5, 0] rfl) G
theorem w_X5_readCodas_L15 {z : Unit × Dt} (X : aw_X p c cX5_readCodas 6 s RX5 m meth (none)) {k15 : Dt → Option (Unit × Dt)} {x0 : Nat} {x1 : Nat} {x2 : Nat} {x3 : Int32} (n : Nat) {x4 : Int32} {d : Dt} (hf : f_X5_readCodas_L15 σ n k15 x0 x1 x2 x3 x4 d = some z) (hk15 : ∀ (d : Dt), k15 d = some z → ∀ (H : Heap) (locs : List Loc) (ls : Array Slot), lv_has ls 6 [] → aw_G D cA base ad σ d s H locs → W p l e rm_X5_readCodas s m args below meth c H locs 0 0 (aw_Ev D cA base ad σ below args s z) (F0 m 73 ls [])) {H : Heap} {locs : List Loc} {ls : Array Slot} (hl : lv_has ls 6 [(0, .ref (ad x0)), (1, .ref (ad x1)), (2, .ref (ad x2)), (3, .int x3), (4, .int x4)]) (G : aw_G D cA base ad σ d s H locs) : W p l e rm_X5_readCodas s m args below meth c H locs 0 0 (aw_Ev D cA base ad σ below args s z) (F0 m 15 ls []) := by
  induction n generalizing x4 d H locs ls with
  | zero => exact absurd (show (none : Option (Unit × Dt)) = some z from hf) (by simp)
  | succ n ih => exact w_X5_readCodas_B15 X (kb15 := f_X5_readCodas_L15 σ n k15 x0 x1 x2 x3) hf  (fun x4 d hf H locs ls hl G => ih hf hl G) hk15 hl G
end W_X5_readCodas
set_option maxHeartbeats 4000000 in
set_option maxRecDepth 100000 in
theorem c_X5_readCodas (l : Launch) {σ : Sg} {x0 : Nat} {x1 : Nat} {x2 : Nat} {x3 : Int32} {d : Dt} {z : Unit × Dt} (hf : f_X5_readCodas σ x0 x1 x2 x3 d = some z) : aw_Mv l yX5_readCodas (Cond.code yX5_readCodas cX5_readCodas 6 (none)) rm_X5_readCodas (fun ad => [.ref (ad x0), .ref (ad x1), .ref (ad x2), .int x3]) σ d z := by
  intro D cA base ad
  refine aw_ofW (own := RX5) (cc := cX5_readCodas) (nL := 6) (ret := none) (by decide) rfl rfl ?_
  intro p e s m below meth c X hnm G
  have hx := X.1; have hb := X.2.1; have hml := X.2.2.1; have hown := X.2.2.2.1
  refine aw_ls (lv := [(0, .ref (ad x0)), (1, .ref (ad x1)), (2, .ref (ad x2)), (3, .int x3)]) (Nat.le_of_ble_eq_true rfl) rfl (fun ls hl => ?_)
  unfold f_X5_readCodas at hf
  refine lv_aload_n hx hb dX5_readCodas_0 rfl (lv_at hl 0 rfl) ?_
  obtain ⟨hc_1, hf⟩ := aw_chk_some hf
  obtain ⟨q_2, hq_3, hf⟩ := aw_bind_some hf
  refine gf_X5_9 hx hb G hown hc_1 hq_3 dX5_readCodas_1 ?_
  refine lv_iconst (v := (0 : Int32)) hx hb dX5_readCodas_4 (by decide) ?_
  refine lv_aload_n hx hb dX5_readCodas_5 rfl (lv_at hl 0 rfl) ?_
  obtain ⟨q_4, hq_5, hf⟩ := aw_bind_some hf
  refine gf_X5_18 hx hb G hown hc_1 hq_5 dX5_readCodas_6 ?_
  refine lv_iconst (v := (0 : Int32)) hx hb dX5_readCodas_9 (by decide) ?_
  obtain ⟨hc_6, hf⟩ := aw_chk_some hf
  refine aw_lal hx hb G hc_6 dX5_readCodas_10 ?_
  obtain ⟨hc_7, hf⟩ := aw_chk_some hf
  refine aw_las hx hb G hc_7 dX5_readCodas_11 (fun H locs G => ?_)
  refine lv_iconst (v := (1 : Int32)) hx hb dX5_readCodas_12 (by decide) ?_
  refine lv_istore (lv' := [(4, .int ((1 : Int32))), (0, .ref (ad x0)), (1, .ref (ad x1)), (2, .ref (ad x2)), (3, .int x3)]) hx hb dX5_readCodas_13 hl (by decide) rfl (fun ls hl => ?_)
  refine w_X5_readCodas_L15 X aw_FU hf  (fun d_22 hf H locs ls hl G => ?_) (lv_sub hl [1, 2, 3, 4, 0] rfl) G
  exact aw_retv X G hf dX5_readCodas_73
def rm_X5_countByUnits : Room := { frames := 2, cells := 0, slots := 0, locals := 52 }
def f_X5_countByUnits_B21 (σ : Sg) (kb21 : Int64 → Int32 → Dt → Option (Int64 × Dt)) (k21 : Int64 → Dt → Option (Int64 × Dt)) (x0 : Nat) (x1 : Nat) (x2 : Nat) (x3 : Int32) (x4 : Int64) (x6 : Int32) (d : Dt) : Option (Int64 × Dt) :=
  if ((4 : Int32)) < x6 then k21 x4 d else aw_chk (aw_O σ 5 6 x0) ((f_X5_readHeads σ x0 x1 x2 x3 d).bind (fun z_7 => (f_X5_readTones σ x0 x1 x2 x3 z_7.2).bind (fun z_10 => (f_X5_readCodas σ x0 x1 x2 x3 z_10.2).bind (fun z_12 => (σ.2.2 x0 0).bind (fun q_14 => aw_chk (aw_I σ 21 q_14 x3) (kb21 (x4 + (z_12.2.2 q_14 x3.toNatClampNeg)) (x6 + 1) z_12.2))))))
def f_X5_countByUnits_L21 (σ : Sg) (n : Nat) (k21 : Int64 → Dt → Option (Int64 × Dt)) (x0 : Nat) (x1 : Nat) (x2 : Nat) (x3 : Int32) : Int64 → Int32 → Dt → Option (Int64 × Dt) := match n with
  | 0 => fun _ _ _ => none
  | n + 1 => fun x4 x6 d => f_X5_countByUnits_B21 σ (f_X5_countByUnits_L21 σ n k21 x0 x1 x2 x3) k21 x0 x1 x2 x3 x4 x6 d
def f_X5_countByUnits (σ : Sg) (x0 : Nat) (x1 : Nat) (x2 : Nat) (x3 : Int32) (d : Dt) : Option (Int64 × Dt) :=
  aw_chk (aw_O σ 5 6 x0) ((σ.2.2 x0 0).bind (fun q_2 => (f_J7_fill_d0a16 σ q_2 ((0 : Int64)) d).bind (fun z_4 => aw_chk (aw_I σ 21 q_2 ((0 : Int32))) (f_X5_countByUnits_L21 σ aw_FU (fun x4_17 d_18 => some (x4_17, d_18)) x0 x1 x2 x3 ((0 : Int64)) ((1 : Int32)) (aw_sL z_4.2 q_2 ((0 : Int32)).toNatClampNeg ((1 : Int64)))))))
section W_X5_countByUnits
variable {p : Program} {l : Launch} {e : Env} {s : State} {m : MethodId} {args : Array Value} {below : List Frame} {meth : Method} {c : Code}
variable {D : va_G} {cA : Nat → ClassId} {base : Nat} {ad : Nat → Nat} {σ : Sg}
set_option maxHeartbeats 4000000 in
set_option maxRecDepth 100000 in
theorem w_X5_countByUnits_B21 {z : Int64 × Dt} (X : aw_X p c cX5_countByUnits 7 s RX5 m meth (some .long)) {kb21 : Int64 → Int32 → Dt → Option (Int64 × Dt)} {k21 : Int64 → Dt → Option (Int64 × Dt)} {x0 : Nat} {x1 : Nat} {x2 : Nat} {x3 : Int32} {x4 : Int64} {x6 : Int32} {d : Dt} (hf : f_X5_countByUnits_B21 σ kb21 k21 x0 x1 x2 x3 x4 x6 d = some z) (hkb21 : ∀ (y4 : Int64) (y6 : Int32) (d : Dt), kb21 y4 y6 d = some z → ∀ (H : Heap) (locs : List Loc) (ls : Array Slot), lv_has ls 7 [(0, .ref (ad x0)), (1, .ref (ad x1)), (2, .ref (ad x2)), (3, .int x3), (4, .long y4), (6, .int y6)] → aw_G D cA base ad σ d s H locs → W p l e rm_X5_countByUnits s m args below meth c H locs 0 0 (aw_El D cA base ad σ below args s z) (F0 m 21 ls [])) (hk21 : ∀ (y4 : Int64) (d : Dt), k21 y4 d = some z → ∀ (H : Heap) (locs : List Loc) (ls : Array Slot), lv_has ls 7 [(4, .long y4)] → aw_G D cA base ad σ d s H locs → W p l e rm_X5_countByUnits s m args below meth c H locs 0 0 (aw_El D cA base ad σ below args s z) (F0 m 65 ls [])) {H : Heap} {locs : List Loc} {ls : Array Slot} (hl : lv_has ls 7 [(0, .ref (ad x0)), (1, .ref (ad x1)), (2, .ref (ad x2)), (3, .int x3), (4, .long x4), (6, .int x6)]) (G : aw_G D cA base ad σ d s H locs) : W p l e rm_X5_countByUnits s m args below meth c H locs 0 0 (aw_El D cA base ad σ below args s z) (F0 m 21 ls []) := by
  have hx := X.1; have hb := X.2.1; have hml := X.2.2.1; have hown := X.2.2.2.1
  unfold f_X5_countByUnits_B21 at hf
  refine lv_iload hx hb dX5_countByUnits_21 (lv_at hl 5 rfl) ?_
  refine lv_iconst (v := (4 : Int32)) hx hb dX5_countByUnits_23 (by decide) ?_
  refine lv_icmp_gt (tgt := 65) hx hb dX5_countByUnits_24 (by decide) (fun hc => ?_) (fun hc => ?_)
  · have hf := aw_ite_t hc hf
    exact hk21 _ _ hf _ _ _ (lv_sub hl [4] rfl) G
  · have hf := aw_ite_f hc hf
    refine lv_aload_n hx hb dX5_countByUnits_27 rfl (lv_at hl 0 rfl) ?_
    refine lv_aload_n hx hb dX5_countByUnits_28 rfl (lv_at hl 1 rfl) ?_
    refine lv_aload_n hx hb dX5_countByUnits_29 rfl (lv_at hl 2 rfl) ?_
    refine lv_iload_n hx hb dX5_countByUnits_30 rfl (lv_at hl 3 rfl) ?_
    obtain ⟨hc_9, hf⟩ := aw_chk_some hf
    obtain ⟨z_7, hz_8, hf⟩ := aw_bind_some hf
    refine aw_VV (As := [.ref (ad x1), .ref (ad x2), .int x3]) (rest := []) X G hl.1 cr_X5_41 (c_X5_readHeads l hz_8) ⟨rfl, rfl⟩ rfl rfl rfl (by decide) hc_9 rfl ⟨Nat.le_of_ble_eq_true rfl, Nat.le_of_ble_eq_true rfl⟩ (Nat.le_of_ble_eq_true rfl) dX5_countByUnits_31 ⟨Nat.zero_le _, Nat.zero_le _⟩ (fun H locs G => ?_)
    refine lv_aload_n hx hb dX5_countByUnits_34 rfl (lv_at hl 0 rfl) ?_
    refine lv_aload_n hx hb dX5_countByUnits_35 rfl (lv_at hl 1 rfl) ?_
    refine lv_aload_n hx hb dX5_countByUnits_36 rfl (lv_at hl 2 rfl) ?_
    refine lv_iload_n hx hb dX5_countByUnits_37 rfl (lv_at hl 3 rfl) ?_
    obtain ⟨z_10, hz_11, hf⟩ := aw_bind_some hf
    refine aw_VV (As := [.ref (ad x1), .ref (ad x2), .int x3]) (rest := []) X G hl.1 cr_X5_45 (c_X5_readTones l hz_11) ⟨rfl, rfl⟩ rfl rfl rfl (by decide) hc_9 rfl ⟨Nat.le_of_ble_eq_true rfl, Nat.le_of_ble_eq_true rfl⟩ (Nat.le_of_ble_eq_true rfl) dX5_countByUnits_38 ⟨Nat.zero_le _, Nat.zero_le _⟩ (fun H locs G => ?_)
    refine lv_aload_n hx hb dX5_countByUnits_41 rfl (lv_at hl 0 rfl) ?_
    refine lv_aload_n hx hb dX5_countByUnits_42 rfl (lv_at hl 1 rfl) ?_
    refine lv_aload_n hx hb dX5_countByUnits_43 rfl (lv_at hl 2 rfl) ?_
    refine lv_iload_n hx hb dX5_countByUnits_44 rfl (lv_at hl 3 rfl) ?_
    obtain ⟨z_12, hz_13, hf⟩ := aw_bind_some hf
    refine aw_VV (As := [.ref (ad x1), .ref (ad x2), .int x3]) (rest := []) X G hl.1 cr_X5_48 (c_X5_readCodas l hz_13) ⟨rfl, rfl⟩ rfl rfl rfl (by decide) hc_9 rfl ⟨Nat.le_of_ble_eq_true rfl, Nat.le_of_ble_eq_true rfl⟩ (Nat.le_of_ble_eq_true rfl) dX5_countByUnits_45 ⟨Nat.zero_le _, Nat.zero_le _⟩ (fun H locs G => ?_)
    refine lv_lload hx hb dX5_countByUnits_48 (lv_at hl 4 rfl) ?_
    refine lv_aload_n hx hb dX5_countByUnits_50 rfl (lv_at hl 0 rfl) ?_
    obtain ⟨q_14, hq_15, hf⟩ := aw_bind_some hf
    refine gf_X5_9 hx hb G hown hc_9 hq_15 dX5_countByUnits_51 ?_
    refine lv_iload_n hx hb dX5_countByUnits_54 rfl (lv_at hl 3 rfl) ?_
    obtain ⟨hc_16, hf⟩ := aw_chk_some hf
    refine aw_lal hx hb G hc_16 dX5_countByUnits_55 ?_
    refine lv_ladd hx hb dX5_countByUnits_56 ?_
    refine lv_lstore (lv' := [(4, .long (x4 + (z_12.2.2 q_14 x3.toNatClampNeg))), (0, .ref (ad x0)), (1, .ref (ad x1)), (2, .ref (ad x2)), (3, .int x3), (6, .int x6)]) hx hb dX5_countByUnits_57 hl (by decide) rfl (fun ls hl => ?_)
    refine lv_iinc (v := x6 + 1) (lv' := [(6, .int (x6 + 1)), (4, .long (x4 + (z_12.2.2 q_14 x3.toNatClampNeg))), (0, .ref (ad x0)), (1, .ref (ad x1)), (2, .ref (ad x2)), (3, .int x3)]) hx hb dX5_countByUnits_59 hl (k := 5) rfl rfl (by decide) rfl (fun ls hl => ?_)
    refine lv_goto (tgt := 21) hx hb dX5_countByUnits_62 (by decide) ?_
    exact hkb21 _ _ _ hf _ _ _ (lv_sub hl [2, 3, 4, 5, 1, 0] rfl) G
theorem w_X5_countByUnits_L21 {z : Int64 × Dt} (X : aw_X p c cX5_countByUnits 7 s RX5 m meth (some .long)) {k21 : Int64 → Dt → Option (Int64 × Dt)} {x0 : Nat} {x1 : Nat} {x2 : Nat} {x3 : Int32} (n : Nat) {x4 : Int64} {x6 : Int32} {d : Dt} (hf : f_X5_countByUnits_L21 σ n k21 x0 x1 x2 x3 x4 x6 d = some z) (hk21 : ∀ (y4 : Int64) (d : Dt), k21 y4 d = some z → ∀ (H : Heap) (locs : List Loc) (ls : Array Slot), lv_has ls 7 [(4, .long y4)] → aw_G D cA base ad σ d s H locs → W p l e rm_X5_countByUnits s m args below meth c H locs 0 0 (aw_El D cA base ad σ below args s z) (F0 m 65 ls [])) {H : Heap} {locs : List Loc} {ls : Array Slot} (hl : lv_has ls 7 [(0, .ref (ad x0)), (1, .ref (ad x1)), (2, .ref (ad x2)), (3, .int x3), (4, .long x4), (6, .int x6)]) (G : aw_G D cA base ad σ d s H locs) : W p l e rm_X5_countByUnits s m args below meth c H locs 0 0 (aw_El D cA base ad σ below args s z) (F0 m 21 ls []) := by
  induction n generalizing x4 x6 d H locs ls with
  | zero => exact absurd (show (none : Option (Int64 × Dt)) = some z from hf) (by simp)
  | succ n ih => exact w_X5_countByUnits_B21 X (kb21 := f_X5_countByUnits_L21 σ n k21 x0 x1 x2 x3) hf  (fun x4 x6 d hf H locs ls hl G => ih hf hl G) hk21 hl G
end W_X5_countByUnits
set_option maxHeartbeats 4000000 in
set_option maxRecDepth 100000 in
theorem c_X5_countByUnits (l : Launch) {σ : Sg} {x0 : Nat} {x1 : Nat} {x2 : Nat} {x3 : Int32} {d : Dt} {z : Int64 × Dt} (hf : f_X5_countByUnits σ x0 x1 x2 x3 d = some z) : aw_Ml l yX5_countByUnits (Cond.code yX5_countByUnits cX5_countByUnits 7 (some .long)) rm_X5_countByUnits (fun ad => [.ref (ad x0), .ref (ad x1), .ref (ad x2), .int x3]) σ d z := by
  intro D cA base ad
  refine aw_ofW (own := RX5) (cc := cX5_countByUnits) (nL := 7) (ret := some .long) (by decide) rfl rfl ?_
  intro p e s m below meth c X hnm G
  have hx := X.1; have hb := X.2.1; have hml := X.2.2.1; have hown := X.2.2.2.1
  refine aw_ls (lv := [(0, .ref (ad x0)), (1, .ref (ad x1)), (2, .ref (ad x2)), (3, .int x3)]) (Nat.le_of_ble_eq_true rfl) rfl (fun ls hl => ?_)
  unfold f_X5_countByUnits at hf
  refine lv_lconst (v := (0 : Int64)) hx hb dX5_countByUnits_0 (by decide) ?_
  refine lv_lstore (lv' := [(4, .long ((0 : Int64))), (0, .ref (ad x0)), (1, .ref (ad x1)), (2, .ref (ad x2)), (3, .int x3)]) hx hb dX5_countByUnits_1 hl (by decide) rfl (fun ls hl => ?_)
  refine lv_aload_n hx hb dX5_countByUnits_3 rfl (lv_at hl 1 rfl) ?_
  obtain ⟨hc_1, hf⟩ := aw_chk_some hf
  obtain ⟨q_2, hq_3, hf⟩ := aw_bind_some hf
  refine gf_X5_9 hx hb G hown hc_1 hq_3 dX5_countByUnits_4 ?_
  refine lv_lconst (v := (0 : Int64)) hx hb dX5_countByUnits_7 (by decide) ?_
  obtain ⟨z_4, hz_5, hf⟩ := aw_bind_some hf
  refine aw_SV (As := [.ref (ad q_2), .long ((0 : Int64))]) (rest := []) X G hl.1 cr_X5_35 (c_J7_fill_d0a16 l hz_5) ⟨rfl, rfl⟩ rfl rfl rfl ⟨Nat.le_of_ble_eq_true rfl, Nat.le_of_ble_eq_true rfl⟩ (Nat.le_of_ble_eq_true rfl) dX5_countByUnits_8 ⟨Nat.zero_le _, Nat.zero_le _⟩ (fun H locs G => ?_)
  refine lv_aload_n hx hb dX5_countByUnits_11 rfl (lv_at hl 1 rfl) ?_
  refine gf_X5_9 hx hb G hown hc_1 hq_3 dX5_countByUnits_12 ?_
  refine lv_iconst (v := (0 : Int32)) hx hb dX5_countByUnits_15 (by decide) ?_
  refine lv_lconst (v := (1 : Int64)) hx hb dX5_countByUnits_16 (by decide) ?_
  obtain ⟨hc_6, hf⟩ := aw_chk_some hf
  refine aw_las hx hb G hc_6 dX5_countByUnits_17 (fun H locs G => ?_)
  refine lv_iconst (v := (1 : Int32)) hx hb dX5_countByUnits_18 (by decide) ?_
  refine lv_istore (lv' := [(6, .int ((1 : Int32))), (4, .long ((0 : Int64))), (0, .ref (ad x0)), (1, .ref (ad x1)), (2, .ref (ad x2)), (3, .int x3)]) hx hb dX5_countByUnits_19 hl (by decide) rfl (fun ls hl => ?_)
  refine w_X5_countByUnits_L21 X aw_FU hf  (fun x4_17 d_18 hf H locs ls hl G => ?_) (lv_sub hl [2, 3, 4, 5, 1, 0] rfl) G
  refine lv_lload hx hb dX5_countByUnits_65 (lv_at hl 0 rfl) ?_
  exact aw_retl X G hf dX5_countByUnits_67
def rm_X5_standsAt : Room := { frames := 0, cells := 0, slots := 0, locals := 0 }
def f_X5_standsAt_B3 (σ : Sg) (kb3 : Int32 → Dt → Option (Int32 × Dt)) (k3 : Dt → Option (Int32 × Dt)) (x0 : Nat) (x1 : Int32) (x2 : Int32) (x3 : Nat) (x4 : Int32) (d : Dt) : Option (Int32 × Dt) :=
  if x2 ≤ x4 then k3 d else aw_chk (aw_I σ 20 x3 (x1 + x4)) (aw_chk (aw_O σ 5 6 x0) ((σ.2.2 x0 5).bind (fun q_3 => aw_chk (aw_I σ 20 q_3 x4) (if (d.1 x3 (x1 + x4).toNatClampNeg) = (d.1 q_3 x4.toNatClampNeg) then kb3 (x4 + 1) d else aw_chk (((0 : Int32)) &&& 1 = ((0 : Int32))) (some ((0 : Int32), d))))))
def f_X5_standsAt_L3 (σ : Sg) (n : Nat) (k3 : Dt → Option (Int32 × Dt)) (x0 : Nat) (x1 : Int32) (x2 : Int32) (x3 : Nat) : Int32 → Dt → Option (Int32 × Dt) := match n with
  | 0 => fun _ _ => none
  | n + 1 => fun x4 d => f_X5_standsAt_B3 σ (f_X5_standsAt_L3 σ n k3 x0 x1 x2 x3) k3 x0 x1 x2 x3 x4 d
def f_X5_standsAt (σ : Sg) (x0 : Nat) (x1 : Int32) (x2 : Int32) (x3 : Nat) (d : Dt) : Option (Int32 × Dt) :=
  f_X5_standsAt_L3 σ aw_FU (fun d_7 => aw_chk (((1 : Int32)) &&& 1 = ((1 : Int32))) (some ((1 : Int32), d_7))) x0 x1 x2 x3 ((0 : Int32)) d
section W_X5_standsAt
variable {p : Program} {l : Launch} {e : Env} {s : State} {m : MethodId} {args : Array Value} {below : List Frame} {meth : Method} {c : Code}
variable {D : va_G} {cA : Nat → ClassId} {base : Nat} {ad : Nat → Nat} {σ : Sg}
set_option maxHeartbeats 4000000 in
set_option maxRecDepth 100000 in
theorem w_X5_standsAt_B3 {z : Int32 × Dt} (X : aw_X p c cX5_standsAt 5 s RX5 m meth (some .boolean)) {kb3 : Int32 → Dt → Option (Int32 × Dt)} {k3 : Dt → Option (Int32 × Dt)} {x0 : Nat} {x1 : Int32} {x2 : Int32} {x3 : Nat} {x4 : Int32} {d : Dt} (hf : f_X5_standsAt_B3 σ kb3 k3 x0 x1 x2 x3 x4 d = some z) (hkb3 : ∀ (y4 : Int32) (d : Dt), kb3 y4 d = some z → ∀ (H : Heap) (locs : List Loc) (ls : Array Slot), lv_has ls 5 [(0, .ref (ad x0)), (1, .int x1), (2, .int x2), (3, .ref (ad x3)), (4, .int y4)] → aw_G D cA base ad σ d s H locs → W p l e rm_X5_standsAt s m args below meth c H locs 0 0 (aw_Ei D cA base ad σ below args s z) (F0 m 3 ls [])) (hk3 : ∀ (d : Dt), k3 d = some z → ∀ (H : Heap) (locs : List Loc) (ls : Array Slot), lv_has ls 5 [] → aw_G D cA base ad σ d s H locs → W p l e rm_X5_standsAt s m args below meth c H locs 0 0 (aw_Ei D cA base ad σ below args s z) (F0 m 33 ls [])) {H : Heap} {locs : List Loc} {ls : Array Slot} (hl : lv_has ls 5 [(0, .ref (ad x0)), (1, .int x1), (2, .int x2), (3, .ref (ad x3)), (4, .int x4)]) (G : aw_G D cA base ad σ d s H locs) : W p l e rm_X5_standsAt s m args below meth c H locs 0 0 (aw_Ei D cA base ad σ below args s z) (F0 m 3 ls []) := by
  have hx := X.1; have hb := X.2.1; have hml := X.2.2.1; have hown := X.2.2.2.1
  unfold f_X5_standsAt_B3 at hf
  refine lv_iload hx hb dX5_standsAt_3 (lv_at hl 4 rfl) ?_
  refine lv_iload_n hx hb dX5_standsAt_5 rfl (lv_at hl 2 rfl) ?_
  refine lv_icmp_ge (tgt := 33) hx hb dX5_standsAt_6 (by decide) (fun hc => ?_) (fun hc => ?_)
  · have hf := aw_ite_t hc hf
    exact hk3 _ hf _ _ _ (lv_sub hl [] rfl) G
  · have hf := aw_ite_f hc hf
    refine lv_aload_n hx hb dX5_standsAt_9 rfl (lv_at hl 3 rfl) ?_
    refine lv_iload_n hx hb dX5_standsAt_10 rfl (lv_at hl 1 rfl) ?_
    refine lv_iload hx hb dX5_standsAt_11 (lv_at hl 4 rfl) ?_
    refine lv_iadd hx hb dX5_standsAt_13 ?_
    obtain ⟨hc_1, hf⟩ := aw_chk_some hf
    refine aw_ial hx hb G hc_1 dX5_standsAt_14 ?_
    refine lv_aload_n hx hb dX5_standsAt_15 rfl (lv_at hl 0 rfl) ?_
    obtain ⟨hc_2, hf⟩ := aw_chk_some hf
    obtain ⟨q_3, hq_4, hf⟩ := aw_bind_some hf
    refine gf_X5_31 hx hb G hown hc_2 hq_4 dX5_standsAt_16 ?_
    refine lv_iload hx hb dX5_standsAt_19 (lv_at hl 4 rfl) ?_
    obtain ⟨hc_5, hf⟩ := aw_chk_some hf
    refine aw_ial hx hb G hc_5 dX5_standsAt_21 ?_
    refine lv_icmp_eq (tgt := 27) hx hb dX5_standsAt_22 (by decide) (fun hc => ?_) (fun hc => ?_)
    · have hf := aw_ite_t hc hf
      refine lv_iinc (v := x4 + 1) (lv' := [(4, .int (x4 + 1)), (0, .ref (ad x0)), (1, .int x1), (2, .int x2), (3, .ref (ad x3))]) hx hb dX5_standsAt_27 hl (k := 4) rfl rfl (by decide) rfl (fun ls hl => ?_)
      refine lv_goto (tgt := 3) hx hb dX5_standsAt_30 (by decide) ?_
      exact hkb3 _ _ hf _ _ _ (lv_sub hl [1, 2, 3, 4, 0] rfl) G
    · have hf := aw_ite_f hc hf
      refine lv_iconst (v := (0 : Int32)) hx hb dX5_standsAt_25 (by decide) ?_
      obtain ⟨hc_6, hf⟩ := aw_chk_some hf
      exact aw_retz X G hc_6 hf dX5_standsAt_26
theorem w_X5_standsAt_L3 {z : Int32 × Dt} (X : aw_X p c cX5_standsAt 5 s RX5 m meth (some .boolean)) {k3 : Dt → Option (Int32 × Dt)} {x0 : Nat} {x1 : Int32} {x2 : Int32} {x3 : Nat} (n : Nat) {x4 : Int32} {d : Dt} (hf : f_X5_standsAt_L3 σ n k3 x0 x1 x2 x3 x4 d = some z) (hk3 : ∀ (d : Dt), k3 d = some z → ∀ (H : Heap) (locs : List Loc) (ls : Array Slot), lv_has ls 5 [] → aw_G D cA base ad σ d s H locs → W p l e rm_X5_standsAt s m args below meth c H locs 0 0 (aw_Ei D cA base ad σ below args s z) (F0 m 33 ls [])) {H : Heap} {locs : List Loc} {ls : Array Slot} (hl : lv_has ls 5 [(0, .ref (ad x0)), (1, .int x1), (2, .int x2), (3, .ref (ad x3)), (4, .int x4)]) (G : aw_G D cA base ad σ d s H locs) : W p l e rm_X5_standsAt s m args below meth c H locs 0 0 (aw_Ei D cA base ad σ below args s z) (F0 m 3 ls []) := by
  induction n generalizing x4 d H locs ls with
  | zero => exact absurd (show (none : Option (Int32 × Dt)) = some z from hf) (by simp)
  | succ n ih => exact w_X5_standsAt_B3 X (kb3 := f_X5_standsAt_L3 σ n k3 x0 x1 x2 x3) hf  (fun x4 d hf H locs ls hl G => ih hf hl G) hk3 hl G
end W_X5_standsAt
set_option maxHeartbeats 4000000 in
set_option maxRecDepth 100000 in
theorem c_X5_standsAt (l : Launch) {σ : Sg} {x0 : Nat} {x1 : Int32} {x2 : Int32} {x3 : Nat} {d : Dt} {z : Int32 × Dt} (hf : f_X5_standsAt σ x0 x1 x2 x3 d = some z) : aw_Mi l yX5_standsAt (Cond.code yX5_standsAt cX5_standsAt 5 (some .boolean)) rm_X5_standsAt (fun ad => [.ref (ad x0), .int x1, .int x2, .ref (ad x3)]) σ d z := by
  intro D cA base ad
  refine aw_ofW (own := RX5) (cc := cX5_standsAt) (nL := 5) (ret := some .boolean) (by decide) rfl rfl ?_
  intro p e s m below meth c X hnm G
  have hx := X.1; have hb := X.2.1; have hml := X.2.2.1; have hown := X.2.2.2.1
  refine aw_ls (lv := [(0, .ref (ad x0)), (1, .int x1), (2, .int x2), (3, .ref (ad x3))]) (Nat.le_of_ble_eq_true rfl) rfl (fun ls hl => ?_)
  unfold f_X5_standsAt at hf
  refine lv_iconst (v := (0 : Int32)) hx hb dX5_standsAt_0 (by decide) ?_
  refine lv_istore (lv' := [(4, .int ((0 : Int32))), (0, .ref (ad x0)), (1, .int x1), (2, .int x2), (3, .ref (ad x3))]) hx hb dX5_standsAt_1 hl (by decide) rfl (fun ls hl => ?_)
  refine w_X5_standsAt_L3 X aw_FU hf  (fun d_7 hf H locs ls hl G => ?_) (lv_sub hl [1, 2, 3, 4, 0] rfl) G
  refine lv_iconst (v := (1 : Int32)) hx hb dX5_standsAt_33 (by decide) ?_
  obtain ⟨hc_8, hf⟩ := aw_chk_some hf
  exact aw_retz X G hc_8 hf dX5_standsAt_34
