/-! X10_fitOfSpelled X10_prepareQuickPrimer X10_scoreOf X10_prepareBallot X10_isSplitByReform X10_valuesOf -/
def rm_X10_fitOfSpelled : Room := { frames := 3, cells := 0, slots := 0, locals := 74 }
def f_X10_fitOfSpelled_J59 (σ : Sg) (kb18 : Int32 → Int32 → Dt → Option (Int32 × Dt)) (x0 : Nat) (x3 : Int32) (x4 : Int32) (d : Dt) : Option (Int32 × Dt) :=
  kb18 x3 (x4 + 1) d
def f_X10_fitOfSpelled_B18 (σ : Sg) (kb18 : Int32 → Int32 → Dt → Option (Int32 × Dt)) (k18 : Int32 → Dt → Option (Int32 × Dt)) (x0 : Nat) (x3 : Int32) (x4 : Int32) (d : Dt) : Option (Int32 × Dt) :=
  aw_chk (aw_O σ 10 13 x0) ((σ.2.2 x0 0).bind (fun q_10 => aw_chk (aw_O σ 9 4 q_10) (if (d.1 q_10 3) ≤ x4 then k18 x3 d else (σ.2.2 x0 7).bind (fun q_13 => (σ.2.2 x0 8).bind (fun q_15 => aw_chk (aw_O σ 7 3 q_13) ((f_X7_alikeIn σ q_13 q_15 x4 d).bind (fun z_17 => if z_17.1 = 0 then f_X10_fitOfSpelled_J59 σ kb18 x0 x3 x4 z_17.2 else (σ.2.2 q_10 2).bind (fun q_20 => aw_chk (aw_I σ 20 q_20 x4) (f_X10_fitOfSpelled_J59 σ kb18 x0 (x3 + (z_17.2.1 q_20 x4.toNatClampNeg)) x4 z_17.2)))))))))
def f_X10_fitOfSpelled_L18 (σ : Sg) (n : Nat) (k18 : Int32 → Dt → Option (Int32 × Dt)) (x0 : Nat) : Int32 → Int32 → Dt → Option (Int32 × Dt) := match n with
  | 0 => fun _ _ _ => none
  | n + 1 => fun x3 x4 d => f_X10_fitOfSpelled_B18 σ (f_X10_fitOfSpelled_L18 σ n k18 x0) k18 x0 x3 x4 d
def f_X10_fitOfSpelled (σ : Sg) (x0 : Nat) (x1 : Nat) (x2 : Int32) (d : Dt) : Option (Int32 × Dt) :=
  aw_chk (aw_O σ 10 13 x0) ((σ.2.2 x0 8).bind (fun q_2 => (f_X10_speaker σ x0 x2 d).bind (fun z_4 => aw_chk (aw_O σ 7 3 q_2) ((f_X7_take σ q_2 x1 z_4.1 z_4.2).bind (fun z_6 => f_X10_fitOfSpelled_L18 σ aw_FU (fun x3_23 d_24 => some (x3_23, d_24)) x0 ((0 : Int32)) ((0 : Int32)) z_6.2)))))
section W_X10_fitOfSpelled
variable {p : Program} {l : Launch} {e : Env} {s : State} {m : MethodId} {args : Array Value} {below : List Frame} {meth : Method} {c : Code}
variable {D : va_G} {cA : Nat → ClassId} {base : Nat} {ad : Nat → Nat} {σ : Sg}
set_option maxHeartbeats 4000000 in
set_option maxRecDepth 100000 in
theorem w_X10_fitOfSpelled_J59 {z : Int32 × Dt} (X : aw_X p c cX10_fitOfSpelled 5 s RX10 m meth (some .int)) {kb18 : Int32 → Int32 → Dt → Option (Int32 × Dt)} {x0 : Nat} {x3 : Int32} {x4 : Int32} {d : Dt} (hf : f_X10_fitOfSpelled_J59 σ kb18 x0 x3 x4 d = some z) (hkb18 : ∀ (y3 : Int32) (y4 : Int32) (d : Dt), kb18 y3 y4 d = some z → ∀ (H : Heap) (locs : List Loc) (ls : Array Slot), lv_has ls 5 [(0, .ref (ad x0)), (3, .int y3), (4, .int y4)] → aw_G D cA base ad σ d s H locs → W p l e rm_X10_fitOfSpelled s m args below meth c H locs 0 0 (aw_Ei D cA base ad σ below args s z) (F0 m 18 ls [])) {H : Heap} {locs : List Loc} {ls : Array Slot} (hl : lv_has ls 5 [(0, .ref (ad x0)), (3, .int x3), (4, .int x4)]) (G : aw_G D cA base ad σ d s H locs) : W p l e rm_X10_fitOfSpelled s m args below meth c H locs 0 0 (aw_Ei D cA base ad σ below args s z) (F0 m 59 ls []) := by
  have hx := X.1; have hb := X.2.1; have hml := X.2.2.1; have hown := X.2.2.2.1
  unfold f_X10_fitOfSpelled_J59 at hf
  refine lv_iinc (v := x4 + 1) (lv' := [(4, .int (x4 + 1)), (0, .ref (ad x0)), (3, .int x3)]) hx hb dX10_fitOfSpelled_59 hl (k := 2) rfl rfl (by decide) rfl (fun ls hl => ?_)
  refine lv_goto (tgt := 18) hx hb dX10_fitOfSpelled_62 (by decide) ?_
  exact hkb18 _ _ _ hf _ _ _ (lv_sub hl [1, 2, 0] rfl) G
set_option maxHeartbeats 4000000 in
set_option maxRecDepth 100000 in
theorem w_X10_fitOfSpelled_B18 {z : Int32 × Dt} (X : aw_X p c cX10_fitOfSpelled 5 s RX10 m meth (some .int)) {kb18 : Int32 → Int32 → Dt → Option (Int32 × Dt)} {k18 : Int32 → Dt → Option (Int32 × Dt)} {x0 : Nat} {x3 : Int32} {x4 : Int32} {d : Dt} (hf : f_X10_fitOfSpelled_B18 σ kb18 k18 x0 x3 x4 d = some z) (hkb18 : ∀ (y3 : Int32) (y4 : Int32) (d : Dt), kb18 y3 y4 d = some z → ∀ (H : Heap) (locs : List Loc) (ls : Array Slot), lv_has ls 5 [(0, .ref (ad x0)), (3, .int y3), (4, .int y4)] → aw_G D cA base ad σ d s H locs → W p l e rm_X10_fitOfSpelled s m args below meth c H locs 0 0 (aw_Ei D cA base ad σ below args s z) (F0 m 18 ls [])) (hk18 : ∀ (y3 : Int32) (d : Dt), k18 y3 d = some z → ∀ (H : Heap) (locs : List Loc) (ls : Array Slot), lv_has ls 5 [(3, .int y3)] → aw_G D cA base ad σ d s H locs → W p l e rm_X10_fitOfSpelled s m args below meth c H locs 0 0 (aw_Ei D cA base ad σ below args s z) (F0 m 65 ls [])) {H : Heap} {locs : List Loc} {ls : Array Slot} (hl : lv_has ls 5 [(0, .ref (ad x0)), (3, .int x3), (4, .int x4)]) (G : aw_G D cA base ad σ d s H locs) : W p l e rm_X10_fitOfSpelled s m args below meth c H locs 0 0 (aw_Ei D cA base ad σ below args s z) (F0 m 18 ls []) := by
  have hx := X.1; have hb := X.2.1; have hml := X.2.2.1; have hown := X.2.2.2.1
  unfold f_X10_fitOfSpelled_B18 at hf
  refine lv_iload hx hb dX10_fitOfSpelled_18 (lv_at hl 2 rfl) ?_
  refine lv_aload_n hx hb dX10_fitOfSpelled_20 rfl (lv_at hl 0 rfl) ?_
  obtain ⟨hc_9, hf⟩ := aw_chk_some hf
  obtain ⟨q_10, hq_11, hf⟩ := aw_bind_some hf
  refine gf_X10_12 hx hb G hown hc_9 hq_11 dX10_fitOfSpelled_21 ?_
  obtain ⟨hc_12, hf⟩ := aw_chk_some hf
  refine gf_X10_112 hx hb G hown hc_12 dX10_fitOfSpelled_24 ?_
  refine lv_icmp_ge (tgt := 65) hx hb dX10_fitOfSpelled_27 (by decide) (fun hc => ?_) (fun hc => ?_)
  · have hf := aw_ite_t hc hf
    exact hk18 _ _ hf _ _ _ (lv_sub hl [1] rfl) G
  · have hf := aw_ite_f hc hf
    refine lv_aload_n hx hb dX10_fitOfSpelled_30 rfl (lv_at hl 0 rfl) ?_
    obtain ⟨q_13, hq_14, hf⟩ := aw_bind_some hf
    refine gf_X10_54 hx hb G hown hc_9 hq_14 dX10_fitOfSpelled_31 ?_
    refine lv_aload_n hx hb dX10_fitOfSpelled_34 rfl (lv_at hl 0 rfl) ?_
    obtain ⟨q_15, hq_16, hf⟩ := aw_bind_some hf
    refine gf_X10_58 hx hb G hown hc_9 hq_16 dX10_fitOfSpelled_35 ?_
    refine lv_iload hx hb dX10_fitOfSpelled_38 (lv_at hl 2 rfl) ?_
    obtain ⟨hc_19, hf⟩ := aw_chk_some hf
    obtain ⟨z_17, hz_18, hf⟩ := aw_bind_some hf
    refine aw_VI (As := [.ref (ad q_15), .int x4]) (rest := []) X G hl.1 cr_X10_382 (c_X7_alikeIn l hz_18) ⟨rfl, rfl⟩ rfl rfl rfl (by decide) hc_19 rfl ⟨Nat.le_of_ble_eq_true rfl, Nat.le_of_ble_eq_true rfl⟩ (Nat.le_of_ble_eq_true rfl) dX10_fitOfSpelled_40 ⟨Nat.zero_le _, Nat.zero_le _⟩ (fun H locs G => ?_)
    refine lv_if_eq (tgt := 59) hx hb dX10_fitOfSpelled_43 (by decide) (fun hc => ?_) (fun hc => ?_)
    · have hf := aw_ite_t hc hf
      exact w_X10_fitOfSpelled_J59 X hf hkb18 (lv_sub hl [0, 1, 2] rfl) G
    · have hf := aw_ite_f hc hf
      refine lv_iload_n hx hb dX10_fitOfSpelled_46 rfl (lv_at hl 1 rfl) ?_
      refine lv_aload_n hx hb dX10_fitOfSpelled_47 rfl (lv_at hl 0 rfl) ?_
      refine gf_X10_12 hx hb G hown hc_9 hq_11 dX10_fitOfSpelled_48 ?_
      obtain ⟨q_20, hq_21, hf⟩ := aw_bind_some hf
      refine gf_X10_212 hx hb G hown hc_12 hq_21 dX10_fitOfSpelled_51 ?_
      refine lv_iload hx hb dX10_fitOfSpelled_54 (lv_at hl 2 rfl) ?_
      obtain ⟨hc_22, hf⟩ := aw_chk_some hf
      refine aw_ial hx hb G hc_22 dX10_fitOfSpelled_56 ?_
      refine lv_iadd hx hb dX10_fitOfSpelled_57 ?_
      refine lv_istore_n (lv' := [(3, .int (x3 + (z_17.2.1 q_20 x4.toNatClampNeg))), (0, .ref (ad x0)), (4, .int x4)]) hx hb dX10_fitOfSpelled_58 rfl hl (by decide) rfl (fun ls hl => ?_)
      exact w_X10_fitOfSpelled_J59 X hf hkb18 (lv_sub hl [1, 0, 2] rfl) G
theorem w_X10_fitOfSpelled_L18 {z : Int32 × Dt} (X : aw_X p c cX10_fitOfSpelled 5 s RX10 m meth (some .int)) {k18 : Int32 → Dt → Option (Int32 × Dt)} {x0 : Nat} (n : Nat) {x3 : Int32} {x4 : Int32} {d : Dt} (hf : f_X10_fitOfSpelled_L18 σ n k18 x0 x3 x4 d = some z) (hk18 : ∀ (y3 : Int32) (d : Dt), k18 y3 d = some z → ∀ (H : Heap) (locs : List Loc) (ls : Array Slot), lv_has ls 5 [(3, .int y3)] → aw_G D cA base ad σ d s H locs → W p l e rm_X10_fitOfSpelled s m args below meth c H locs 0 0 (aw_Ei D cA base ad σ below args s z) (F0 m 65 ls [])) {H : Heap} {locs : List Loc} {ls : Array Slot} (hl : lv_has ls 5 [(0, .ref (ad x0)), (3, .int x3), (4, .int x4)]) (G : aw_G D cA base ad σ d s H locs) : W p l e rm_X10_fitOfSpelled s m args below meth c H locs 0 0 (aw_Ei D cA base ad σ below args s z) (F0 m 18 ls []) := by
  induction n generalizing x3 x4 d H locs ls with
  | zero => exact absurd (show (none : Option (Int32 × Dt)) = some z from hf) (by simp)
  | succ n ih => exact w_X10_fitOfSpelled_B18 X (kb18 := f_X10_fitOfSpelled_L18 σ n k18 x0) hf  (fun x3 x4 d hf H locs ls hl G => ih hf hl G) hk18 hl G
end W_X10_fitOfSpelled
set_option maxHeartbeats 4000000 in
set_option maxRecDepth 100000 in
theorem c_X10_fitOfSpelled (l : Launch) {σ : Sg} {x0 : Nat} {x1 : Nat} {x2 : Int32} {d : Dt} {z : Int32 × Dt} (hf : f_X10_fitOfSpelled σ x0 x1 x2 d = some z) : aw_Mi l yX10_fitOfSpelled (Cond.code yX10_fitOfSpelled cX10_fitOfSpelled 5 (some .int)) rm_X10_fitOfSpelled (fun ad => [.ref (ad x0), .ref (ad x1), .int x2]) σ d z := by
  intro D cA base ad
  refine aw_ofW (own := RX10) (cc := cX10_fitOfSpelled) (nL := 5) (ret := some .int) (by decide) rfl rfl ?_
  intro p e s m below meth c X hnm G
  have hx := X.1; have hb := X.2.1; have hml := X.2.2.1; have hown := X.2.2.2.1
  refine aw_ls (lv := [(0, .ref (ad x0)), (1, .ref (ad x1)), (2, .int x2)]) (Nat.le_of_ble_eq_true rfl) rfl (fun ls hl => ?_)
  unfold f_X10_fitOfSpelled at hf
  refine lv_aload_n hx hb dX10_fitOfSpelled_0 rfl (lv_at hl 0 rfl) ?_
  obtain ⟨hc_1, hf⟩ := aw_chk_some hf
  obtain ⟨q_2, hq_3, hf⟩ := aw_bind_some hf
  refine gf_X10_58 hx hb G hown hc_1 hq_3 dX10_fitOfSpelled_1 ?_
  refine lv_aload_n hx hb dX10_fitOfSpelled_4 rfl (lv_at hl 1 rfl) ?_
  refine lv_aload_n hx hb dX10_fitOfSpelled_5 rfl (lv_at hl 0 rfl) ?_
  refine lv_iload_n hx hb dX10_fitOfSpelled_6 rfl (lv_at hl 2 rfl) ?_
  obtain ⟨z_4, hz_5, hf⟩ := aw_bind_some hf
  refine aw_VR (As := [.int x2]) (rest := [.ref (ad x1), .ref (ad q_2)]) X G hl.1 cr_X10_156 (c_X10_speaker l hz_5) ⟨rfl, rfl⟩ rfl rfl rfl (by decide) hc_1 rfl ⟨Nat.le_of_ble_eq_true rfl, Nat.le_of_ble_eq_true rfl⟩ (Nat.le_of_ble_eq_true rfl) dX10_fitOfSpelled_7 ⟨Nat.zero_le _, Nat.zero_le _⟩ (fun H locs G => ?_)
  obtain ⟨hc_8, hf⟩ := aw_chk_some hf
  obtain ⟨z_6, hz_7, hf⟩ := aw_bind_some hf
  refine aw_VV (As := [.ref (ad x1), .ref (ad z_4.1)]) (rest := []) X G hl.1 cr_X10_379 (c_X7_take l hz_7) ⟨rfl, rfl⟩ rfl rfl rfl (by decide) hc_8 rfl ⟨Nat.le_of_ble_eq_true rfl, Nat.le_of_ble_eq_true rfl⟩ (Nat.le_of_ble_eq_true rfl) dX10_fitOfSpelled_10 ⟨Nat.zero_le _, Nat.zero_le _⟩ (fun H locs G => ?_)
  refine lv_iconst (v := (0 : Int32)) hx hb dX10_fitOfSpelled_13 (by decide) ?_
  refine lv_istore_n (lv' := [(3, .int ((0 : Int32))), (0, .ref (ad x0)), (1, .ref (ad x1)), (2, .int x2)]) hx hb dX10_fitOfSpelled_14 rfl hl (by decide) rfl (fun ls hl => ?_)
  refine lv_iconst (v := (0 : Int32)) hx hb dX10_fitOfSpelled_15 (by decide) ?_
  refine lv_istore (lv' := [(4, .int ((0 : Int32))), (3, .int ((0 : Int32))), (0, .ref (ad x0)), (1, .ref (ad x1)), (2, .int x2)]) hx hb dX10_fitOfSpelled_16 hl (by decide) rfl (fun ls hl => ?_)
  refine w_X10_fitOfSpelled_L18 X aw_FU hf  (fun x3_23 d_24 hf H locs ls hl G => ?_) (lv_sub hl [2, 1, 0] rfl) G
  refine lv_iload_n hx hb dX10_fitOfSpelled_65 rfl (lv_at hl 0 rfl) ?_
  exact aw_reti X G hf dX10_fitOfSpelled_66
def rm_X10_prepareQuickPrimer : Room := { frames := 4, cells := 0, slots := 0, locals := 99 }
def f_X10_prepareQuickPrimer (σ : Sg) (x0 : Nat) (x1 : Nat) (d : Dt) : Option (Unit × Dt) :=
  aw_chk (aw_O σ 10 13 x0) ((f_X10_spellAll σ x0 x1 d).bind (fun z_1 => (σ.2.2 x0 11).bind (fun q_4 => (σ.2.2 x0 7).bind (fun q_6 => (σ.2.2 x0 0).bind (fun q_8 => aw_chk (aw_O σ 9 4 q_8) ((σ.2.2 q_8 2).bind (fun q_11 => aw_chk (aw_O σ 4 8 q_4) ((f_X4_take σ q_4 q_6 q_11 z_1.2).bind (fun z_13 => (f_X4_putInOrder σ q_4 z_13.2).bind (fun z_16 => some ((), z_16.2)))))))))))
section W_X10_prepareQuickPrimer
variable {p : Program} {l : Launch} {e : Env} {s : State} {m : MethodId} {args : Array Value} {below : List Frame} {meth : Method} {c : Code}
variable {D : va_G} {cA : Nat → ClassId} {base : Nat} {ad : Nat → Nat} {σ : Sg}
end W_X10_prepareQuickPrimer
set_option maxHeartbeats 4000000 in
set_option maxRecDepth 100000 in
theorem c_X10_prepareQuickPrimer (l : Launch) {σ : Sg} {x0 : Nat} {x1 : Nat} {d : Dt} {z : Unit × Dt} (hf : f_X10_prepareQuickPrimer σ x0 x1 d = some z) : aw_Mv l yX10_prepareQuickPrimer (Cond.code yX10_prepareQuickPrimer cX10_prepareQuickPrimer 2 (none)) rm_X10_prepareQuickPrimer (fun ad => [.ref (ad x0), .ref (ad x1)]) σ d z := by
  intro D cA base ad
  refine aw_ofW (own := RX10) (cc := cX10_prepareQuickPrimer) (nL := 2) (ret := none) (by decide) rfl rfl ?_
  intro p e s m below meth c X hnm G
  have hx := X.1; have hb := X.2.1; have hml := X.2.2.1; have hown := X.2.2.2.1
  refine aw_ls (lv := [(0, .ref (ad x0)), (1, .ref (ad x1))]) (Nat.le_of_ble_eq_true rfl) rfl (fun ls hl => ?_)
  unfold f_X10_prepareQuickPrimer at hf
  refine lv_aload_n hx hb dX10_prepareQuickPrimer_0 rfl (lv_at hl 0 rfl) ?_
  refine lv_aload_n hx hb dX10_prepareQuickPrimer_1 rfl (lv_at hl 1 rfl) ?_
  obtain ⟨hc_3, hf⟩ := aw_chk_some hf
  obtain ⟨z_1, hz_2, hf⟩ := aw_bind_some hf
  refine aw_VV (As := [.ref (ad x1)]) (rest := []) X G hl.1 cr_X10_203 (c_X10_spellAll l hz_2) ⟨rfl, rfl⟩ rfl rfl rfl (by decide) hc_3 rfl ⟨Nat.le_of_ble_eq_true rfl, Nat.le_of_ble_eq_true rfl⟩ (Nat.le_of_ble_eq_true rfl) dX10_prepareQuickPrimer_2 ⟨Nat.zero_le _, Nat.zero_le _⟩ (fun H locs G => ?_)
  refine lv_aload_n hx hb dX10_prepareQuickPrimer_5 rfl (lv_at hl 0 rfl) ?_
  obtain ⟨q_4, hq_5, hf⟩ := aw_bind_some hf
  refine gf_X10_78 hx hb G hown hc_3 hq_5 dX10_prepareQuickPrimer_6 ?_
  refine lv_aload_n hx hb dX10_prepareQuickPrimer_9 rfl (lv_at hl 0 rfl) ?_
  obtain ⟨q_6, hq_7, hf⟩ := aw_bind_some hf
  refine gf_X10_54 hx hb G hown hc_3 hq_7 dX10_prepareQuickPrimer_10 ?_
  refine lv_aload_n hx hb dX10_prepareQuickPrimer_13 rfl (lv_at hl 0 rfl) ?_
  obtain ⟨q_8, hq_9, hf⟩ := aw_bind_some hf
  refine gf_X10_12 hx hb G hown hc_3 hq_9 dX10_prepareQuickPrimer_14 ?_
  obtain ⟨hc_10, hf⟩ := aw_chk_some hf
  obtain ⟨q_11, hq_12, hf⟩ := aw_bind_some hf
  refine gf_X10_212 hx hb G hown hc_10 hq_12 dX10_prepareQuickPrimer_17 ?_
  obtain ⟨hc_15, hf⟩ := aw_chk_some hf
  obtain ⟨z_13, hz_14, hf⟩ := aw_bind_some hf
  refine aw_VV (As := [.ref (ad q_6), .ref (ad q_11)]) (rest := []) X G hl.1 cr_X10_282 (c_X4_take l hz_14) ⟨rfl, rfl⟩ rfl rfl rfl (by decide) hc_15 rfl ⟨Nat.le_of_ble_eq_true rfl, Nat.le_of_ble_eq_true rfl⟩ (Nat.le_of_ble_eq_true rfl) dX10_prepareQuickPrimer_20 ⟨Nat.zero_le _, Nat.zero_le _⟩ (fun H locs G => ?_)
  refine lv_aload_n hx hb dX10_prepareQuickPrimer_23 rfl (lv_at hl 0 rfl) ?_
  refine gf_X10_78 hx hb G hown hc_3 hq_5 dX10_prepareQuickPrimer_24 ?_
  obtain ⟨z_16, hz_17, hf⟩ := aw_bind_some hf
  refine aw_VV (As := []) (rest := []) X G hl.1 cr_X10_386 (c_X4_putInOrder l hz_17) ⟨rfl, rfl⟩ rfl rfl rfl (by decide) hc_15 rfl ⟨Nat.le_of_ble_eq_true rfl, Nat.le_of_ble_eq_true rfl⟩ (Nat.le_of_ble_eq_true rfl) dX10_prepareQuickPrimer_27 ⟨Nat.zero_le _, Nat.zero_le _⟩ (fun H locs G => ?_)
  exact aw_retv X G hf dX10_prepareQuickPrimer_30
def rm_X10_scoreOf : Room := { frames := 4, cells := 0, slots := 0, locals := 98 }
def f_X10_scoreOf_B29 (σ : Sg) (kb29 : Int32 → Int32 → Int32 → Dt → Option (Int32 × Dt)) (k29 : Int32 → Int32 → Dt → Option (Int32 × Dt)) (x0 : Nat) (x1 : Int32) (x2 : Nat) (x3 : Int32) (x4 : Int32) (x5 : Int32) (x6 : Int32) (d : Dt) : Option (Int32 × Dt) :=
  aw_chk (aw_O σ 10 13 x0) ((σ.2.2 x0 0).bind (fun q_15 => aw_chk (aw_O σ 9 4 q_15) (if (d.1 q_15 3) ≤ x6 then k29 x4 x5 d else (σ.2.2 q_15 2).bind (fun q_18 => aw_chk (aw_I σ 20 q_18 x6) ((σ.2.2 x0 5).bind (fun q_21 => (σ.2.2 x0 7).bind (fun q_23 => aw_chk (aw_O σ 7 3 q_23) ((σ.2.2 q_23 0).bind (fun q_26 => aw_chk (aw_I σ 23 q_26 x6) ((σ.2.2 q_26 x6.toNatClampNeg).bind (fun q_29 => (σ.2.2 q_23 1).bind (fun q_31 => aw_chk (aw_I σ 20 q_31 x6) (aw_chk (aw_O σ 6 4 q_21) ((f_X6_strokesIn σ q_21 q_29 (d.1 q_31 x6.toNatClampNeg) d).bind (fun z_34 => kb29 (x4 + (d.1 q_18 x6.toNatClampNeg)) (x5 + ((d.1 q_18 x6.toNatClampNeg) * z_34.1)) (x6 + 1) z_34.2)))))))))))))))
def f_X10_scoreOf_L29 (σ : Sg) (n : Nat) (k29 : Int32 → Int32 → Dt → Option (Int32 × Dt)) (x0 : Nat) (x1 : Int32) (x2 : Nat) (x3 : Int32) : Int32 → Int32 → Int32 → Dt → Option (Int32 × Dt) := match n with
  | 0 => fun _ _ _ _ => none
  | n + 1 => fun x4 x5 x6 d => f_X10_scoreOf_B29 σ (f_X10_scoreOf_L29 σ n k29 x0 x1 x2 x3) k29 x0 x1 x2 x3 x4 x5 x6 d
def f_X10_scoreOf (σ : Sg) (x0 : Nat) (x1 : Int32) (x2 : Nat) (d : Dt) : Option (Int32 × Dt) :=
  aw_chk (aw_O σ 10 13 x0) ((f_X10_spellAll σ x0 x2 d).bind (fun z_1 => (σ.2.2 x0 7).bind (fun q_4 => (σ.2.2 x0 0).bind (fun q_6 => aw_chk (aw_O σ 9 4 q_6) ((σ.2.2 q_6 2).bind (fun q_9 => aw_chk (aw_O σ 7 3 q_4) ((f_X7_doubtfulWeight σ q_4 q_9 z_1.2).bind (fun z_11 => f_X10_scoreOf_L29 σ aw_FU (fun x4_37 x5_38 d_39 => (σ.2.2 x0 6).bind (fun q_40 => aw_chk (aw_O σ 0 7 q_40) ((σ.2.2 q_40 2).bind (fun q_43 => aw_chk (aw_I σ 20 q_43 x1) ((f_X10_fitOfSpelled σ x0 x2 (d_39.1 q_43 x1.toNatClampNeg) d_39).bind (fun z_46 => (σ.2.2 q_40 1).bind (fun q_48 => aw_chk (aw_I σ 20 q_48 x1) (some (((z_11.1 * ((z_46.2.1 q_48 x1.toNatClampNeg) / (100 : Int32))) + ((x5_38 / (100 : Int32)) * (((z_46.2.1 q_48 x1.toNatClampNeg) / (10 : Int32)) - ((z_46.2.1 q_48 x1.toNatClampNeg) / (10 : Int32)) / (10 : Int32) * (10 : Int32)))) + ((x4_37 - z_46.1) * ((z_46.2.1 q_48 x1.toNatClampNeg) - (z_46.2.1 q_48 x1.toNatClampNeg) / (10 : Int32) * (10 : Int32))), z_46.2))))))))) x0 x1 x2 z_11.1 ((0 : Int32)) ((0 : Int32)) ((0 : Int32)) z_11.2))))))))
section W_X10_scoreOf
variable {p : Program} {l : Launch} {e : Env} {s : State} {m : MethodId} {args : Array Value} {below : List Frame} {meth : Method} {c : Code}
variable {D : va_G} {cA : Nat → ClassId} {base : Nat} {ad : Nat → Nat} {σ : Sg}
set_option maxHeartbeats 4000000 in
set_option maxRecDepth 100000 in
theorem w_X10_scoreOf_B29 {z : Int32 × Dt} (X : aw_X p c cX10_scoreOf 8 s RX10 m meth (some .int)) {kb29 : Int32 → Int32 → Int32 → Dt → Option (Int32 × Dt)} {k29 : Int32 → Int32 → Dt → Option (Int32 × Dt)} {x0 : Nat} {x1 : Int32} {x2 : Nat} {x3 : Int32} {x4 : Int32} {x5 : Int32} {x6 : Int32} {d : Dt} (hf : f_X10_scoreOf_B29 σ kb29 k29 x0 x1 x2 x3 x4 x5 x6 d = some z) (hkb29 : ∀ (y4 : Int32) (y5 : Int32) (y6 : Int32) (d : Dt), kb29 y4 y5 y6 d = some z → ∀ (H : Heap) (locs : List Loc) (ls : Array Slot), lv_has ls 8 [(0, .ref (ad x0)), (1, .int x1), (2, .ref (ad x2)), (3, .int x3), (4, .int y4), (5, .int y5), (6, .int y6)] → aw_G D cA base ad σ d s H locs → W p l e rm_X10_scoreOf s m args below meth c H locs 0 0 (aw_Ei D cA base ad σ below args s z) (F0 m 29 ls [])) (hk29 : ∀ (y4 : Int32) (y5 : Int32) (d : Dt), k29 y4 y5 d = some z → ∀ (H : Heap) (locs : List Loc) (ls : Array Slot), lv_has ls 8 [(0, .ref (ad x0)), (1, .int x1), (2, .ref (ad x2)), (3, .int x3), (4, .int y4), (5, .int y5)] → aw_G D cA base ad σ d s H locs → W p l e rm_X10_scoreOf s m args below meth c H locs 0 0 (aw_Ei D cA base ad σ below args s z) (F0 m 105 ls [])) {H : Heap} {locs : List Loc} {ls : Array Slot} (hl : lv_has ls 8 [(0, .ref (ad x0)), (1, .int x1), (2, .ref (ad x2)), (3, .int x3), (4, .int x4), (5, .int x5), (6, .int x6)]) (G : aw_G D cA base ad σ d s H locs) : W p l e rm_X10_scoreOf s m args below meth c H locs 0 0 (aw_Ei D cA base ad σ below args s z) (F0 m 29 ls []) := by
  have hx := X.1; have hb := X.2.1; have hml := X.2.2.1; have hown := X.2.2.2.1
  unfold f_X10_scoreOf_B29 at hf
  refine lv_iload hx hb dX10_scoreOf_29 (lv_at hl 6 rfl) ?_
  refine lv_aload_n hx hb dX10_scoreOf_31 rfl (lv_at hl 0 rfl) ?_
  obtain ⟨hc_14, hf⟩ := aw_chk_some hf
  obtain ⟨q_15, hq_16, hf⟩ := aw_bind_some hf
  refine gf_X10_12 hx hb G hown hc_14 hq_16 dX10_scoreOf_32 ?_
  obtain ⟨hc_17, hf⟩ := aw_chk_some hf
  refine gf_X10_112 hx hb G hown hc_17 dX10_scoreOf_35 ?_
  refine lv_icmp_ge (tgt := 105) hx hb dX10_scoreOf_38 (by decide) (fun hc => ?_) (fun hc => ?_)
  · have hf := aw_ite_t hc hf
    exact hk29 _ _ _ hf _ _ _ (lv_sub hl [0, 1, 2, 3, 4, 5] rfl) G
  · have hf := aw_ite_f hc hf
    refine lv_iload hx hb dX10_scoreOf_41 (lv_at hl 4 rfl) ?_
    refine lv_aload_n hx hb dX10_scoreOf_43 rfl (lv_at hl 0 rfl) ?_
    refine gf_X10_12 hx hb G hown hc_14 hq_16 dX10_scoreOf_44 ?_
    obtain ⟨q_18, hq_19, hf⟩ := aw_bind_some hf
    refine gf_X10_212 hx hb G hown hc_17 hq_19 dX10_scoreOf_47 ?_
    refine lv_iload hx hb dX10_scoreOf_50 (lv_at hl 6 rfl) ?_
    obtain ⟨hc_20, hf⟩ := aw_chk_some hf
    refine aw_ial hx hb G hc_20 dX10_scoreOf_52 ?_
    refine lv_iadd hx hb dX10_scoreOf_53 ?_
    refine lv_istore (lv' := [(4, .int (x4 + (d.1 q_18 x6.toNatClampNeg))), (0, .ref (ad x0)), (1, .int x1), (2, .ref (ad x2)), (3, .int x3), (5, .int x5), (6, .int x6)]) hx hb dX10_scoreOf_54 hl (by decide) rfl (fun ls hl => ?_)
    refine lv_iload hx hb dX10_scoreOf_56 (lv_at hl 5 rfl) ?_
    refine lv_aload_n hx hb dX10_scoreOf_58 rfl (lv_at hl 1 rfl) ?_
    refine gf_X10_12 hx hb G hown hc_14 hq_16 dX10_scoreOf_59 ?_
    refine gf_X10_212 hx hb G hown hc_17 hq_19 dX10_scoreOf_62 ?_
    refine lv_iload hx hb dX10_scoreOf_65 (lv_at hl 6 rfl) ?_
    refine aw_ial hx hb G hc_20 dX10_scoreOf_67 ?_
    refine lv_aload_n hx hb dX10_scoreOf_68 rfl (lv_at hl 1 rfl) ?_
    obtain ⟨q_21, hq_22, hf⟩ := aw_bind_some hf
    refine gf_X10_40 hx hb G hown hc_14 hq_22 dX10_scoreOf_69 ?_
    refine lv_aload_n hx hb dX10_scoreOf_72 rfl (lv_at hl 1 rfl) ?_
    obtain ⟨q_23, hq_24, hf⟩ := aw_bind_some hf
    refine gf_X10_54 hx hb G hown hc_14 hq_24 dX10_scoreOf_73 ?_
    obtain ⟨hc_25, hf⟩ := aw_chk_some hf
    obtain ⟨q_26, hq_27, hf⟩ := aw_bind_some hf
    refine gf_X10_208 hx hb G hown hc_25 hq_27 dX10_scoreOf_76 ?_
    refine lv_iload hx hb dX10_scoreOf_79 (lv_at hl 6 rfl) ?_
    obtain ⟨hc_28, hf⟩ := aw_chk_some hf
    obtain ⟨q_29, hq_30, hf⟩ := aw_bind_some hf
    refine aw_qal hx hb G 23 _ rfl rfl (by decide) hc_28 hq_30 dX10_scoreOf_81 ?_
    refine lv_aload_n hx hb dX10_scoreOf_82 rfl (lv_at hl 1 rfl) ?_
    refine gf_X10_54 hx hb G hown hc_14 hq_24 dX10_scoreOf_83 ?_
    obtain ⟨q_31, hq_32, hf⟩ := aw_bind_some hf
    refine gf_X10_207 hx hb G hown hc_25 hq_32 dX10_scoreOf_86 ?_
    refine lv_iload hx hb dX10_scoreOf_89 (lv_at hl 6 rfl) ?_
    obtain ⟨hc_33, hf⟩ := aw_chk_some hf
    refine aw_ial hx hb G hc_33 dX10_scoreOf_91 ?_
    obtain ⟨hc_36, hf⟩ := aw_chk_some hf
    obtain ⟨z_34, hz_35, hf⟩ := aw_bind_some hf
    refine aw_VI (As := [.ref (ad q_29), .int (d.1 q_31 x6.toNatClampNeg)]) (rest := [.int (d.1 q_18 x6.toNatClampNeg), .int x5]) X G hl.1 cr_X10_389 (c_X6_strokesIn l hz_35) ⟨rfl, rfl⟩ rfl rfl rfl (by decide) hc_36 rfl ⟨Nat.le_of_ble_eq_true rfl, Nat.le_of_ble_eq_true rfl⟩ (Nat.le_of_ble_eq_true rfl) dX10_scoreOf_92 ⟨Nat.zero_le _, Nat.zero_le _⟩ (fun H locs G => ?_)
    refine lv_imul hx hb dX10_scoreOf_95 ?_
    refine lv_iadd hx hb dX10_scoreOf_96 ?_
    refine lv_istore (lv' := [(5, .int (x5 + ((d.1 q_18 x6.toNatClampNeg) * z_34.1))), (4, .int (x4 + (d.1 q_18 x6.toNatClampNeg))), (0, .ref (ad x0)), (1, .int x1), (2, .ref (ad x2)), (3, .int x3), (6, .int x6)]) hx hb dX10_scoreOf_97 hl (by decide) rfl (fun ls hl => ?_)
    refine lv_iinc (v := x6 + 1) (lv' := [(6, .int (x6 + 1)), (5, .int (x5 + ((d.1 q_18 x6.toNatClampNeg) * z_34.1))), (4, .int (x4 + (d.1 q_18 x6.toNatClampNeg))), (0, .ref (ad x0)), (1, .int x1), (2, .ref (ad x2)), (3, .int x3)]) hx hb dX10_scoreOf_99 hl (k := 6) rfl rfl (by decide) rfl (fun ls hl => ?_)
    refine lv_goto (tgt := 29) hx hb dX10_scoreOf_102 (by decide) ?_
    exact hkb29 _ _ _ _ hf _ _ _ (lv_sub hl [3, 4, 5, 6, 2, 1, 0] rfl) G
theorem w_X10_scoreOf_L29 {z : Int32 × Dt} (X : aw_X p c cX10_scoreOf 8 s RX10 m meth (some .int)) {k29 : Int32 → Int32 → Dt → Option (Int32 × Dt)} {x0 : Nat} {x1 : Int32} {x2 : Nat} {x3 : Int32} (n : Nat) {x4 : Int32} {x5 : Int32} {x6 : Int32} {d : Dt} (hf : f_X10_scoreOf_L29 σ n k29 x0 x1 x2 x3 x4 x5 x6 d = some z) (hk29 : ∀ (y4 : Int32) (y5 : Int32) (d : Dt), k29 y4 y5 d = some z → ∀ (H : Heap) (locs : List Loc) (ls : Array Slot), lv_has ls 8 [(0, .ref (ad x0)), (1, .int x1), (2, .ref (ad x2)), (3, .int x3), (4, .int y4), (5, .int y5)] → aw_G D cA base ad σ d s H locs → W p l e rm_X10_scoreOf s m args below meth c H locs 0 0 (aw_Ei D cA base ad σ below args s z) (F0 m 105 ls [])) {H : Heap} {locs : List Loc} {ls : Array Slot} (hl : lv_has ls 8 [(0, .ref (ad x0)), (1, .int x1), (2, .ref (ad x2)), (3, .int x3), (4, .int x4), (5, .int x5), (6, .int x6)]) (G : aw_G D cA base ad σ d s H locs) : W p l e rm_X10_scoreOf s m args below meth c H locs 0 0 (aw_Ei D cA base ad σ below args s z) (F0 m 29 ls []) := by
  induction n generalizing x4 x5 x6 d H locs ls with
  | zero => exact absurd (show (none : Option (Int32 × Dt)) = some z from hf) (by simp)
  | succ n ih => exact w_X10_scoreOf_B29 X (kb29 := f_X10_scoreOf_L29 σ n k29 x0 x1 x2 x3) hf  (fun x4 x5 x6 d hf H locs ls hl G => ih hf hl G) hk29 hl G
end W_X10_scoreOf
set_option maxHeartbeats 4000000 in
set_option maxRecDepth 100000 in
theorem c_X10_scoreOf (l : Launch) {σ : Sg} {x0 : Nat} {x1 : Int32} {x2 : Nat} {d : Dt} {z : Int32 × Dt} (hf : f_X10_scoreOf σ x0 x1 x2 d = some z) : aw_Mi l yX10_scoreOf (Cond.code yX10_scoreOf cX10_scoreOf 8 (some .int)) rm_X10_scoreOf (fun ad => [.ref (ad x0), .int x1, .ref (ad x2)]) σ d z := by
  intro D cA base ad
  refine aw_ofW (own := RX10) (cc := cX10_scoreOf) (nL := 8) (ret := some .int) (by decide) rfl rfl ?_
  intro p e s m below meth c X hnm G
  have hx := X.1; have hb := X.2.1; have hml := X.2.2.1; have hown := X.2.2.2.1
  refine aw_ls (lv := [(0, .ref (ad x0)), (1, .int x1), (2, .ref (ad x2))]) (Nat.le_of_ble_eq_true rfl) rfl (fun ls hl => ?_)
  unfold f_X10_scoreOf at hf
  refine lv_aload_n hx hb dX10_scoreOf_0 rfl (lv_at hl 0 rfl) ?_
  refine lv_aload_n hx hb dX10_scoreOf_1 rfl (lv_at hl 2 rfl) ?_
  obtain ⟨hc_3, hf⟩ := aw_chk_some hf
  obtain ⟨z_1, hz_2, hf⟩ := aw_bind_some hf
  refine aw_VV (As := [.ref (ad x2)]) (rest := []) X G hl.1 cr_X10_203 (c_X10_spellAll l hz_2) ⟨rfl, rfl⟩ rfl rfl rfl (by decide) hc_3 rfl ⟨Nat.le_of_ble_eq_true rfl, Nat.le_of_ble_eq_true rfl⟩ (Nat.le_of_ble_eq_true rfl) dX10_scoreOf_2 ⟨Nat.zero_le _, Nat.zero_le _⟩ (fun H locs G => ?_)
  refine lv_aload_n hx hb dX10_scoreOf_5 rfl (lv_at hl 0 rfl) ?_
  obtain ⟨q_4, hq_5, hf⟩ := aw_bind_some hf
  refine gf_X10_54 hx hb G hown hc_3 hq_5 dX10_scoreOf_6 ?_
  refine lv_aload_n hx hb dX10_scoreOf_9 rfl (lv_at hl 0 rfl) ?_
  obtain ⟨q_6, hq_7, hf⟩ := aw_bind_some hf
  refine gf_X10_12 hx hb G hown hc_3 hq_7 dX10_scoreOf_10 ?_
  obtain ⟨hc_8, hf⟩ := aw_chk_some hf
  obtain ⟨q_9, hq_10, hf⟩ := aw_bind_some hf
  refine gf_X10_212 hx hb G hown hc_8 hq_10 dX10_scoreOf_13 ?_
  obtain ⟨hc_13, hf⟩ := aw_chk_some hf
  obtain ⟨z_11, hz_12, hf⟩ := aw_bind_some hf
  refine aw_VI (As := [.ref (ad q_9)]) (rest := []) X G hl.1 cr_X10_215 (c_X7_doubtfulWeight l hz_12) ⟨rfl, rfl⟩ rfl rfl rfl (by decide) hc_13 rfl ⟨Nat.le_of_ble_eq_true rfl, Nat.le_of_ble_eq_true rfl⟩ (Nat.le_of_ble_eq_true rfl) dX10_scoreOf_16 ⟨Nat.zero_le _, Nat.zero_le _⟩ (fun H locs G => ?_)
  refine lv_istore_n (lv' := [(3, .int z_11.1), (0, .ref (ad x0)), (1, .int x1), (2, .ref (ad x2))]) hx hb dX10_scoreOf_19 rfl hl (by decide) rfl (fun ls hl => ?_)
  refine lv_iconst (v := (0 : Int32)) hx hb dX10_scoreOf_20 (by decide) ?_
  refine lv_istore (lv' := [(4, .int ((0 : Int32))), (3, .int z_11.1), (0, .ref (ad x0)), (1, .int x1), (2, .ref (ad x2))]) hx hb dX10_scoreOf_21 hl (by decide) rfl (fun ls hl => ?_)
  refine lv_iconst (v := (0 : Int32)) hx hb dX10_scoreOf_23 (by decide) ?_
  refine lv_istore (lv' := [(5, .int ((0 : Int32))), (4, .int ((0 : Int32))), (3, .int z_11.1), (0, .ref (ad x0)), (1, .int x1), (2, .ref (ad x2))]) hx hb dX10_scoreOf_24 hl (by decide) rfl (fun ls hl => ?_)
  refine lv_iconst (v := (0 : Int32)) hx hb dX10_scoreOf_26 (by decide) ?_
  refine lv_istore (lv' := [(6, .int ((0 : Int32))), (5, .int ((0 : Int32))), (4, .int ((0 : Int32))), (3, .int z_11.1), (0, .ref (ad x0)), (1, .int x1), (2, .ref (ad x2))]) hx hb dX10_scoreOf_27 hl (by decide) rfl (fun ls hl => ?_)
  refine w_X10_scoreOf_L29 X aw_FU hf  (fun x4_37 x5_38 d_39 hf H locs ls hl G => ?_) (lv_sub hl [4, 5, 6, 3, 2, 1, 0] rfl) G
  refine lv_iload hx hb dX10_scoreOf_105 (lv_at hl 4 rfl) ?_
  refine lv_aload_n hx hb dX10_scoreOf_107 rfl (lv_at hl 0 rfl) ?_
  refine lv_aload_n hx hb dX10_scoreOf_108 rfl (lv_at hl 2 rfl) ?_
  refine lv_aload_n hx hb dX10_scoreOf_109 rfl (lv_at hl 0 rfl) ?_
  obtain ⟨q_40, hq_41, hf⟩ := aw_bind_some hf
  refine gf_X10_47 hx hb G hown hc_3 hq_41 dX10_scoreOf_110 ?_
  obtain ⟨hc_42, hf⟩ := aw_chk_some hf
  obtain ⟨q_43, hq_44, hf⟩ := aw_bind_some hf
  refine gf_X10_330 hx hb G hown hc_42 hq_44 dX10_scoreOf_113 ?_
  refine lv_iload_n hx hb dX10_scoreOf_116 rfl (lv_at hl 1 rfl) ?_
  obtain ⟨hc_45, hf⟩ := aw_chk_some hf
  refine aw_ial hx hb G hc_45 dX10_scoreOf_117 ?_
  obtain ⟨z_46, hz_47, hf⟩ := aw_bind_some hf
  refine aw_VI (As := [.ref (ad x2), .int (d_39.1 q_43 x1.toNatClampNeg)]) (rest := [.int x4_37]) X G hl.1 cr_X10_226 (c_X10_fitOfSpelled l hz_47) ⟨rfl, rfl⟩ rfl rfl rfl (by decide) hc_3 rfl ⟨Nat.le_of_ble_eq_true rfl, Nat.le_of_ble_eq_true rfl⟩ (Nat.le_of_ble_eq_true rfl) dX10_scoreOf_118 ⟨Nat.zero_le _, Nat.zero_le _⟩ (fun H locs G => ?_)
  refine lv_isub hx hb dX10_scoreOf_121 ?_
  refine lv_istore (lv' := [(6, .int (x4_37 - z_46.1)), (0, .ref (ad x0)), (1, .int x1), (2, .ref (ad x2)), (3, .int z_11.1), (4, .int x4_37), (5, .int x5_38)]) hx hb dX10_scoreOf_122 hl (by decide) rfl (fun ls hl => ?_)
  refine lv_aload_n hx hb dX10_scoreOf_124 rfl (lv_at hl 1 rfl) ?_
  refine gf_X10_47 hx hb G hown hc_3 hq_41 dX10_scoreOf_125 ?_
  obtain ⟨q_48, hq_49, hf⟩ := aw_bind_some hf
  refine gf_X10_327 hx hb G hown hc_42 hq_49 dX10_scoreOf_128 ?_
  refine lv_iload_n hx hb dX10_scoreOf_131 rfl (lv_at hl 2 rfl) ?_
  obtain ⟨hc_50, hf⟩ := aw_chk_some hf
  refine aw_ial hx hb G hc_50 dX10_scoreOf_132 ?_
  refine lv_istore (lv' := [(7, .int (z_46.2.1 q_48 x1.toNatClampNeg)), (6, .int (x4_37 - z_46.1)), (0, .ref (ad x0)), (1, .int x1), (2, .ref (ad x2)), (3, .int z_11.1), (4, .int x4_37), (5, .int x5_38)]) hx hb dX10_scoreOf_133 hl (by decide) rfl (fun ls hl => ?_)
  refine lv_iload_n hx hb dX10_scoreOf_135 rfl (lv_at hl 5 rfl) ?_
  refine lv_iload hx hb dX10_scoreOf_136 (lv_at hl 0 rfl) ?_
  refine lv_bipush (v := (100 : Int32)) hx hb dX10_scoreOf_138 (by decide) ?_
  refine lv_idiv hx hb dX10_scoreOf_140 (by decide) ?_
  refine lv_imul hx hb dX10_scoreOf_141 ?_
  refine lv_iload hx hb dX10_scoreOf_142 (lv_at hl 7 rfl) ?_
  refine lv_bipush (v := (100 : Int32)) hx hb dX10_scoreOf_144 (by decide) ?_
  refine lv_idiv hx hb dX10_scoreOf_146 (by decide) ?_
  refine lv_iload hx hb dX10_scoreOf_147 (lv_at hl 0 rfl) ?_
  refine lv_bipush (v := (10 : Int32)) hx hb dX10_scoreOf_149 (by decide) ?_
  refine lv_idiv hx hb dX10_scoreOf_151 (by decide) ?_
  refine lv_bipush (v := (10 : Int32)) hx hb dX10_scoreOf_152 (by decide) ?_
  refine lv_irem hx hb dX10_scoreOf_154 (by decide) ?_
  refine lv_imul hx hb dX10_scoreOf_155 ?_
  refine lv_iadd hx hb dX10_scoreOf_156 ?_
  refine lv_iload hx hb dX10_scoreOf_157 (lv_at hl 1 rfl) ?_
  refine lv_iload hx hb dX10_scoreOf_159 (lv_at hl 0 rfl) ?_
  refine lv_bipush (v := (10 : Int32)) hx hb dX10_scoreOf_161 (by decide) ?_
  refine lv_irem hx hb dX10_scoreOf_163 (by decide) ?_
  refine lv_imul hx hb dX10_scoreOf_164 ?_
  refine lv_iadd hx hb dX10_scoreOf_165 ?_
  exact aw_reti X G hf dX10_scoreOf_166
def rm_X10_prepareBallot : Room := { frames := 5, cells := 0, slots := 0, locals := 125 }
def f_X10_prepareBallot_B20 (σ : Sg) (kb20 : Int32 → Dt → Option (Unit × Dt)) (k20 : Dt → Option (Unit × Dt)) (x0 : Nat) (x1 : Int32) (x2 : Int32) (d : Dt) : Option (Unit × Dt) :=
  aw_chk (aw_O σ 10 13 x0) (if (d.1 x0 4) ≤ x2 then k20 d else (σ.2.2 x0 6).bind (fun q_8 => aw_chk (aw_O σ 0 7 q_8) ((σ.2.2 q_8 3).bind (fun q_11 => aw_chk (aw_I σ 23 q_11 x1) ((σ.2.2 q_11 x1.toNatClampNeg).bind (fun q_14 => (σ.2.2 x0 3).bind (fun q_16 => aw_chk (aw_I σ 26 q_16 x2) ((σ.2.2 q_16 x2.toNatClampNeg).bind (fun q_19 => (f_X10_scoreOf σ x0 x1 q_19 d).bind (fun z_21 => aw_chk (aw_I σ 20 q_14 x2) (kb20 (x2 + 1) (aw_sI z_21.2 q_14 x2.toNatClampNeg z_21.1))))))))))))
def f_X10_prepareBallot_L20 (σ : Sg) (n : Nat) (k20 : Dt → Option (Unit × Dt)) (x0 : Nat) (x1 : Int32) : Int32 → Dt → Option (Unit × Dt) := match n with
  | 0 => fun _ _ => none
  | n + 1 => fun x2 d => f_X10_prepareBallot_B20 σ (f_X10_prepareBallot_L20 σ n k20 x0 x1) k20 x0 x1 x2 d
def f_X10_prepareBallot_B13 (σ : Sg) (kb13 : Int32 → Dt → Option (Unit × Dt)) (k13 : Dt → Option (Unit × Dt)) (x0 : Nat) (x1 : Int32) (d : Dt) : Option (Unit × Dt) :=
  if ((4 : Int32)) ≤ x1 then k13 d else f_X10_prepareBallot_L20 σ aw_FU (fun d_24 => kb13 (x1 + 1) d_24) x0 x1 ((0 : Int32)) d
def f_X10_prepareBallot_L13 (σ : Sg) (n : Nat) (k13 : Dt → Option (Unit × Dt)) (x0 : Nat) : Int32 → Dt → Option (Unit × Dt) := match n with
  | 0 => fun _ _ => none
  | n + 1 => fun x1 d => f_X10_prepareBallot_B13 σ (f_X10_prepareBallot_L13 σ n k13 x0) k13 x0 x1 d
def f_X10_prepareBallot (σ : Sg) (x0 : Nat) (d : Dt) : Option (Unit × Dt) :=
  aw_chk (aw_O σ 10 13 x0) ((σ.2.2 x0 6).bind (fun q_2 => aw_chk (aw_O σ 0 7 q_2) ((f_X0_open σ q_2 (d.1 x0 4) d).bind (fun z_4 => f_X10_prepareBallot_L13 σ aw_FU (fun d_25 => some ((), d_25)) x0 ((0 : Int32)) z_4.2))))
section W_X10_prepareBallot
variable {p : Program} {l : Launch} {e : Env} {s : State} {m : MethodId} {args : Array Value} {below : List Frame} {meth : Method} {c : Code}
variable {D : va_G} {cA : Nat → ClassId} {base : Nat} {ad : Nat → Nat} {σ : Sg}
set_option maxHeartbeats 4000000 in
set_option maxRecDepth 100000 in
theorem w_X10_prepareBallot_B20 {z : Unit × Dt} (X : aw_X p c cX10_prepareBallot 3 s RX10 m meth (none)) {kb20 : Int32 → Dt → Option (Unit × Dt)} {k20 : Dt → Option (Unit × Dt)} {x0 : Nat} {x1 : Int32} {x2 : Int32} {d : Dt} (hf : f_X10_prepareBallot_B20 σ kb20 k20 x0 x1 x2 d = some z) (hkb20 : ∀ (y2 : Int32) (d : Dt), kb20 y2 d = some z → ∀ (H : Heap) (locs : List Loc) (ls : Array Slot), lv_has ls 3 [(0, .ref (ad x0)), (1, .int x1), (2, .int y2)] → aw_G D cA base ad σ d s H locs → W p l e rm_X10_prepareBallot s m args below meth c H locs 0 0 (aw_Ev D cA base ad σ below args s z) (F0 m 20 ls [])) (hk20 : ∀ (d : Dt), k20 d = some z → ∀ (H : Heap) (locs : List Loc) (ls : Array Slot), lv_has ls 3 [(0, .ref (ad x0)), (1, .int x1)] → aw_G D cA base ad σ d s H locs → W p l e rm_X10_prepareBallot s m args below meth c H locs 0 0 (aw_Ev D cA base ad σ below args s z) (F0 m 56 ls [])) {H : Heap} {locs : List Loc} {ls : Array Slot} (hl : lv_has ls 3 [(0, .ref (ad x0)), (1, .int x1), (2, .int x2)]) (G : aw_G D cA base ad σ d s H locs) : W p l e rm_X10_prepareBallot s m args below meth c H locs 0 0 (aw_Ev D cA base ad σ below args s z) (F0 m 20 ls []) := by
  have hx := X.1; have hb := X.2.1; have hml := X.2.2.1; have hown := X.2.2.2.1
  unfold f_X10_prepareBallot_B20 at hf
  refine lv_iload_n hx hb dX10_prepareBallot_20 rfl (lv_at hl 2 rfl) ?_
  refine lv_aload_n hx hb dX10_prepareBallot_21 rfl (lv_at hl 0 rfl) ?_
  obtain ⟨hc_7, hf⟩ := aw_chk_some hf
  refine gf_X10_33 hx hb G hown hc_7 dX10_prepareBallot_22 ?_
  refine lv_icmp_ge (tgt := 56) hx hb dX10_prepareBallot_25 (by decide) (fun hc => ?_) (fun hc => ?_)
  · have hf := aw_ite_t hc hf
    exact hk20 _ hf _ _ _ (lv_sub hl [0, 1] rfl) G
  · have hf := aw_ite_f hc hf
    refine lv_aload_n hx hb dX10_prepareBallot_28 rfl (lv_at hl 0 rfl) ?_
    obtain ⟨q_8, hq_9, hf⟩ := aw_bind_some hf
    refine gf_X10_47 hx hb G hown hc_7 hq_9 dX10_prepareBallot_29 ?_
    obtain ⟨hc_10, hf⟩ := aw_chk_some hf
    obtain ⟨q_11, hq_12, hf⟩ := aw_bind_some hf
    refine gf_X10_395 hx hb G hown hc_10 hq_12 dX10_prepareBallot_32 ?_
    refine lv_iload_n hx hb dX10_prepareBallot_35 rfl (lv_at hl 1 rfl) ?_
    obtain ⟨hc_13, hf⟩ := aw_chk_some hf
    obtain ⟨q_14, hq_15, hf⟩ := aw_bind_some hf
    refine aw_qal hx hb G 23 _ rfl rfl (by decide) hc_13 hq_15 dX10_prepareBallot_36 ?_
    refine lv_iload_n hx hb dX10_prepareBallot_37 rfl (lv_at hl 2 rfl) ?_
    refine lv_aload_n hx hb dX10_prepareBallot_38 rfl (lv_at hl 0 rfl) ?_
    refine lv_iload_n hx hb dX10_prepareBallot_39 rfl (lv_at hl 1 rfl) ?_
    refine lv_aload_n hx hb dX10_prepareBallot_40 rfl (lv_at hl 0 rfl) ?_
    obtain ⟨q_16, hq_17, hf⟩ := aw_bind_some hf
    refine gf_X10_29 hx hb G hown hc_7 hq_17 dX10_prepareBallot_41 ?_
    refine lv_iload_n hx hb dX10_prepareBallot_44 rfl (lv_at hl 2 rfl) ?_
    obtain ⟨hc_18, hf⟩ := aw_chk_some hf
    obtain ⟨q_19, hq_20, hf⟩ := aw_bind_some hf
    refine aw_qal hx hb G 26 _ rfl rfl (by decide) hc_18 hq_20 dX10_prepareBallot_45 ?_
    obtain ⟨z_21, hz_22, hf⟩ := aw_bind_some hf
    refine aw_VI (As := [.int x1, .ref (ad q_19)]) (rest := [.int x2, .ref (ad q_14)]) X G hl.1 cr_X10_332 (c_X10_scoreOf l hz_22) ⟨rfl, rfl⟩ rfl rfl rfl (by decide) hc_7 rfl ⟨Nat.le_of_ble_eq_true rfl, Nat.le_of_ble_eq_true rfl⟩ (Nat.le_of_ble_eq_true rfl) dX10_prepareBallot_46 ⟨Nat.zero_le _, Nat.zero_le _⟩ (fun H locs G => ?_)
    obtain ⟨hc_23, hf⟩ := aw_chk_some hf
    refine aw_ias hx hb G hc_23 dX10_prepareBallot_49 (fun H locs G => ?_)
    refine lv_iinc (v := x2 + 1) (lv' := [(2, .int (x2 + 1)), (0, .ref (ad x0)), (1, .int x1)]) hx hb dX10_prepareBallot_50 hl (k := 2) rfl rfl (by decide) rfl (fun ls hl => ?_)
    refine lv_goto (tgt := 20) hx hb dX10_prepareBallot_53 (by decide) ?_
    exact hkb20 _ _ hf _ _ _ (lv_sub hl [1, 2, 0] rfl) G
theorem w_X10_prepareBallot_L20 {z : Unit × Dt} (X : aw_X p c cX10_prepareBallot 3 s RX10 m meth (none)) {k20 : Dt → Option (Unit × Dt)} {x0 : Nat} {x1 : Int32} (n : Nat) {x2 : Int32} {d : Dt} (hf : f_X10_prepareBallot_L20 σ n k20 x0 x1 x2 d = some z) (hk20 : ∀ (d : Dt), k20 d = some z → ∀ (H : Heap) (locs : List Loc) (ls : Array Slot), lv_has ls 3 [(0, .ref (ad x0)), (1, .int x1)] → aw_G D cA base ad σ d s H locs → W p l e rm_X10_prepareBallot s m args below meth c H locs 0 0 (aw_Ev D cA base ad σ below args s z) (F0 m 56 ls [])) {H : Heap} {locs : List Loc} {ls : Array Slot} (hl : lv_has ls 3 [(0, .ref (ad x0)), (1, .int x1), (2, .int x2)]) (G : aw_G D cA base ad σ d s H locs) : W p l e rm_X10_prepareBallot s m args below meth c H locs 0 0 (aw_Ev D cA base ad σ below args s z) (F0 m 20 ls []) := by
  induction n generalizing x2 d H locs ls with
  | zero => exact absurd (show (none : Option (Unit × Dt)) = some z from hf) (by simp)
  | succ n ih => exact w_X10_prepareBallot_B20 X (kb20 := f_X10_prepareBallot_L20 σ n k20 x0 x1) hf  (fun x2 d hf H locs ls hl G => ih hf hl G) hk20 hl G
set_option maxHeartbeats 4000000 in
set_option maxRecDepth 100000 in
theorem w_X10_prepareBallot_B13 {z : Unit × Dt} (X : aw_X p c cX10_prepareBallot 3 s RX10 m meth (none)) {kb13 : Int32 → Dt → Option (Unit × Dt)} {k13 : Dt → Option (Unit × Dt)} {x0 : Nat} {x1 : Int32} {d : Dt} (hf : f_X10_prepareBallot_B13 σ kb13 k13 x0 x1 d = some z) (hkb13 : ∀ (y1 : Int32) (d : Dt), kb13 y1 d = some z → ∀ (H : Heap) (locs : List Loc) (ls : Array Slot), lv_has ls 3 [(0, .ref (ad x0)), (1, .int y1)] → aw_G D cA base ad σ d s H locs → W p l e rm_X10_prepareBallot s m args below meth c H locs 0 0 (aw_Ev D cA base ad σ below args s z) (F0 m 13 ls [])) (hk13 : ∀ (d : Dt), k13 d = some z → ∀ (H : Heap) (locs : List Loc) (ls : Array Slot), lv_has ls 3 [] → aw_G D cA base ad σ d s H locs → W p l e rm_X10_prepareBallot s m args below meth c H locs 0 0 (aw_Ev D cA base ad σ below args s z) (F0 m 62 ls [])) {H : Heap} {locs : List Loc} {ls : Array Slot} (hl : lv_has ls 3 [(0, .ref (ad x0)), (1, .int x1)]) (G : aw_G D cA base ad σ d s H locs) : W p l e rm_X10_prepareBallot s m args below meth c H locs 0 0 (aw_Ev D cA base ad σ below args s z) (F0 m 13 ls []) := by
  have hx := X.1; have hb := X.2.1; have hml := X.2.2.1; have hown := X.2.2.2.1
  unfold f_X10_prepareBallot_B13 at hf
  refine lv_iload_n hx hb dX10_prepareBallot_13 rfl (lv_at hl 1 rfl) ?_
  refine lv_iconst (v := (4 : Int32)) hx hb dX10_prepareBallot_14 (by decide) ?_
  refine lv_icmp_ge (tgt := 62) hx hb dX10_prepareBallot_15 (by decide) (fun hc => ?_) (fun hc => ?_)
  · have hf := aw_ite_t hc hf
    exact hk13 _ hf _ _ _ (lv_sub hl [] rfl) G
  · have hf := aw_ite_f hc hf
    refine lv_iconst (v := (0 : Int32)) hx hb dX10_prepareBallot_18 (by decide) ?_
    refine lv_istore_n (lv' := [(2, .int ((0 : Int32))), (0, .ref (ad x0)), (1, .int x1)]) hx hb dX10_prepareBallot_19 rfl hl (by decide) rfl (fun ls hl => ?_)
    refine w_X10_prepareBallot_L20 X aw_FU hf  (fun d_24 hf H locs ls hl G => ?_) (lv_sub hl [1, 2, 0] rfl) G
    refine lv_iinc (v := x1 + 1) (lv' := [(1, .int (x1 + 1)), (0, .ref (ad x0))]) hx hb dX10_prepareBallot_56 hl (k := 1) rfl rfl (by decide) rfl (fun ls hl => ?_)
    refine lv_goto (tgt := 13) hx hb dX10_prepareBallot_59 (by decide) ?_
    exact hkb13 _ _ hf _ _ _ (lv_sub hl [1, 0] rfl) G
theorem w_X10_prepareBallot_L13 {z : Unit × Dt} (X : aw_X p c cX10_prepareBallot 3 s RX10 m meth (none)) {k13 : Dt → Option (Unit × Dt)} {x0 : Nat} (n : Nat) {x1 : Int32} {d : Dt} (hf : f_X10_prepareBallot_L13 σ n k13 x0 x1 d = some z) (hk13 : ∀ (d : Dt), k13 d = some z → ∀ (H : Heap) (locs : List Loc) (ls : Array Slot), lv_has ls 3 [] → aw_G D cA base ad σ d s H locs → W p l e rm_X10_prepareBallot s m args below meth c H locs 0 0 (aw_Ev D cA base ad σ below args s z) (F0 m 62 ls [])) {H : Heap} {locs : List Loc} {ls : Array Slot} (hl : lv_has ls 3 [(0, .ref (ad x0)), (1, .int x1)]) (G : aw_G D cA base ad σ d s H locs) : W p l e rm_X10_prepareBallot s m args below meth c H locs 0 0 (aw_Ev D cA base ad σ below args s z) (F0 m 13 ls []) := by
  induction n generalizing x1 d H locs ls with
  | zero => exact absurd (show (none : Option (Unit × Dt)) = some z from hf) (by simp)
  | succ n ih => exact w_X10_prepareBallot_B13 X (kb13 := f_X10_prepareBallot_L13 σ n k13 x0) hf  (fun x1 d hf H locs ls hl G => ih hf hl G) hk13 hl G
end W_X10_prepareBallot
set_option maxHeartbeats 4000000 in
set_option maxRecDepth 100000 in
theorem c_X10_prepareBallot (l : Launch) {σ : Sg} {x0 : Nat} {d : Dt} {z : Unit × Dt} (hf : f_X10_prepareBallot σ x0 d = some z) : aw_Mv l yX10_prepareBallot (Cond.code yX10_prepareBallot cX10_prepareBallot 3 (none)) rm_X10_prepareBallot (fun ad => [.ref (ad x0)]) σ d z := by
  intro D cA base ad
  refine aw_ofW (own := RX10) (cc := cX10_prepareBallot) (nL := 3) (ret := none) (by decide) rfl rfl ?_
  intro p e s m below meth c X hnm G
  have hx := X.1; have hb := X.2.1; have hml := X.2.2.1; have hown := X.2.2.2.1
  refine aw_ls (lv := [(0, .ref (ad x0))]) (Nat.le_of_ble_eq_true rfl) rfl (fun ls hl => ?_)
  unfold f_X10_prepareBallot at hf
  refine lv_aload_n hx hb dX10_prepareBallot_0 rfl (lv_at hl 0 rfl) ?_
  obtain ⟨hc_1, hf⟩ := aw_chk_some hf
  obtain ⟨q_2, hq_3, hf⟩ := aw_bind_some hf
  refine gf_X10_47 hx hb G hown hc_1 hq_3 dX10_prepareBallot_1 ?_
  refine lv_aload_n hx hb dX10_prepareBallot_4 rfl (lv_at hl 0 rfl) ?_
  refine gf_X10_33 hx hb G hown hc_1 dX10_prepareBallot_5 ?_
  obtain ⟨hc_6, hf⟩ := aw_chk_some hf
  obtain ⟨z_4, hz_5, hf⟩ := aw_bind_some hf
  refine aw_VV (As := [.int (d.1 x0 4)]) (rest := []) X G hl.1 cr_X10_392 (c_X0_open l hz_5) ⟨rfl, rfl⟩ rfl rfl rfl (by decide) hc_6 rfl ⟨Nat.le_of_ble_eq_true rfl, Nat.le_of_ble_eq_true rfl⟩ (Nat.le_of_ble_eq_true rfl) dX10_prepareBallot_8 ⟨Nat.zero_le _, Nat.zero_le _⟩ (fun H locs G => ?_)
  refine lv_iconst (v := (0 : Int32)) hx hb dX10_prepareBallot_11 (by decide) ?_
  refine lv_istore_n (lv' := [(1, .int ((0 : Int32))), (0, .ref (ad x0))]) hx hb dX10_prepareBallot_12 rfl hl (by decide) rfl (fun ls hl => ?_)
  refine w_X10_prepareBallot_L13 X aw_FU hf  (fun d_25 hf H locs ls hl G => ?_) (lv_sub hl [1, 0] rfl) G
  exact aw_retv X G hf dX10_prepareBallot_62
def rm_X10_isSplitByReform : Room := { frames := 2, cells := 0, slots := 0, locals := 46 }
def f_X10_isSplitByReform_J39 (σ : Sg) (kb2 : Int32 → Dt → Option (Int32 × Dt)) (x0 : Nat) (x1 : Int32) (x2 : Int32) (d : Dt) : Option (Int32 × Dt) :=
  kb2 (x2 + 1) d
def f_X10_isSplitByReform_B2 (σ : Sg) (kb2 : Int32 → Dt → Option (Int32 × Dt)) (k2 : Dt → Option (Int32 × Dt)) (x0 : Nat) (x1 : Int32) (x2 : Int32) (d : Dt) : Option (Int32 × Dt) :=
  aw_chk (aw_O σ 10 13 x0) ((σ.2.2 x0 0).bind (fun q_2 => aw_chk (aw_O σ 9 4 q_2) (if (d.1 q_2 3) ≤ x2 then k2 d else (σ.2.2 x0 7).bind (fun q_5 => aw_chk (aw_O σ 7 3 q_5) ((f_X7_alike σ q_5 x1 x2 d).bind (fun z_7 => if z_7.1 = 0 then f_X10_isSplitByReform_J39 σ kb2 x0 x1 x2 z_7.2 else (σ.2.2 x0 8).bind (fun q_10 => aw_chk (aw_O σ 7 3 q_10) ((f_X7_alike σ q_10 x1 x2 z_7.2).bind (fun z_12 => if z_12.1 = 0 then aw_chk (((1 : Int32)) &&& 1 = ((1 : Int32))) (some ((1 : Int32), z_12.2)) else f_X10_isSplitByReform_J39 σ kb2 x0 x1 x2 z_12.2)))))))))
def f_X10_isSplitByReform_L2 (σ : Sg) (n : Nat) (k2 : Dt → Option (Int32 × Dt)) (x0 : Nat) (x1 : Int32) : Int32 → Dt → Option (Int32 × Dt) := match n with
  | 0 => fun _ _ => none
  | n + 1 => fun x2 d => f_X10_isSplitByReform_B2 σ (f_X10_isSplitByReform_L2 σ n k2 x0 x1) k2 x0 x1 x2 d
def f_X10_isSplitByReform (σ : Sg) (x0 : Nat) (x1 : Int32) (d : Dt) : Option (Int32 × Dt) :=
  f_X10_isSplitByReform_L2 σ aw_FU (fun d_16 => aw_chk (((0 : Int32)) &&& 1 = ((0 : Int32))) (some ((0 : Int32), d_16))) x0 x1 ((0 : Int32)) d
section W_X10_isSplitByReform
variable {p : Program} {l : Launch} {e : Env} {s : State} {m : MethodId} {args : Array Value} {below : List Frame} {meth : Method} {c : Code}
variable {D : va_G} {cA : Nat → ClassId} {base : Nat} {ad : Nat → Nat} {σ : Sg}
set_option maxHeartbeats 4000000 in
set_option maxRecDepth 100000 in
theorem w_X10_isSplitByReform_J39 {z : Int32 × Dt} (X : aw_X p c cX10_isSplitByReform 3 s RX10 m meth (some .boolean)) {kb2 : Int32 → Dt → Option (Int32 × Dt)} {x0 : Nat} {x1 : Int32} {x2 : Int32} {d : Dt} (hf : f_X10_isSplitByReform_J39 σ kb2 x0 x1 x2 d = some z) (hkb2 : ∀ (y2 : Int32) (d : Dt), kb2 y2 d = some z → ∀ (H : Heap) (locs : List Loc) (ls : Array Slot), lv_has ls 3 [(0, .ref (ad x0)), (1, .int x1), (2, .int y2)] → aw_G D cA base ad σ d s H locs → W p l e rm_X10_isSplitByReform s m args below meth c H locs 0 0 (aw_Ei D cA base ad σ below args s z) (F0 m 2 ls [])) {H : Heap} {locs : List Loc} {ls : Array Slot} (hl : lv_has ls 3 [(0, .ref (ad x0)), (1, .int x1), (2, .int x2)]) (G : aw_G D cA base ad σ d s H locs) : W p l e rm_X10_isSplitByReform s m args below meth c H locs 0 0 (aw_Ei D cA base ad σ below args s z) (F0 m 39 ls []) := by
  have hx := X.1; have hb := X.2.1; have hml := X.2.2.1; have hown := X.2.2.2.1
  unfold f_X10_isSplitByReform_J39 at hf
  refine lv_iinc (v := x2 + 1) (lv' := [(2, .int (x2 + 1)), (0, .ref (ad x0)), (1, .int x1)]) hx hb dX10_isSplitByReform_39 hl (k := 2) rfl rfl (by decide) rfl (fun ls hl => ?_)
  refine lv_goto (tgt := 2) hx hb dX10_isSplitByReform_42 (by decide) ?_
  exact hkb2 _ _ hf _ _ _ (lv_sub hl [1, 2, 0] rfl) G
set_option maxHeartbeats 4000000 in
set_option maxRecDepth 100000 in
theorem w_X10_isSplitByReform_B2 {z : Int32 × Dt} (X : aw_X p c cX10_isSplitByReform 3 s RX10 m meth (some .boolean)) {kb2 : Int32 → Dt → Option (Int32 × Dt)} {k2 : Dt → Option (Int32 × Dt)} {x0 : Nat} {x1 : Int32} {x2 : Int32} {d : Dt} (hf : f_X10_isSplitByReform_B2 σ kb2 k2 x0 x1 x2 d = some z) (hkb2 : ∀ (y2 : Int32) (d : Dt), kb2 y2 d = some z → ∀ (H : Heap) (locs : List Loc) (ls : Array Slot), lv_has ls 3 [(0, .ref (ad x0)), (1, .int x1), (2, .int y2)] → aw_G D cA base ad σ d s H locs → W p l e rm_X10_isSplitByReform s m args below meth c H locs 0 0 (aw_Ei D cA base ad σ below args s z) (F0 m 2 ls [])) (hk2 : ∀ (d : Dt), k2 d = some z → ∀ (H : Heap) (locs : List Loc) (ls : Array Slot), lv_has ls 3 [] → aw_G D cA base ad σ d s H locs → W p l e rm_X10_isSplitByReform s m args below meth c H locs 0 0 (aw_Ei D cA base ad σ below args s z) (F0 m 45 ls [])) {H : Heap} {locs : List Loc} {ls : Array Slot} (hl : lv_has ls 3 [(0, .ref (ad x0)), (1, .int x1), (2, .int x2)]) (G : aw_G D cA base ad σ d s H locs) : W p l e rm_X10_isSplitByReform s m args below meth c H locs 0 0 (aw_Ei D cA base ad σ below args s z) (F0 m 2 ls []) := by
  have hx := X.1; have hb := X.2.1; have hml := X.2.2.1; have hown := X.2.2.2.1
  unfold f_X10_isSplitByReform_B2 at hf
  refine lv_iload_n hx hb dX10_isSplitByReform_2 rfl (lv_at hl 2 rfl) ?_
  refine lv_aload_n hx hb dX10_isSplitByReform_3 rfl (lv_at hl 0 rfl) ?_
  obtain ⟨hc_1, hf⟩ := aw_chk_some hf
  obtain ⟨q_2, hq_3, hf⟩ := aw_bind_some hf
  refine gf_X10_12 hx hb G hown hc_1 hq_3 dX10_isSplitByReform_4 ?_
  obtain ⟨hc_4, hf⟩ := aw_chk_some hf
  refine gf_X10_112 hx hb G hown hc_4 dX10_isSplitByReform_7 ?_
  refine lv_icmp_ge (tgt := 45) hx hb dX10_isSplitByReform_10 (by decide) (fun hc => ?_) (fun hc => ?_)
  · have hf := aw_ite_t hc hf
    exact hk2 _ hf _ _ _ (lv_sub hl [] rfl) G
  · have hf := aw_ite_f hc hf
    refine lv_aload_n hx hb dX10_isSplitByReform_13 rfl (lv_at hl 0 rfl) ?_
    obtain ⟨q_5, hq_6, hf⟩ := aw_bind_some hf
    refine gf_X10_54 hx hb G hown hc_1 hq_6 dX10_isSplitByReform_14 ?_
    refine lv_iload_n hx hb dX10_isSplitByReform_17 rfl (lv_at hl 1 rfl) ?_
    refine lv_iload_n hx hb dX10_isSplitByReform_18 rfl (lv_at hl 2 rfl) ?_
    obtain ⟨hc_9, hf⟩ := aw_chk_some hf
    obtain ⟨z_7, hz_8, hf⟩ := aw_bind_some hf
    refine aw_VI (As := [.int x1, .int x2]) (rest := []) X G hl.1 cr_X10_209 (c_X7_alike l hz_8) ⟨rfl, rfl⟩ rfl rfl rfl (by decide) hc_9 rfl ⟨Nat.le_of_ble_eq_true rfl, Nat.le_of_ble_eq_true rfl⟩ (Nat.le_of_ble_eq_true rfl) dX10_isSplitByReform_19 ⟨Nat.zero_le _, Nat.zero_le _⟩ (fun H locs G => ?_)
    refine lv_if_eq (tgt := 39) hx hb dX10_isSplitByReform_22 (by decide) (fun hc => ?_) (fun hc => ?_)
    · have hf := aw_ite_t hc hf
      exact w_X10_isSplitByReform_J39 X hf hkb2 (lv_sub hl [0, 1, 2] rfl) G
    · have hf := aw_ite_f hc hf
      refine lv_aload_n hx hb dX10_isSplitByReform_25 rfl (lv_at hl 0 rfl) ?_
      obtain ⟨q_10, hq_11, hf⟩ := aw_bind_some hf
      refine gf_X10_58 hx hb G hown hc_1 hq_11 dX10_isSplitByReform_26 ?_
      refine lv_iload_n hx hb dX10_isSplitByReform_29 rfl (lv_at hl 1 rfl) ?_
      refine lv_iload_n hx hb dX10_isSplitByReform_30 rfl (lv_at hl 2 rfl) ?_
      obtain ⟨hc_14, hf⟩ := aw_chk_some hf
      obtain ⟨z_12, hz_13, hf⟩ := aw_bind_some hf
      refine aw_VI (As := [.int x1, .int x2]) (rest := []) X G hl.1 cr_X10_209 (c_X7_alike l hz_13) ⟨rfl, rfl⟩ rfl rfl rfl (by decide) hc_14 rfl ⟨Nat.le_of_ble_eq_true rfl, Nat.le_of_ble_eq_true rfl⟩ (Nat.le_of_ble_eq_true rfl) dX10_isSplitByReform_31 ⟨Nat.zero_le _, Nat.zero_le _⟩ (fun H locs G => ?_)
      refine lv_if_ne (tgt := 39) hx hb dX10_isSplitByReform_34 (by decide) (fun hc => ?_) (fun hc => ?_)
      · have hf := aw_ite_f hc hf
        exact w_X10_isSplitByReform_J39 X hf hkb2 (lv_sub hl [0, 1, 2] rfl) G
      · have hf := aw_ite_t hc hf
        refine lv_iconst (v := (1 : Int32)) hx hb dX10_isSplitByReform_37 (by decide) ?_
        obtain ⟨hc_15, hf⟩ := aw_chk_some hf
        exact aw_retz X G hc_15 hf dX10_isSplitByReform_38
theorem w_X10_isSplitByReform_L2 {z : Int32 × Dt} (X : aw_X p c cX10_isSplitByReform 3 s RX10 m meth (some .boolean)) {k2 : Dt → Option (Int32 × Dt)} {x0 : Nat} {x1 : Int32} (n : Nat) {x2 : Int32} {d : Dt} (hf : f_X10_isSplitByReform_L2 σ n k2 x0 x1 x2 d = some z) (hk2 : ∀ (d : Dt), k2 d = some z → ∀ (H : Heap) (locs : List Loc) (ls : Array Slot), lv_has ls 3 [] → aw_G D cA base ad σ d s H locs → W p l e rm_X10_isSplitByReform s m args below meth c H locs 0 0 (aw_Ei D cA base ad σ below args s z) (F0 m 45 ls [])) {H : Heap} {locs : List Loc} {ls : Array Slot} (hl : lv_has ls 3 [(0, .ref (ad x0)), (1, .int x1), (2, .int x2)]) (G : aw_G D cA base ad σ d s H locs) : W p l e rm_X10_isSplitByReform s m args below meth c H locs 0 0 (aw_Ei D cA base ad σ below args s z) (F0 m 2 ls []) := by
  induction n generalizing x2 d H locs ls with
  | zero => exact absurd (show (none : Option (Int32 × Dt)) = some z from hf) (by simp)
  | succ n ih => exact w_X10_isSplitByReform_B2 X (kb2 := f_X10_isSplitByReform_L2 σ n k2 x0 x1) hf  (fun x2 d hf H locs ls hl G => ih hf hl G) hk2 hl G
end W_X10_isSplitByReform
set_option maxHeartbeats 4000000 in
set_option maxRecDepth 100000 in
theorem c_X10_isSplitByReform (l : Launch) {σ : Sg} {x0 : Nat} {x1 : Int32} {d : Dt} {z : Int32 × Dt} (hf : f_X10_isSplitByReform σ x0 x1 d = some z) : aw_Mi l yX10_isSplitByReform (Cond.code yX10_isSplitByReform cX10_isSplitByReform 3 (some .boolean)) rm_X10_isSplitByReform (fun ad => [.ref (ad x0), .int x1]) σ d z := by
  intro D cA base ad
  refine aw_ofW (own := RX10) (cc := cX10_isSplitByReform) (nL := 3) (ret := some .boolean) (by decide) rfl rfl ?_
  intro p e s m below meth c X hnm G
  have hx := X.1; have hb := X.2.1; have hml := X.2.2.1; have hown := X.2.2.2.1
  refine aw_ls (lv := [(0, .ref (ad x0)), (1, .int x1)]) (Nat.le_of_ble_eq_true rfl) rfl (fun ls hl => ?_)
  unfold f_X10_isSplitByReform at hf
  refine lv_iconst (v := (0 : Int32)) hx hb dX10_isSplitByReform_0 (by decide) ?_
  refine lv_istore_n (lv' := [(2, .int ((0 : Int32))), (0, .ref (ad x0)), (1, .int x1)]) hx hb dX10_isSplitByReform_1 rfl hl (by decide) rfl (fun ls hl => ?_)
  refine w_X10_isSplitByReform_L2 X aw_FU hf  (fun d_16 hf H locs ls hl G => ?_) (lv_sub hl [1, 2, 0] rfl) G
  refine lv_iconst (v := (0 : Int32)) hx hb dX10_isSplitByReform_45 (by decide) ?_
  obtain ⟨hc_17, hf⟩ := aw_chk_some hf
  exact aw_retz X G hc_17 hf dX10_isSplitByReform_46
def rm_X10_valuesOf : Room := { frames := 0, cells := 0, slots := 0, locals := 0 }
def f_X10_valuesOf_J28 (σ : Sg)  (d : Dt) : Option (Int32 × Dt) :=
  some ((9 : Int32), d)
def f_X10_valuesOf (σ : Sg) (x0 : Int32) (d : Dt) : Option (Int32 × Dt) :=
  if x0 = 0 then f_X10_valuesOf_J28 σ d else if x0 = 1 then some ((4 : Int32), d) else if x0 = 2 then f_X10_valuesOf_J28 σ d else some ((3 : Int32), d)
section W_X10_valuesOf
variable {p : Program} {l : Launch} {e : Env} {s : State} {m : MethodId} {args : Array Value} {below : List Frame} {meth : Method} {c : Code}
variable {D : va_G} {cA : Nat → ClassId} {base : Nat} {ad : Nat → Nat} {σ : Sg}
set_option maxHeartbeats 4000000 in
set_option maxRecDepth 100000 in
theorem w_X10_valuesOf_J28 {z : Int32 × Dt} (X : aw_X p c cX10_valuesOf 1 s RX10 m meth (some .int))  {d : Dt} (hf : f_X10_valuesOf_J28 σ d = some z)  {H : Heap} {locs : List Loc} {ls : Array Slot} (hl : lv_has ls 1 []) (G : aw_G D cA base ad σ d s H locs) : W p l e rm_X10_valuesOf s m args below meth c H locs 0 0 (aw_Ei D cA base ad σ below args s z) (F0 m 28 ls []) := by
  have hx := X.1; have hb := X.2.1; have hml := X.2.2.1; have hown := X.2.2.2.1
  unfold f_X10_valuesOf_J28 at hf
  refine lv_bipush (v := (9 : Int32)) hx hb dX10_valuesOf_28 (by decide) ?_
  exact aw_reti X G hf dX10_valuesOf_30
end W_X10_valuesOf
set_option maxHeartbeats 4000000 in
set_option maxRecDepth 100000 in
theorem c_X10_valuesOf (l : Launch) {σ : Sg} {x0 : Int32} {d : Dt} {z : Int32 × Dt} (hf : f_X10_valuesOf σ x0 d = some z) : aw_Mi l yX10_valuesOf (Cond.code yX10_valuesOf cX10_valuesOf 1 (some .int)) rm_X10_valuesOf (fun ad => [.int x0]) σ d z := by
  intro D cA base ad
  refine aw_ofW (own := RX10) (cc := cX10_valuesOf) (nL := 1) (ret := some .int) (by decide) rfl rfl ?_
  intro p e s m below meth c X hnm G
  have hx := X.1; have hb := X.2.1; have hml := X.2.2.1; have hown := X.2.2.2.1
  refine aw_ls (lv := [(0, .int x0)]) (Nat.le_of_ble_eq_true rfl) rfl (fun ls hl => ?_)
  unfold f_X10_valuesOf at hf
  refine lv_iload_n hx hb dX10_valuesOf_0 rfl (lv_at hl 0 rfl) ?_
  by_cases hs : x0 = 0
  · have hf := aw_ite_t hs hf
    refine lv_tableIn (off := 27) (tgt := 28) hx hb dX10_valuesOf_1 (by rw [hs]; decide) (by rw [hs]; decide) (by rw [hs]; decide) (by decide) ?_
    exact w_X10_valuesOf_J28 X hf  (lv_sub hl [] rfl) G
  have hf := aw_ite_f hs hf
  have hs0 := hs
  by_cases hs : x0 = 1
  · have hf := aw_ite_t hs hf
    refine lv_tableIn (off := 30) (tgt := 31) hx hb dX10_valuesOf_1 (by rw [hs]; decide) (by rw [hs]; decide) (by rw [hs]; decide) (by decide) ?_
    refine lv_iconst (v := (4 : Int32)) hx hb dX10_valuesOf_31 (by decide) ?_
    exact aw_reti X G hf dX10_valuesOf_32
  have hf := aw_ite_f hs hf
  have hs1 := hs
  by_cases hs : x0 = 2
  · have hf := aw_ite_t hs hf
    refine lv_tableIn (off := 27) (tgt := 28) hx hb dX10_valuesOf_1 (by rw [hs]; decide) (by rw [hs]; decide) (by rw [hs]; decide) (by decide) ?_
    exact w_X10_valuesOf_J28 X hf  (lv_sub hl [] rfl) G
  have hf := aw_ite_f hs hf
  have hs2 := hs
  have hv_1 : x0.toInt < 0 ∨ 2 < x0.toInt := aw_sw2 hs0 hs1 hs2
  refine lv_tableOut (tgt := 33) hx hb dX10_valuesOf_1 hv_1 (by decide) ?_
  refine lv_iconst (v := (3 : Int32)) hx hb dX10_valuesOf_33 (by decide) ?_
  exact aw_reti X G hf dX10_valuesOf_34
