/-! X5_trySyllables X5_countFrom X5_countBySyllables X6_figuresOf X6_isOne X6_put X8_between X6_between X6_isNearOther X6_mistaken X6_strokesIn X7_take X7_sameRow X7_alike X7_alikeIn X7_isHeaviest X7_doubtfulWeight X7_placesWith X9_append X9_endDraft X10_speaker X10_spellAll X10_spellBoth -/
def rm_X5_trySyllables : Room := { frames := 2, cells := 0, slots := 0, locals := 49 }
def f_X5_trySyllables_B3 (σ : Sg) (kb3 : Int32 → Dt → Option (Unit × Dt)) (k3 : Dt → Option (Unit × Dt)) (x0 : Nat) (x1 : Nat) (x2 : Nat) (x3 : Int32) (x4 : Int32) (d : Dt) : Option (Unit × Dt) :=
  if x3 ≤ x4 then k3 d else aw_chk (aw_O σ 5 6 x0) ((σ.2.2 x0 3).bind (fun q_2 => aw_chk (aw_I σ 23 q_2 x4) ((σ.2.2 q_2 x4.toNatClampNeg).bind (fun q_5 => (f_J7_fill_53178 σ q_5 ((0 : Int32)) d).bind (fun z_7 => kb3 (x4 + 1) z_7.2)))))
def f_X5_trySyllables_L3 (σ : Sg) (n : Nat) (k3 : Dt → Option (Unit × Dt)) (x0 : Nat) (x1 : Nat) (x2 : Nat) (x3 : Int32) : Int32 → Dt → Option (Unit × Dt) := match n with
  | 0 => fun _ _ => none
  | n + 1 => fun x4 d => f_X5_trySyllables_B3 σ (f_X5_trySyllables_L3 σ n k3 x0 x1 x2 x3) k3 x0 x1 x2 x3 x4 d
def f_X5_trySyllables_J87 (σ : Sg) (kb56 : Int32 → Dt → Option (Unit × Dt)) (x0 : Nat) (x1 : Nat) (x2 : Nat) (x3 : Int32) (x4 : Int32) (x5 : Int32) (x6 : Int32) (d : Dt) : Option (Unit × Dt) :=
  kb56 (x6 + (-1)) d
def f_X5_trySyllables_B56 (σ : Sg) (kb56 : Int32 → Dt → Option (Unit × Dt)) (k56 : Dt → Option (Unit × Dt)) (x0 : Nat) (x1 : Nat) (x2 : Nat) (x3 : Int32) (x4 : Int32) (x5 : Int32) (x6 : Int32) (d : Dt) : Option (Unit × Dt) :=
  if x6 < 0 then k56 d else aw_chk (aw_O σ 5 6 x0) ((f_X5_standsAt σ x0 x6 x5 x2 d).bind (fun z_16 => if z_16.1 = 0 then f_X5_trySyllables_J87 σ kb56 x0 x1 x2 x3 x4 x5 x6 z_16.2 else (σ.2.2 x0 3).bind (fun q_19 => aw_chk (aw_I σ 23 q_19 x6) ((σ.2.2 q_19 x6.toNatClampNeg).bind (fun q_22 => aw_chk (aw_I σ 20 q_22 x5) (f_X5_trySyllables_J87 σ kb56 x0 x1 x2 x3 x4 x5 x6 (aw_sI z_16.2 q_22 x5.toNatClampNeg ((z_16.2.1 q_22 x5.toNatClampNeg) + ((1 : Int32))))))))))
def f_X5_trySyllables_L56 (σ : Sg) (n : Nat) (k56 : Dt → Option (Unit × Dt)) (x0 : Nat) (x1 : Nat) (x2 : Nat) (x3 : Int32) (x4 : Int32) (x5 : Int32) : Int32 → Dt → Option (Unit × Dt) := match n with
  | 0 => fun _ _ => none
  | n + 1 => fun x6 d => f_X5_trySyllables_B56 σ (f_X5_trySyllables_L56 σ n k56 x0 x1 x2 x3 x4 x5) k56 x0 x1 x2 x3 x4 x5 x6 d
def f_X5_trySyllables_B29 (σ : Sg) (kb29 : Int32 → Dt → Option (Unit × Dt)) (k29 : Dt → Option (Unit × Dt)) (x0 : Nat) (x1 : Nat) (x2 : Nat) (x3 : Int32) (x4 : Int32) (d : Dt) : Option (Unit × Dt) :=
  if ((972 : Int32)) ≤ x4 then k29 d else aw_chk (aw_O σ 5 6 x0) ((σ.2.2 x0 5).bind (fun q_11 => aw_chk (aw_O σ 1 5 x1) ((f_X1_spellSyllable σ x1 x4 q_11 ((0 : Int32)) d).bind (fun z_13 => f_X5_trySyllables_L56 σ aw_FU (fun d_25 => kb29 (x4 + 1) d_25) x0 x1 x2 x3 x4 z_13.1 (x3 - z_13.1) z_13.2))))
def f_X5_trySyllables_L29 (σ : Sg) (n : Nat) (k29 : Dt → Option (Unit × Dt)) (x0 : Nat) (x1 : Nat) (x2 : Nat) (x3 : Int32) : Int32 → Dt → Option (Unit × Dt) := match n with
  | 0 => fun _ _ => none
  | n + 1 => fun x4 d => f_X5_trySyllables_B29 σ (f_X5_trySyllables_L29 σ n k29 x0 x1 x2 x3) k29 x0 x1 x2 x3 x4 d
def f_X5_trySyllables (σ : Sg) (x0 : Nat) (x1 : Nat) (x2 : Nat) (x3 : Int32) (d : Dt) : Option (Unit × Dt) :=
  f_X5_trySyllables_L3 σ aw_FU (fun d_9 => f_X5_trySyllables_L29 σ aw_FU (fun d_26 => some ((), d_26)) x0 x1 x2 x3 ((0 : Int32)) d_9) x0 x1 x2 x3 ((0 : Int32)) d
section W_X5_trySyllables
variable {p : Program} {l : Launch} {e : Env} {s : State} {m : MethodId} {args : Array Value} {below : List Frame} {meth : Method} {c : Code}
variable {D : va_G} {cA : Nat → ClassId} {base : Nat} {ad : Nat → Nat} {σ : Sg}
set_option maxHeartbeats 4000000 in
set_option maxRecDepth 100000 in
theorem w_X5_trySyllables_B3 {z : Unit × Dt} (X : aw_X p c cX5_trySyllables 7 s RX5 m meth (none)) {kb3 : Int32 → Dt → Option (Unit × Dt)} {k3 : Dt → Option (Unit × Dt)} {x0 : Nat} {x1 : Nat} {x2 : Nat} {x3 : Int32} {x4 : Int32} {d : Dt} (hf : f_X5_trySyllables_B3 σ kb3 k3 x0 x1 x2 x3 x4 d = some z) (hkb3 : ∀ (y4 : Int32) (d : Dt), kb3 y4 d = some z → ∀ (H : Heap) (locs : List Loc) (ls : Array Slot), lv_has ls 7 [(0, .ref (ad x0)), (1, .ref (ad x1)), (2, .ref (ad x2)), (3, .int x3), (4, .int y4)] → aw_G D cA base ad σ d s H locs → W p l e rm_X5_trySyllables s m args below meth c H locs 0 0 (aw_Ev D cA base ad σ below args s z) (F0 m 3 ls [])) (hk3 : ∀ (d : Dt), k3 d = some z → ∀ (H : Heap) (locs : List Loc) (ls : Array Slot), lv_has ls 7 [(0, .ref (ad x0)), (1, .ref (ad x1)), (2, .ref (ad x2)), (3, .int x3)] → aw_G D cA base ad σ d s H locs → W p l e rm_X5_trySyllables s m args below meth c H locs 0 0 (aw_Ev D cA base ad σ below args s z) (F0 m 26 ls [])) {H : Heap} {locs : List Loc} {ls : Array Slot} (hl : lv_has ls 7 [(0, .ref (ad x0)), (1, .ref (ad x1)), (2, .ref (ad x2)), (3, .int x3), (4, .int x4)]) (G : aw_G D cA base ad σ d s H locs) : W p l e rm_X5_trySyllables s m args below meth c H locs 0 0 (aw_Ev D cA base ad σ below args s z) (F0 m 3 ls []) := by
  have hx := X.1; have hb := X.2.1; have hml := X.2.2.1; have hown := X.2.2.2.1
  unfold f_X5_trySyllables_B3 at hf
  refine lv_iload hx hb dX5_trySyllables_3 (lv_at hl 4 rfl) ?_
  refine lv_iload_n hx hb dX5_trySyllables_5 rfl (lv_at hl 3 rfl) ?_
  refine lv_icmp_ge (tgt := 26) hx hb dX5_trySyllables_6 (by decide) (fun hc => ?_) (fun hc => ?_)
  · have hf := aw_ite_t hc hf
    exact hk3 _ hf _ _ _ (lv_sub hl [0, 1, 2, 3] rfl) G
  · have hf := aw_ite_f hc hf
    refine lv_aload_n hx hb dX5_trySyllables_9 rfl (lv_at hl 0 rfl) ?_
    obtain ⟨hc_1, hf⟩ := aw_chk_some hf
    obtain ⟨q_2, hq_3, hf⟩ := aw_bind_some hf
    refine gf_X5_23 hx hb G hown hc_1 hq_3 dX5_trySyllables_10 ?_
    refine lv_iload hx hb dX5_trySyllables_13 (lv_at hl 4 rfl) ?_
    obtain ⟨hc_4, hf⟩ := aw_chk_some hf
    obtain ⟨q_5, hq_6, hf⟩ := aw_bind_some hf
    refine aw_qal hx hb G 23 _ rfl rfl (by decide) hc_4 hq_6 dX5_trySyllables_15 ?_
    refine lv_iconst (v := (0 : Int32)) hx hb dX5_trySyllables_16 (by decide) ?_
    obtain ⟨z_7, hz_8, hf⟩ := aw_bind_some hf
    refine aw_SV (As := [.ref (ad q_5), .int ((0 : Int32))]) (rest := []) X G hl.1 cr_X5_79 (c_J7_fill_53178 l hz_8) ⟨rfl, rfl⟩ rfl rfl rfl ⟨Nat.le_of_ble_eq_true rfl, Nat.le_of_ble_eq_true rfl⟩ (Nat.le_of_ble_eq_true rfl) dX5_trySyllables_17 ⟨Nat.zero_le _, Nat.zero_le _⟩ (fun H locs G => ?_)
    refine lv_iinc (v := x4 + 1) (lv' := [(4, .int (x4 + 1)), (0, .ref (ad x0)), (1, .ref (ad x1)), (2, .ref (ad x2)), (3, .int x3)]) hx hb dX5_trySyllables_20 hl (k := 4) rfl rfl (by decide) rfl (fun ls hl => ?_)
    refine lv_goto (tgt := 3) hx hb dX5_trySyllables_23 (by decide) ?_
    exact hkb3 _ _ hf _ _ _ (lv_sub hl [1, 2, 3, 4, 0] rfl) G
theorem w_X5_trySyllables_L3 {z : Unit × Dt} (X : aw_X p c cX5_trySyllables 7 s RX5 m meth (none)) {k3 : Dt → Option (Unit × Dt)} {x0 : Nat} {x1 : Nat} {x2 : Nat} {x3 : Int32} (n : Nat) {x4 : Int32} {d : Dt} (hf : f_X5_trySyllables_L3 σ n k3 x0 x1 x2 x3 x4 d = some z) (hk3 : ∀ (d : Dt), k3 d = some z → ∀ (H : Heap) (locs : List Loc) (ls : Array Slot), lv_has ls 7 [(0, .ref (ad x0)), (1, .ref (ad x1)), (2, .ref (ad x2)), (3, .int x3)] → aw_G D cA base ad σ d s H locs → W p l e rm_X5_trySyllables s m args below meth c H locs 0 0 (aw_Ev D cA base ad σ below args s z) (F0 m 26 ls [])) {H : Heap} {locs : List Loc} {ls : Array Slot} (hl : lv_has ls 7 [(0, .ref (ad x0)), (1, .ref (ad x1)), (2, .ref (ad x2)), (3, .int x3), (4, .int x4)]) (G : aw_G D cA base ad σ d s H locs) : W p l e rm_X5_trySyllables s m args below meth c H locs 0 0 (aw_Ev D cA base ad σ below args s z) (F0 m 3 ls []) := by
  induction n generalizing x4 d H locs ls with
  | zero => exact absurd (show (none : Option (Unit × Dt)) = some z from hf) (by simp)
  | succ n ih => exact w_X5_trySyllables_B3 X (kb3 := f_X5_trySyllables_L3 σ n k3 x0 x1 x2 x3) hf  (fun x4 d hf H locs ls hl G => ih hf hl G) hk3 hl G
set_option maxHeartbeats 4000000 in
set_option maxRecDepth 100000 in
theorem w_X5_trySyllables_J87 {z : Unit × Dt} (X : aw_X p c cX5_trySyllables 7 s RX5 m meth (none)) {kb56 : Int32 → Dt → Option (Unit × Dt)} {x0 : Nat} {x1 : Nat} {x2 : Nat} {x3 : Int32} {x4 : Int32} {x5 : Int32} {x6 : Int32} {d : Dt} (hf : f_X5_trySyllables_J87 σ kb56 x0 x1 x2 x3 x4 x5 x6 d = some z) (hkb56 : ∀ (y6 : Int32) (d : Dt), kb56 y6 d = some z → ∀ (H : Heap) (locs : List Loc) (ls : Array Slot), lv_has ls 7 [(0, .ref (ad x0)), (1, .ref (ad x1)), (2, .ref (ad x2)), (3, .int x3), (4, .int x4), (5, .int x5), (6, .int y6)] → aw_G D cA base ad σ d s H locs → W p l e rm_X5_trySyllables s m args below meth c H locs 0 0 (aw_Ev D cA base ad σ below args s z) (F0 m 56 ls [])) {H : Heap} {locs : List Loc} {ls : Array Slot} (hl : lv_has ls 7 [(0, .ref (ad x0)), (1, .ref (ad x1)), (2, .ref (ad x2)), (3, .int x3), (4, .int x4), (5, .int x5), (6, .int x6)]) (G : aw_G D cA base ad σ d s H locs) : W p l e rm_X5_trySyllables s m args below meth c H locs 0 0 (aw_Ev D cA base ad σ below args s z) (F0 m 87 ls []) := by
  have hx := X.1; have hb := X.2.1; have hml := X.2.2.1; have hown := X.2.2.2.1
  unfold f_X5_trySyllables_J87 at hf
  refine lv_iinc (v := x6 + (-1)) (lv' := [(6, .int (x6 + (-1))), (0, .ref (ad x0)), (1, .ref (ad x1)), (2, .ref (ad x2)), (3, .int x3), (4, .int x4), (5, .int x5)]) hx hb dX5_trySyllables_87 hl (k := 6) rfl rfl (by decide) rfl (fun ls hl => ?_)
  refine lv_goto (tgt := 56) hx hb dX5_trySyllables_90 (by decide) ?_
  exact hkb56 _ _ hf _ _ _ (lv_sub hl [1, 2, 3, 4, 5, 6, 0] rfl) G
set_option maxHeartbeats 4000000 in
set_option maxRecDepth 100000 in
theorem w_X5_trySyllables_B56 {z : Unit × Dt} (X : aw_X p c cX5_trySyllables 7 s RX5 m meth (none)) {kb56 : Int32 → Dt → Option (Unit × Dt)} {k56 : Dt → Option (Unit × Dt)} {x0 : Nat} {x1 : Nat} {x2 : Nat} {x3 : Int32} {x4 : Int32} {x5 : Int32} {x6 : Int32} {d : Dt} (hf : f_X5_trySyllables_B56 σ kb56 k56 x0 x1 x2 x3 x4 x5 x6 d = some z) (hkb56 : ∀ (y6 : Int32) (d : Dt), kb56 y6 d = some z → ∀ (H : Heap) (locs : List Loc) (ls : Array Slot), lv_has ls 7 [(0, .ref (ad x0)), (1, .ref (ad x1)), (2, .ref (ad x2)), (3, .int x3), (4, .int x4), (5, .int x5), (6, .int y6)] → aw_G D cA base ad σ d s H locs → W p l e rm_X5_trySyllables s m args below meth c H locs 0 0 (aw_Ev D cA base ad σ below args s z) (F0 m 56 ls [])) (hk56 : ∀ (d : Dt), k56 d = some z → ∀ (H : Heap) (locs : List Loc) (ls : Array Slot), lv_has ls 7 [(0, .ref (ad x0)), (1, .ref (ad x1)), (2, .ref (ad x2)), (3, .int x3), (4, .int x4)] → aw_G D cA base ad σ d s H locs → W p l e rm_X5_trySyllables s m args below meth c H locs 0 0 (aw_Ev D cA base ad σ below args s z) (F0 m 93 ls [])) {H : Heap} {locs : List Loc} {ls : Array Slot} (hl : lv_has ls 7 [(0, .ref (ad x0)), (1, .ref (ad x1)), (2, .ref (ad x2)), (3, .int x3), (4, .int x4), (5, .int x5), (6, .int x6)]) (G : aw_G D cA base ad σ d s H locs) : W p l e rm_X5_trySyllables s m args below meth c H locs 0 0 (aw_Ev D cA base ad σ below args s z) (F0 m 56 ls []) := by
  have hx := X.1; have hb := X.2.1; have hml := X.2.2.1; have hown := X.2.2.2.1
  unfold f_X5_trySyllables_B56 at hf
  refine lv_iload hx hb dX5_trySyllables_56 (lv_at hl 6 rfl) ?_
  refine lv_if_lt (tgt := 93) hx hb dX5_trySyllables_58 (by decide) (fun hc => ?_) (fun hc => ?_)
  · have hf := aw_ite_t hc hf
    exact hk56 _ hf _ _ _ (lv_sub hl [0, 1, 2, 3, 4] rfl) G
  · have hf := aw_ite_f hc hf
    refine lv_aload_n hx hb dX5_trySyllables_61 rfl (lv_at hl 0 rfl) ?_
    refine lv_iload hx hb dX5_trySyllables_62 (lv_at hl 6 rfl) ?_
    refine lv_iload hx hb dX5_trySyllables_64 (lv_at hl 5 rfl) ?_
    refine lv_aload_n hx hb dX5_trySyllables_66 rfl (lv_at hl 2 rfl) ?_
    obtain ⟨hc_18, hf⟩ := aw_chk_some hf
    obtain ⟨z_16, hz_17, hf⟩ := aw_bind_some hf
    refine aw_VI (As := [.int x6, .int x5, .ref (ad x2)]) (rest := []) X G hl.1 cr_X5_86 (c_X5_standsAt l hz_17) ⟨rfl, rfl⟩ rfl rfl rfl (by decide) hc_18 rfl ⟨Nat.le_of_ble_eq_true rfl, Nat.le_of_ble_eq_true rfl⟩ (Nat.le_of_ble_eq_true rfl) dX5_trySyllables_67 ⟨Nat.zero_le _, Nat.zero_le _⟩ (fun H locs G => ?_)
    refine lv_if_eq (tgt := 87) hx hb dX5_trySyllables_70 (by decide) (fun hc => ?_) (fun hc => ?_)
    · have hf := aw_ite_t hc hf
      exact w_X5_trySyllables_J87 X hf hkb56 (lv_sub hl [0, 1, 2, 3, 4, 5, 6] rfl) G
    · have hf := aw_ite_f hc hf
      refine lv_aload_n hx hb dX5_trySyllables_73 rfl (lv_at hl 0 rfl) ?_
      obtain ⟨q_19, hq_20, hf⟩ := aw_bind_some hf
      refine gf_X5_23 hx hb G hown hc_18 hq_20 dX5_trySyllables_74 ?_
      refine lv_iload hx hb dX5_trySyllables_77 (lv_at hl 6 rfl) ?_
      obtain ⟨hc_21, hf⟩ := aw_chk_some hf
      obtain ⟨q_22, hq_23, hf⟩ := aw_bind_some hf
      refine aw_qal hx hb G 23 _ rfl rfl (by decide) hc_21 hq_23 dX5_trySyllables_79 ?_
      refine lv_iload hx hb dX5_trySyllables_80 (lv_at hl 5 rfl) ?_
      refine lv_dup2_11 hx hb dX5_trySyllables_82 rfl rfl ?_
      obtain ⟨hc_24, hf⟩ := aw_chk_some hf
      refine aw_ial hx hb G hc_24 dX5_trySyllables_83 ?_
      refine lv_iconst (v := (1 : Int32)) hx hb dX5_trySyllables_84 (by decide) ?_
      refine lv_iadd hx hb dX5_trySyllables_85 ?_
      refine aw_ias hx hb G hc_24 dX5_trySyllables_86 (fun H locs G => ?_)
      exact w_X5_trySyllables_J87 X hf hkb56 (lv_sub hl [0, 1, 2, 3, 4, 5, 6] rfl) G
theorem w_X5_trySyllables_L56 {z : Unit × Dt} (X : aw_X p c cX5_trySyllables 7 s RX5 m meth (none)) {k56 : Dt → Option (Unit × Dt)} {x0 : Nat} {x1 : Nat} {x2 : Nat} {x3 : Int32} {x4 : Int32} {x5 : Int32} (n : Nat) {x6 : Int32} {d : Dt} (hf : f_X5_trySyllables_L56 σ n k56 x0 x1 x2 x3 x4 x5 x6 d = some z) (hk56 : ∀ (d : Dt), k56 d = some z → ∀ (H : Heap) (locs : List Loc) (ls : Array Slot), lv_has ls 7 [(0, .ref (ad x0)), (1, .ref (ad x1)), (2, .ref (ad x2)), (3, .int x3), (4, .int x4)] → aw_G D cA base ad σ d s H locs → W p l e rm_X5_trySyllables s m args below meth c H locs 0 0 (aw_Ev D cA base ad σ below args s z) (F0 m 93 ls [])) {H : Heap} {locs : List Loc} {ls : Array Slot} (hl : lv_has ls 7 [(0, .ref (ad x0)), (1, .ref (ad x1)), (2, .ref (ad x2)), (3, .int x3), (4, .int x4), (5, .int x5), (6, .int x6)]) (G : aw_G D cA base ad σ d s H locs) : W p l e rm_X5_trySyllables s m args below meth c H locs 0 0 (aw_Ev D cA base ad σ below args s z) (F0 m 56 ls []) := by
  induction n generalizing x6 d H locs ls with
  | zero => exact absurd (show (none : Option (Unit × Dt)) = some z from hf) (by simp)
  | succ n ih => exact w_X5_trySyllables_B56 X (kb56 := f_X5_trySyllables_L56 σ n k56 x0 x1 x2 x3 x4 x5) hf  (fun x6 d hf H locs ls hl G => ih hf hl G) hk56 hl G
set_option maxHeartbeats 4000000 in
set_option maxRecDepth 100000 in
theorem w_X5_trySyllables_B29 {z : Unit × Dt} (X : aw_X p c cX5_trySyllables 7 s RX5 m meth (none)) {kb29 : Int32 → Dt → Option (Unit × Dt)} {k29 : Dt → Option (Unit × Dt)} {x0 : Nat} {x1 : Nat} {x2 : Nat} {x3 : Int32} {x4 : Int32} {d : Dt} (hf : f_X5_trySyllables_B29 σ kb29 k29 x0 x1 x2 x3 x4 d = some z) (hkb29 : ∀ (y4 : Int32) (d : Dt), kb29 y4 d = some z → ∀ (H : Heap) (locs : List Loc) (ls : Array Slot), lv_has ls 7 [(0, .ref (ad x0)), (1, .ref (ad x1)), (2, .ref (ad x2)), (3, .int x3), (4, .int y4)] → aw_G D cA base ad σ d s H locs → W p l e rm_X5_trySyllables s m args below meth c H locs 0 0 (aw_Ev D cA base ad σ below args s z) (F0 m 29 ls [])) (hk29 : ∀ (d : Dt), k29 d = some z → ∀ (H : Heap) (locs : List Loc) (ls : Array Slot), lv_has ls 7 [] → aw_G D cA base ad σ d s H locs → W p l e rm_X5_trySyllables s m args below meth c H locs 0 0 (aw_Ev D cA base ad σ below args s z) (F0 m 99 ls [])) {H : Heap} {locs : List Loc} {ls : Array Slot} (hl : lv_has ls 7 [(0, .ref (ad x0)), (1, .ref (ad x1)), (2, .ref (ad x2)), (3, .int x3), (4, .int x4)]) (G : aw_G D cA base ad σ d s H locs) : W p l e rm_X5_trySyllables s m args below meth c H locs 0 0 (aw_Ev D cA base ad σ below args s z) (F0 m 29 ls []) := by
  have hx := X.1; have hb := X.2.1; have hml := X.2.2.1; have hown := X.2.2.2.1
  unfold f_X5_trySyllables_B29 at hf
  refine lv_iload hx hb dX5_trySyllables_29 (lv_at hl 4 rfl) ?_
  refine lv_sipush (v := (972 : Int32)) hx hb dX5_trySyllables_31 (by decide) ?_
  refine lv_icmp_ge (tgt := 99) hx hb dX5_trySyllables_34 (by decide) (fun hc => ?_) (fun hc => ?_)
  · have hf := aw_ite_t hc hf
    exact hk29 _ hf _ _ _ (lv_sub hl [] rfl) G
  · have hf := aw_ite_f hc hf
    refine lv_aload_n hx hb dX5_trySyllables_37 rfl (lv_at hl 1 rfl) ?_
    refine lv_iload hx hb dX5_trySyllables_38 (lv_at hl 4 rfl) ?_
    refine lv_aload_n hx hb dX5_trySyllables_40 rfl (lv_at hl 0 rfl) ?_
    obtain ⟨hc_10, hf⟩ := aw_chk_some hf
    obtain ⟨q_11, hq_12, hf⟩ := aw_bind_some hf
    refine gf_X5_31 hx hb G hown hc_10 hq_12 dX5_trySyllables_41 ?_
    refine lv_iconst (v := (0 : Int32)) hx hb dX5_trySyllables_44 (by decide) ?_
    obtain ⟨hc_15, hf⟩ := aw_chk_some hf
    obtain ⟨z_13, hz_14, hf⟩ := aw_bind_some hf
    refine aw_VI (As := [.int x4, .ref (ad q_11), .int ((0 : Int32))]) (rest := []) X G hl.1 cr_X5_82 (c_X1_spellSyllable l hz_14) ⟨rfl, rfl⟩ rfl rfl rfl (by decide) hc_15 rfl ⟨Nat.le_of_ble_eq_true rfl, Nat.le_of_ble_eq_true rfl⟩ (Nat.le_of_ble_eq_true rfl) dX5_trySyllables_45 ⟨Nat.zero_le _, Nat.zero_le _⟩ (fun H locs G => ?_)
    refine lv_istore (lv' := [(5, .int z_13.1), (0, .ref (ad x0)), (1, .ref (ad x1)), (2, .ref (ad x2)), (3, .int x3), (4, .int x4)]) hx hb dX5_trySyllables_48 hl (by decide) rfl (fun ls hl => ?_)
    refine lv_iload_n hx hb dX5_trySyllables_50 rfl (lv_at hl 4 rfl) ?_
    refine lv_iload hx hb dX5_trySyllables_51 (lv_at hl 0 rfl) ?_
    refine lv_isub hx hb dX5_trySyllables_53 ?_
    refine lv_istore (lv' := [(6, .int (x3 - z_13.1)), (5, .int z_13.1), (0, .ref (ad x0)), (1, .ref (ad x1)), (2, .ref (ad x2)), (3, .int x3), (4, .int x4)]) hx hb dX5_trySyllables_54 hl (by decide) rfl (fun ls hl => ?_)
    refine w_X5_trySyllables_L56 X aw_FU hf  (fun d_25 hf H locs ls hl G => ?_) (lv_sub hl [2, 3, 4, 5, 6, 1, 0] rfl) G
    refine lv_iinc (v := x4 + 1) (lv' := [(4, .int (x4 + 1)), (0, .ref (ad x0)), (1, .ref (ad x1)), (2, .ref (ad x2)), (3, .int x3)]) hx hb dX5_trySyllables_93 hl (k := 4) rfl rfl (by decide) rfl (fun ls hl => ?_)
    refine lv_goto (tgt := 29) hx hb dX5_trySyllables_96 (by decide) ?_
    exact hkb29 _ _ hf _ _ _ (lv_sub hl [1, 2, 3, 4, 0] rfl) G
theorem w_X5_trySyllables_L29 {z : Unit × Dt} (X : aw_X p c cX5_trySyllables 7 s RX5 m meth (none)) {k29 : Dt → Option (Unit × Dt)} {x0 : Nat} {x1 : Nat} {x2 : Nat} {x3 : Int32} (n : Nat) {x4 : Int32} {d : Dt} (hf : f_X5_trySyllables_L29 σ n k29 x0 x1 x2 x3 x4 d = some z) (hk29 : ∀ (d : Dt), k29 d = some z → ∀ (H : Heap) (locs : List Loc) (ls : Array Slot), lv_has ls 7 [] → aw_G D cA base ad σ d s H locs → W p l e rm_X5_trySyllables s m args below meth c H locs 0 0 (aw_Ev D cA base ad σ below args s z) (F0 m 99 ls [])) {H : Heap} {locs : List Loc} {ls : Array Slot} (hl : lv_has ls 7 [(0, .ref (ad x0)), (1, .ref (ad x1)), (2, .ref (ad x2)), (3, .int x3), (4, .int x4)]) (G : aw_G D cA base ad σ d s H locs) : W p l e rm_X5_trySyllables s m args below meth c H locs 0 0 (aw_Ev D cA base ad σ below args s z) (F0 m 29 ls []) := by
  induction n generalizing x4 d H locs ls with
  | zero => exact absurd (show (none : Option (Unit × Dt)) = some z from hf) (by simp)
  | succ n ih => exact w_X5_trySyllables_B29 X (kb29 := f_X5_trySyllables_L29 σ n k29 x0 x1 x2 x3) hf  (fun x4 d hf H locs ls hl G => ih hf hl G) hk29 hl G
end W_X5_trySyllables
set_option maxHeartbeats 4000000 in
set_option maxRecDepth 100000 in
theorem c_X5_trySyllables (l : Launch) {σ : Sg} {x0 : Nat} {x1 : Nat} {x2 : Nat} {x3 : Int32} {d : Dt} {z : Unit × Dt} (hf : f_X5_trySyllables σ x0 x1 x2 x3 d = some z) : aw_Mv l yX5_trySyllables (Cond.code yX5_trySyllables cX5_trySyllables 7 (none)) rm_X5_trySyllables (fun ad => [.ref (ad x0), .ref (ad x1), .ref (ad x2), .int x3]) σ d z := by
  intro D cA base ad
  refine aw_ofW (own := RX5) (cc := cX5_trySyllables) (nL := 7) (ret := none) (by decide) rfl rfl ?_
  intro p e s m below meth c X hnm G
  have hx := X.1; have hb := X.2.1; have hml := X.2.2.1; have hown := X.2.2.2.1
  refine aw_ls (lv := [(0, .ref (ad x0)), (1, .ref (ad x1)), (2, .ref (ad x2)), (3, .int x3)]) (Nat.le_of_ble_eq_true rfl) rfl (fun ls hl => ?_)
  unfold f_X5_trySyllables at hf
  refine lv_iconst (v := (0 : Int32)) hx hb dX5_trySyllables_0 (by decide) ?_
  refine lv_istore (lv' := [(4, .int ((0 : Int32))), (0, .ref (ad x0)), (1, .ref (ad x1)), (2, .ref (ad x2)), (3, .int x3)]) hx hb dX5_trySyllables_1 hl (by decide) rfl (fun ls hl => ?_)
  refine w_X5_trySyllables_L3 X aw_FU hf  (fun d_9 hf H locs ls hl G => ?_) (lv_sub hl [1, 2, 3, 4, 0] rfl) G
  refine lv_iconst (v := (0 : Int32)) hx hb dX5_trySyllables_26 (by decide) ?_
  refine lv_istore (lv' := [(4, .int ((0 : Int32))), (0, .ref (ad x0)), (1, .ref (ad x1)), (2, .ref (ad x2)), (3, .int x3)]) hx hb dX5_trySyllables_27 hl (by decide) rfl (fun ls hl => ?_)
  refine w_X5_trySyllables_L29 X aw_FU hf  (fun d_26 hf H locs ls hl G => ?_) (lv_sub hl [1, 2, 3, 4, 0] rfl) G
  exact aw_retv X G hf dX5_trySyllables_99
def rm_X5_countFrom : Room := { frames := 0, cells := 0, slots := 0, locals := 0 }
def f_X5_countFrom_B6 (σ : Sg) (kb6 : Int64 → Int32 → Dt → Option (Int64 × Dt)) (k6 : Int64 → Dt → Option (Int64 × Dt)) (x0 : Nat) (x1 : Int32) (x2 : Int32) (x3 : Nat) (x4 : Int64) (x6 : Int32) (d : Dt) : Option (Int64 × Dt) :=
  if ((4 : Int32)) < x6 then k6 x4 d else if x2 < (x1 + x6) then k6 x4 d else aw_chk (aw_O σ 5 6 x0) ((σ.2.2 x0 3).bind (fun q_2 => aw_chk (aw_I σ 23 q_2 x1) ((σ.2.2 q_2 x1.toNatClampNeg).bind (fun q_5 => aw_chk (aw_I σ 20 q_5 x6) (aw_chk (aw_I σ 21 x3 (x1 + x6)) (kb6 (x4 + (((d.1 q_5 x6.toNatClampNeg).toInt64) * (d.2 x3 (x1 + x6).toNatClampNeg))) (x6 + 1) d))))))
def f_X5_countFrom_L6 (σ : Sg) (n : Nat) (k6 : Int64 → Dt → Option (Int64 × Dt)) (x0 : Nat) (x1 : Int32) (x2 : Int32) (x3 : Nat) : Int64 → Int32 → Dt → Option (Int64 × Dt) := match n with
  | 0 => fun _ _ _ => none
  | n + 1 => fun x4 x6 d => f_X5_countFrom_B6 σ (f_X5_countFrom_L6 σ n k6 x0 x1 x2 x3) k6 x0 x1 x2 x3 x4 x6 d
def f_X5_countFrom_J48 (σ : Sg) (x4 : Int64) (d : Dt) : Option (Int64 × Dt) :=
  some (x4, d)
def f_X5_countFrom (σ : Sg) (x0 : Nat) (x1 : Int32) (x2 : Int32) (x3 : Nat) (d : Dt) : Option (Int64 × Dt) :=
  f_X5_countFrom_L6 σ aw_FU (fun x4_9 d_10 => f_X5_countFrom_J48 σ x4_9 d_10) x0 x1 x2 x3 ((0 : Int64)) ((1 : Int32)) d
section W_X5_countFrom
variable {p : Program} {l : Launch} {e : Env} {s : State} {m : MethodId} {args : Array Value} {below : List Frame} {meth : Method} {c : Code}
variable {D : va_G} {cA : Nat → ClassId} {base : Nat} {ad : Nat → Nat} {σ : Sg}
set_option maxHeartbeats 4000000 in
set_option maxRecDepth 100000 in
theorem w_X5_countFrom_B6 {z : Int64 × Dt} (X : aw_X p c cX5_countFrom 7 s RX5 m meth (some .long)) {kb6 : Int64 → Int32 → Dt → Option (Int64 × Dt)} {k6 : Int64 → Dt → Option (Int64 × Dt)} {x0 : Nat} {x1 : Int32} {x2 : Int32} {x3 : Nat} {x4 : Int64} {x6 : Int32} {d : Dt} (hf : f_X5_countFrom_B6 σ kb6 k6 x0 x1 x2 x3 x4 x6 d = some z) (hkb6 : ∀ (y4 : Int64) (y6 : Int32) (d : Dt), kb6 y4 y6 d = some z → ∀ (H : Heap) (locs : List Loc) (ls : Array Slot), lv_has ls 7 [(0, .ref (ad x0)), (1, .int x1), (2, .int x2), (3, .ref (ad x3)), (4, .long y4), (6, .int y6)] → aw_G D cA base ad σ d s H locs → W p l e rm_X5_countFrom s m args below meth c H locs 0 0 (aw_El D cA base ad σ below args s z) (F0 m 6 ls [])) (hk6 : ∀ (y4 : Int64) (d : Dt), k6 y4 d = some z → ∀ (H : Heap) (locs : List Loc) (ls : Array Slot), lv_has ls 7 [(4, .long y4)] → aw_G D cA base ad σ d s H locs → W p l e rm_X5_countFrom s m args below meth c H locs 0 0 (aw_El D cA base ad σ below args s z) (F0 m 48 ls [])) {H : Heap} {locs : List Loc} {ls : Array Slot} (hl : lv_has ls 7 [(0, .ref (ad x0)), (1, .int x1), (2, .int x2), (3, .ref (ad x3)), (4, .long x4), (6, .int x6)]) (G : aw_G D cA base ad σ d s H locs) : W p l e rm_X5_countFrom s m args below meth c H locs 0 0 (aw_El D cA base ad σ below args s z) (F0 m 6 ls []) := by
  have hx := X.1; have hb := X.2.1; have hml := X.2.2.1; have hown := X.2.2.2.1
  unfold f_X5_countFrom_B6 at hf
  refine lv_iload hx hb dX5_countFrom_6 (lv_at hl 5 rfl) ?_
  refine lv_iconst (v := (4 : Int32)) hx hb dX5_countFrom_8 (by decide) ?_
  refine lv_icmp_gt (tgt := 48) hx hb dX5_countFrom_9 (by decide) (fun hc => ?_) (fun hc => ?_)
  · have hf := aw_ite_t hc hf
    exact hk6 _ _ hf _ _ _ (lv_sub hl [4] rfl) G
  · have hf := aw_ite_f hc hf
    refine lv_iload_n hx hb dX5_countFrom_12 rfl (lv_at hl 1 rfl) ?_
    refine lv_iload hx hb dX5_countFrom_13 (lv_at hl 5 rfl) ?_
    refine lv_iadd hx hb dX5_countFrom_15 ?_
    refine lv_iload_n hx hb dX5_countFrom_16 rfl (lv_at hl 2 rfl) ?_
    refine lv_icmp_gt (tgt := 48) hx hb dX5_countFrom_17 (by decide) (fun hc => ?_) (fun hc => ?_)
    · have hf := aw_ite_t hc hf
      exact hk6 _ _ hf _ _ _ (lv_sub hl [4] rfl) G
    · have hf := aw_ite_f hc hf
      refine lv_lload hx hb dX5_countFrom_20 (lv_at hl 4 rfl) ?_
      refine lv_aload_n hx hb dX5_countFrom_22 rfl (lv_at hl 0 rfl) ?_
      obtain ⟨hc_1, hf⟩ := aw_chk_some hf
      obtain ⟨q_2, hq_3, hf⟩ := aw_bind_some hf
      refine gf_X5_23 hx hb G hown hc_1 hq_3 dX5_countFrom_23 ?_
      refine lv_iload_n hx hb dX5_countFrom_26 rfl (lv_at hl 1 rfl) ?_
      obtain ⟨hc_4, hf⟩ := aw_chk_some hf
      obtain ⟨q_5, hq_6, hf⟩ := aw_bind_some hf
      refine aw_qal hx hb G 23 _ rfl rfl (by decide) hc_4 hq_6 dX5_countFrom_27 ?_
      refine lv_iload hx hb dX5_countFrom_28 (lv_at hl 5 rfl) ?_
      obtain ⟨hc_7, hf⟩ := aw_chk_some hf
      refine aw_ial hx hb G hc_7 dX5_countFrom_30 ?_
      refine lv_i2l hx hb dX5_countFrom_31 rfl ?_
      refine lv_aload_n hx hb dX5_countFrom_32 rfl (lv_at hl 3 rfl) ?_
      refine lv_iload_n hx hb dX5_countFrom_33 rfl (lv_at hl 1 rfl) ?_
      refine lv_iload hx hb dX5_countFrom_34 (lv_at hl 5 rfl) ?_
      refine lv_iadd hx hb dX5_countFrom_36 ?_
      obtain ⟨hc_8, hf⟩ := aw_chk_some hf
      refine aw_lal hx hb G hc_8 dX5_countFrom_37 ?_
      refine lv_lmul hx hb dX5_countFrom_38 ?_
      refine lv_ladd hx hb dX5_countFrom_39 ?_
      refine lv_lstore (lv' := [(4, .long (x4 + (((d.1 q_5 x6.toNatClampNeg).toInt64) * (d.2 x3 (x1 + x6).toNatClampNeg)))), (0, .ref (ad x0)), (1, .int x1), (2, .int x2), (3, .ref (ad x3)), (6, .int x6)]) hx hb dX5_countFrom_40 hl (by decide) rfl (fun ls hl => ?_)
      refine lv_iinc (v := x6 + 1) (lv' := [(6, .int (x6 + 1)), (4, .long (x4 + (((d.1 q_5 x6.toNatClampNeg).toInt64) * (d.2 x3 (x1 + x6).toNatClampNeg)))), (0, .ref (ad x0)), (1, .int x1), (2, .int x2), (3, .ref (ad x3))]) hx hb dX5_countFrom_42 hl (k := 5) rfl rfl (by decide) rfl (fun ls hl => ?_)
      refine lv_goto (tgt := 6) hx hb dX5_countFrom_45 (by decide) ?_
      exact hkb6 _ _ _ hf _ _ _ (lv_sub hl [2, 3, 4, 5, 1, 0] rfl) G
theorem w_X5_countFrom_L6 {z : Int64 × Dt} (X : aw_X p c cX5_countFrom 7 s RX5 m meth (some .long)) {k6 : Int64 → Dt → Option (Int64 × Dt)} {x0 : Nat} {x1 : Int32} {x2 : Int32} {x3 : Nat} (n : Nat) {x4 : Int64} {x6 : Int32} {d : Dt} (hf : f_X5_countFrom_L6 σ n k6 x0 x1 x2 x3 x4 x6 d = some z) (hk6 : ∀ (y4 : Int64) (d : Dt), k6 y4 d = some z → ∀ (H : Heap) (locs : List Loc) (ls : Array Slot), lv_has ls 7 [(4, .long y4)] → aw_G D cA base ad σ d s H locs → W p l e rm_X5_countFrom s m args below meth c H locs 0 0 (aw_El D cA base ad σ below args s z) (F0 m 48 ls [])) {H : Heap} {locs : List Loc} {ls : Array Slot} (hl : lv_has ls 7 [(0, .ref (ad x0)), (1, .int x1), (2, .int x2), (3, .ref (ad x3)), (4, .long x4), (6, .int x6)]) (G : aw_G D cA base ad σ d s H locs) : W p l e rm_X5_countFrom s m args below meth c H locs 0 0 (aw_El D cA base ad σ below args s z) (F0 m 6 ls []) := by
  induction n generalizing x4 x6 d H locs ls with
  | zero => exact absurd (show (none : Option (Int64 × Dt)) = some z from hf) (by simp)
  | succ n ih => exact w_X5_countFrom_B6 X (kb6 := f_X5_countFrom_L6 σ n k6 x0 x1 x2 x3) hf  (fun x4 x6 d hf H locs ls hl G => ih hf hl G) hk6 hl G
set_option maxHeartbeats 4000000 in
set_option maxRecDepth 100000 in
theorem w_X5_countFrom_J48 {z : Int64 × Dt} (X : aw_X p c cX5_countFrom 7 s RX5 m meth (some .long)) {x4 : Int64} {d : Dt} (hf : f_X5_countFrom_J48 σ x4 d = some z)  {H : Heap} {locs : List Loc} {ls : Array Slot} (hl : lv_has ls 7 [(4, .long x4)]) (G : aw_G D cA base ad σ d s H locs) : W p l e rm_X5_countFrom s m args below meth c H locs 0 0 (aw_El D cA base ad σ below args s z) (F0 m 48 ls []) := by
  have hx := X.1; have hb := X.2.1; have hml := X.2.2.1; have hown := X.2.2.2.1
  unfold f_X5_countFrom_J48 at hf
  refine lv_lload hx hb dX5_countFrom_48 (lv_at hl 0 rfl) ?_
  exact aw_retl X G hf dX5_countFrom_50
end W_X5_countFrom
set_option maxHeartbeats 4000000 in
set_option maxRecDepth 100000 in
theorem c_X5_countFrom (l : Launch) {σ : Sg} {x0 : Nat} {x1 : Int32} {x2 : Int32} {x3 : Nat} {d : Dt} {z : Int64 × Dt} (hf : f_X5_countFrom σ x0 x1 x2 x3 d = some z) : aw_Ml l yX5_countFrom (Cond.code yX5_countFrom cX5_countFrom 7 (some .long)) rm_X5_countFrom (fun ad => [.ref (ad x0), .int x1, .int x2, .ref (ad x3)]) σ d z := by
  intro D cA base ad
  refine aw_ofW (own := RX5) (cc := cX5_countFrom) (nL := 7) (ret := some .long) (by decide) rfl rfl ?_
  intro p e s m below meth c X hnm G
  have hx := X.1; have hb := X.2.1; have hml := X.2.2.1; have hown := X.2.2.2.1
  refine aw_ls (lv := [(0, .ref (ad x0)), (1, .int x1), (2, .int x2), (3, .ref (ad x3))]) (Nat.le_of_ble_eq_true rfl) rfl (fun ls hl => ?_)
  unfold f_X5_countFrom at hf
  refine lv_lconst (v := (0 : Int64)) hx hb dX5_countFrom_0 (by decide) ?_
  refine lv_lstore (lv' := [(4, .long ((0 : Int64))), (0, .ref (ad x0)), (1, .int x1), (2, .int x2), (3, .ref (ad x3))]) hx hb dX5_countFrom_1 hl (by decide) rfl (fun ls hl => ?_)
  refine lv_iconst (v := (1 : Int32)) hx hb dX5_countFrom_3 (by decide) ?_
  refine lv_istore (lv' := [(6, .int ((1 : Int32))), (4, .long ((0 : Int64))), (0, .ref (ad x0)), (1, .int x1), (2, .int x2), (3, .ref (ad x3))]) hx hb dX5_countFrom_4 hl (by decide) rfl (fun ls hl => ?_)
  refine w_X5_countFrom_L6 X aw_FU hf  (fun x4_9 d_10 hf H locs ls hl G => ?_) (lv_sub hl [2, 3, 4, 5, 1, 0] rfl) G
  exact w_X5_countFrom_J48 X hf  (lv_sub hl [0] rfl) G
def rm_X5_countBySyllables : Room := { frames := 3, cells := 0, slots := 0, locals := 75 }
def f_X5_countBySyllables_B53 (σ : Sg) (kb53 : Int32 → Dt → Option (Int64 × Dt)) (k53 : Dt → Option (Int64 × Dt)) (x0 : Nat) (x3 : Int32) (x4 : Int64) (x6 : Int32) (x7 : Int32) (d : Dt) : Option (Int64 × Dt) :=
  if x7 < 0 then k53 d else aw_chk (aw_O σ 5 6 x0) ((σ.2.2 x0 4).bind (fun q_20 => aw_chk (aw_I σ 24 q_20 x6) ((σ.2.2 q_20 x6.toNatClampNeg).bind (fun q_23 => aw_chk (aw_I σ 24 q_20 (x6 - ((1 : Int32)))) ((σ.2.2 q_20 (x6 - ((1 : Int32))).toNatClampNeg).bind (fun q_26 => (f_X5_countFrom σ x0 x7 x3 q_26 d).bind (fun z_28 => aw_chk (aw_I σ 21 q_23 x7) (kb53 (x7 + (-1)) (aw_sL z_28.2 q_23 x7.toNatClampNeg z_28.1)))))))))
def f_X5_countBySyllables_L53 (σ : Sg) (n : Nat) (k53 : Dt → Option (Int64 × Dt)) (x0 : Nat) (x3 : Int32) (x4 : Int64) (x6 : Int32) : Int32 → Dt → Option (Int64 × Dt) := match n with
  | 0 => fun _ _ => none
  | n + 1 => fun x7 d => f_X5_countBySyllables_B53 σ (f_X5_countBySyllables_L53 σ n k53 x0 x3 x4 x6) k53 x0 x3 x4 x6 x7 d
def f_X5_countBySyllables_B32 (σ : Sg) (kb32 : Int64 → Int32 → Dt → Option (Int64 × Dt)) (k32 : Int64 → Dt → Option (Int64 × Dt)) (x0 : Nat) (x3 : Int32) (x4 : Int64) (x6 : Int32) (d : Dt) : Option (Int64 × Dt) :=
  if ((4 : Int32)) < x6 then k32 x4 d else aw_chk (aw_O σ 5 6 x0) ((σ.2.2 x0 4).bind (fun q_13 => aw_chk (aw_I σ 24 q_13 x6) ((σ.2.2 q_13 x6.toNatClampNeg).bind (fun q_16 => aw_chk (aw_I σ 21 q_16 x3) (f_X5_countBySyllables_L53 σ aw_FU (fun d_31 => aw_chk (aw_I σ 21 q_16 ((0 : Int32))) (kb32 (x4 + (d_31.2 q_16 ((0 : Int32)).toNatClampNeg)) (x6 + 1) d_31)) x0 x3 x4 x6 (x3 - ((1 : Int32))) (aw_sL d q_16 x3.toNatClampNeg ((0 : Int64))))))))
def f_X5_countBySyllables_L32 (σ : Sg) (n : Nat) (k32 : Int64 → Dt → Option (Int64 × Dt)) (x0 : Nat) (x3 : Int32) : Int64 → Int32 → Dt → Option (Int64 × Dt) := match n with
  | 0 => fun _ _ _ => none
  | n + 1 => fun x4 x6 d => f_X5_countBySyllables_B32 σ (f_X5_countBySyllables_L32 σ n k32 x0 x3) k32 x0 x3 x4 x6 d
def f_X5_countBySyllables (σ : Sg) (x0 : Nat) (x1 : Nat) (x2 : Nat) (x3 : Int32) (d : Dt) : Option (Int64 × Dt) :=
  aw_chk (aw_O σ 5 6 x0) ((f_X5_trySyllables σ x0 x1 x2 x3 d).bind (fun z_1 => (σ.2.2 x0 4).bind (fun q_4 => aw_chk (aw_I σ 24 q_4 ((0 : Int32))) ((σ.2.2 q_4 ((0 : Int32)).toNatClampNeg).bind (fun q_7 => (f_J7_fill_d0a16 σ q_7 ((0 : Int64)) z_1.2).bind (fun z_9 => aw_chk (aw_I σ 21 q_7 x3) (f_X5_countBySyllables_L32 σ aw_FU (fun x4_33 d_34 => some (x4_33, d_34)) x0 x3 ((0 : Int64)) ((1 : Int32)) (aw_sL z_9.2 q_7 x3.toNatClampNeg ((1 : Int64))))))))))
section W_X5_countBySyllables
variable {p : Program} {l : Launch} {e : Env} {s : State} {m : MethodId} {args : Array Value} {below : List Frame} {meth : Method} {c : Code}
variable {D : va_G} {cA : Nat → ClassId} {base : Nat} {ad : Nat → Nat} {σ : Sg}
set_option maxHeartbeats 4000000 in
set_option maxRecDepth 100000 in
theorem w_X5_countBySyllables_B53 {z : Int64 × Dt} (X : aw_X p c cX5_countBySyllables 8 s RX5 m meth (some .long)) {kb53 : Int32 → Dt → Option (Int64 × Dt)} {k53 : Dt → Option (Int64 × Dt)} {x0 : Nat} {x3 : Int32} {x4 : Int64} {x6 : Int32} {x7 : Int32} {d : Dt} (hf : f_X5_countBySyllables_B53 σ kb53 k53 x0 x3 x4 x6 x7 d = some z) (hkb53 : ∀ (y7 : Int32) (d : Dt), kb53 y7 d = some z → ∀ (H : Heap) (locs : List Loc) (ls : Array Slot), lv_has ls 8 [(0, .ref (ad x0)), (3, .int x3), (4, .long x4), (6, .int x6), (7, .int y7)] → aw_G D cA base ad σ d s H locs → W p l e rm_X5_countBySyllables s m args below meth c H locs 0 0 (aw_El D cA base ad σ below args s z) (F0 m 53 ls [])) (hk53 : ∀ (d : Dt), k53 d = some z → ∀ (H : Heap) (locs : List Loc) (ls : Array Slot), lv_has ls 8 [(0, .ref (ad x0)), (3, .int x3), (4, .long x4), (6, .int x6)] → aw_G D cA base ad σ d s H locs → W p l e rm_X5_countBySyllables s m args below meth c H locs 0 0 (aw_El D cA base ad σ below args s z) (F0 m 90 ls [])) {H : Heap} {locs : List Loc} {ls : Array Slot} (hl : lv_has ls 8 [(0, .ref (ad x0)), (3, .int x3), (4, .long x4), (6, .int x6), (7, .int x7)]) (G : aw_G D cA base ad σ d s H locs) : W p l e rm_X5_countBySyllables s m args below meth c H locs 0 0 (aw_El D cA base ad σ below args s z) (F0 m 53 ls []) := by
  have hx := X.1; have hb := X.2.1; have hml := X.2.2.1; have hown := X.2.2.2.1
  unfold f_X5_countBySyllables_B53 at hf
  refine lv_iload hx hb dX5_countBySyllables_53 (lv_at hl 4 rfl) ?_
  refine lv_if_lt (tgt := 90) hx hb dX5_countBySyllables_55 (by decide) (fun hc => ?_) (fun hc => ?_)
  · have hf := aw_ite_t hc hf
    exact hk53 _ hf _ _ _ (lv_sub hl [0, 1, 2, 3] rfl) G
  · have hf := aw_ite_f hc hf
    refine lv_aload_n hx hb dX5_countBySyllables_58 rfl (lv_at hl 0 rfl) ?_
    obtain ⟨hc_19, hf⟩ := aw_chk_some hf
    obtain ⟨q_20, hq_21, hf⟩ := aw_bind_some hf
    refine gf_X5_28 hx hb G hown hc_19 hq_21 dX5_countBySyllables_59 ?_
    refine lv_iload hx hb dX5_countBySyllables_62 (lv_at hl 3 rfl) ?_
    obtain ⟨hc_22, hf⟩ := aw_chk_some hf
    obtain ⟨q_23, hq_24, hf⟩ := aw_bind_some hf
    refine aw_qal hx hb G 24 _ rfl rfl (by decide) hc_22 hq_24 dX5_countBySyllables_64 ?_
    refine lv_iload hx hb dX5_countBySyllables_65 (lv_at hl 4 rfl) ?_
    refine lv_aload_n hx hb dX5_countBySyllables_67 rfl (lv_at hl 0 rfl) ?_
    refine lv_iload hx hb dX5_countBySyllables_68 (lv_at hl 4 rfl) ?_
    refine lv_iload_n hx hb dX5_countBySyllables_70 rfl (lv_at hl 1 rfl) ?_
    refine lv_aload_n hx hb dX5_countBySyllables_71 rfl (lv_at hl 0 rfl) ?_
    refine gf_X5_28 hx hb G hown hc_19 hq_21 dX5_countBySyllables_72 ?_
    refine lv_iload hx hb dX5_countBySyllables_75 (lv_at hl 3 rfl) ?_
    refine lv_iconst (v := (1 : Int32)) hx hb dX5_countBySyllables_77 (by decide) ?_
    refine lv_isub hx hb dX5_countBySyllables_78 ?_
    obtain ⟨hc_25, hf⟩ := aw_chk_some hf
    obtain ⟨q_26, hq_27, hf⟩ := aw_bind_some hf
    refine aw_qal hx hb G 24 _ rfl rfl (by decide) hc_25 hq_27 dX5_countBySyllables_79 ?_
    obtain ⟨z_28, hz_29, hf⟩ := aw_bind_some hf
    refine aw_VL (As := [.int x7, .int x3, .ref (ad q_26)]) (rest := [.int x7, .ref (ad q_23)]) X G hl.1 cr_X5_75 (c_X5_countFrom l hz_29) ⟨rfl, rfl⟩ rfl rfl rfl (by decide) hc_19 rfl ⟨Nat.le_of_ble_eq_true rfl, Nat.le_of_ble_eq_true rfl⟩ (Nat.le_of_ble_eq_true rfl) dX5_countBySyllables_80 ⟨Nat.zero_le _, Nat.zero_le _⟩ (fun H locs G => ?_)
    obtain ⟨hc_30, hf⟩ := aw_chk_some hf
    refine aw_las hx hb G hc_30 dX5_countBySyllables_83 (fun H locs G => ?_)
    refine lv_iinc (v := x7 + (-1)) (lv' := [(7, .int (x7 + (-1))), (0, .ref (ad x0)), (3, .int x3), (4, .long x4), (6, .int x6)]) hx hb dX5_countBySyllables_84 hl (k := 4) rfl rfl (by decide) rfl (fun ls hl => ?_)
    refine lv_goto (tgt := 53) hx hb dX5_countBySyllables_87 (by decide) ?_
    exact hkb53 _ _ hf _ _ _ (lv_sub hl [1, 2, 3, 4, 0] rfl) G
theorem w_X5_countBySyllables_L53 {z : Int64 × Dt} (X : aw_X p c cX5_countBySyllables 8 s RX5 m meth (some .long)) {k53 : Dt → Option (Int64 × Dt)} {x0 : Nat} {x3 : Int32} {x4 : Int64} {x6 : Int32} (n : Nat) {x7 : Int32} {d : Dt} (hf : f_X5_countBySyllables_L53 σ n k53 x0 x3 x4 x6 x7 d = some z) (hk53 : ∀ (d : Dt), k53 d = some z → ∀ (H : Heap) (locs : List Loc) (ls : Array Slot), lv_has ls 8 [(0, .ref (ad x0)), (3, .int x3), (4, .long x4), (6, .int x6)] → aw_G D cA base ad σ d s H locs → W p l e rm_X5_countBySyllables s m args below meth c H locs 0 0 (aw_El D cA base ad σ below args s z) (F0 m 90 ls [])) {H : Heap} {locs : List Loc} {ls : Array Slot} (hl : lv_has ls 8 [(0, .ref (ad x0)), (3, .int x3), (4, .long x4), (6, .int x6), (7, .int x7)]) (G : aw_G D cA base ad σ d s H locs) : W p l e rm_X5_countBySyllables s m args below meth c H locs 0 0 (aw_El D cA base ad σ below args s z) (F0 m 53 ls []) := by
  induction n generalizing x7 d H locs ls with
  | zero => exact absurd (show (none : Option (Int64 × Dt)) = some z from hf) (by simp)
  | succ n ih => exact w_X5_countBySyllables_B53 X (kb53 := f_X5_countBySyllables_L53 σ n k53 x0 x3 x4 x6) hf  (fun x7 d hf H locs ls hl G => ih hf hl G) hk53 hl G
set_option maxHeartbeats 4000000 in
set_option maxRecDepth 100000 in
theorem w_X5_countBySyllables_B32 {z : Int64 × Dt} (X : aw_X p c cX5_countBySyllables 8 s RX5 m meth (some .long)) {kb32 : Int64 → Int32 → Dt → Option (Int64 × Dt)} {k32 : Int64 → Dt → Option (Int64 × Dt)} {x0 : Nat} {x3 : Int32} {x4 : Int64} {x6 : Int32} {d : Dt} (hf : f_X5_countBySyllables_B32 σ kb32 k32 x0 x3 x4 x6 d = some z) (hkb32 : ∀ (y4 : Int64) (y6 : Int32) (d : Dt), kb32 y4 y6 d = some z → ∀ (H : Heap) (locs : List Loc) (ls : Array Slot), lv_has ls 8 [(0, .ref (ad x0)), (3, .int x3), (4, .long y4), (6, .int y6)] → aw_G D cA base ad σ d s H locs → W p l e rm_X5_countBySyllables s m args below meth c H locs 0 0 (aw_El D cA base ad σ below args s z) (F0 m 32 ls [])) (hk32 : ∀ (y4 : Int64) (d : Dt), k32 y4 d = some z → ∀ (H : Heap) (locs : List Loc) (ls : Array Slot), lv_has ls 8 [(4, .long y4)] → aw_G D cA base ad σ d s H locs → W p l e rm_X5_countBySyllables s m args below meth c H locs 0 0 (aw_El D cA base ad σ below args s z) (F0 m 110 ls [])) {H : Heap} {locs : List Loc} {ls : Array Slot} (hl : lv_has ls 8 [(0, .ref (ad x0)), (3, .int x3), (4, .long x4), (6, .int x6)]) (G : aw_G D cA base ad σ d s H locs) : W p l e rm_X5_countBySyllables s m args below meth c H locs 0 0 (aw_El D cA base ad σ below args s z) (F0 m 32 ls []) := by
  have hx := X.1; have hb := X.2.1; have hml := X.2.2.1; have hown := X.2.2.2.1
  unfold f_X5_countBySyllables_B32 at hf
  refine lv_iload hx hb dX5_countBySyllables_32 (lv_at hl 3 rfl) ?_
  refine lv_iconst (v := (4 : Int32)) hx hb dX5_countBySyllables_34 (by decide) ?_
  refine lv_icmp_gt (tgt := 110) hx hb dX5_countBySyllables_35 (by decide) (fun hc => ?_) (fun hc => ?_)
  · have hf := aw_ite_t hc hf
    exact hk32 _ _ hf _ _ _ (lv_sub hl [2] rfl) G
  · have hf := aw_ite_f hc hf
    refine lv_aload_n hx hb dX5_countBySyllables_38 rfl (lv_at hl 0 rfl) ?_
    obtain ⟨hc_12, hf⟩ := aw_chk_some hf
    obtain ⟨q_13, hq_14, hf⟩ := aw_bind_some hf
    refine gf_X5_28 hx hb G hown hc_12 hq_14 dX5_countBySyllables_39 ?_
    refine lv_iload hx hb dX5_countBySyllables_42 (lv_at hl 3 rfl) ?_
    obtain ⟨hc_15, hf⟩ := aw_chk_some hf
    obtain ⟨q_16, hq_17, hf⟩ := aw_bind_some hf
    refine aw_qal hx hb G 24 _ rfl rfl (by decide) hc_15 hq_17 dX5_countBySyllables_44 ?_
    refine lv_iload_n hx hb dX5_countBySyllables_45 rfl (lv_at hl 1 rfl) ?_
    refine lv_lconst (v := (0 : Int64)) hx hb dX5_countBySyllables_46 (by decide) ?_
    obtain ⟨hc_18, hf⟩ := aw_chk_some hf
    refine aw_las hx hb G hc_18 dX5_countBySyllables_47 (fun H locs G => ?_)
    refine lv_iload_n hx hb dX5_countBySyllables_48 rfl (lv_at hl 1 rfl) ?_
    refine lv_iconst (v := (1 : Int32)) hx hb dX5_countBySyllables_49 (by decide) ?_
    refine lv_isub hx hb dX5_countBySyllables_50 ?_
    refine lv_istore (lv' := [(7, .int (x3 - ((1 : Int32)))), (0, .ref (ad x0)), (3, .int x3), (4, .long x4), (6, .int x6)]) hx hb dX5_countBySyllables_51 hl (by decide) rfl (fun ls hl => ?_)
    refine w_X5_countBySyllables_L53 X aw_FU hf  (fun d_31 hf H locs ls hl G => ?_) (lv_sub hl [1, 2, 3, 4, 0] rfl) G
    refine lv_lload hx hb dX5_countBySyllables_90 (lv_at hl 2 rfl) ?_
    refine lv_aload_n hx hb dX5_countBySyllables_92 rfl (lv_at hl 0 rfl) ?_
    refine gf_X5_28 hx hb G hown hc_12 hq_14 dX5_countBySyllables_93 ?_
    refine lv_iload hx hb dX5_countBySyllables_96 (lv_at hl 3 rfl) ?_
    refine aw_qal hx hb G 24 _ rfl rfl (by decide) hc_15 hq_17 dX5_countBySyllables_98 ?_
    refine lv_iconst (v := (0 : Int32)) hx hb dX5_countBySyllables_99 (by decide) ?_
    obtain ⟨hc_32, hf⟩ := aw_chk_some hf
    refine aw_lal hx hb G hc_32 dX5_countBySyllables_100 ?_
    refine lv_ladd hx hb dX5_countBySyllables_101 ?_
    refine lv_lstore (lv' := [(4, .long (x4 + (d_31.2 q_16 ((0 : Int32)).toNatClampNeg))), (0, .ref (ad x0)), (3, .int x3), (6, .int x6)]) hx hb dX5_countBySyllables_102 hl (by decide) rfl (fun ls hl => ?_)
    refine lv_iinc (v := x6 + 1) (lv' := [(6, .int (x6 + 1)), (4, .long (x4 + (d_31.2 q_16 ((0 : Int32)).toNatClampNeg))), (0, .ref (ad x0)), (3, .int x3)]) hx hb dX5_countBySyllables_104 hl (k := 3) rfl rfl (by decide) rfl (fun ls hl => ?_)
    refine lv_goto (tgt := 32) hx hb dX5_countBySyllables_107 (by decide) ?_
    exact hkb32 _ _ _ hf _ _ _ (lv_sub hl [2, 3, 1, 0] rfl) G
theorem w_X5_countBySyllables_L32 {z : Int64 × Dt} (X : aw_X p c cX5_countBySyllables 8 s RX5 m meth (some .long)) {k32 : Int64 → Dt → Option (Int64 × Dt)} {x0 : Nat} {x3 : Int32} (n : Nat) {x4 : Int64} {x6 : Int32} {d : Dt} (hf : f_X5_countBySyllables_L32 σ n k32 x0 x3 x4 x6 d = some z) (hk32 : ∀ (y4 : Int64) (d : Dt), k32 y4 d = some z → ∀ (H : Heap) (locs : List Loc) (ls : Array Slot), lv_has ls 8 [(4, .long y4)] → aw_G D cA base ad σ d s H locs → W p l e rm_X5_countBySyllables s m args below meth c H locs 0 0 (aw_El D cA base ad σ below args s z) (F0 m 110 ls [])) {H : Heap} {locs : List Loc} {ls : Array Slot} (hl : lv_has ls 8 [(0, .ref (ad x0)), (3, .int x3), (4, .long x4), (6, .int x6)]) (G : aw_G D cA base ad σ d s H locs) : W p l e rm_X5_countBySyllables s m args below meth c H locs 0 0 (aw_El D cA base ad σ below args s z) (F0 m 32 ls []) := by
  induction n generalizing x4 x6 d H locs ls with
  | zero => exact absurd (show (none : Option (Int64 × Dt)) = some z from hf) (by simp)
  | succ n ih => exact w_X5_countBySyllables_B32 X (kb32 := f_X5_countBySyllables_L32 σ n k32 x0 x3) hf  (fun x4 x6 d hf H locs ls hl G => ih hf hl G) hk32 hl G
end W_X5_countBySyllables
set_option maxHeartbeats 4000000 in
set_option maxRecDepth 100000 in
theorem c_X5_countBySyllables (l : Launch) {σ : Sg} {x0 : Nat} {x1 : Nat} {x2 : Nat} {x3 : Int32} {d : Dt} {z : Int64 × Dt} (hf : f_X5_countBySyllables σ x0 x1 x2 x3 d = some z) : aw_Ml l yX5_countBySyllables (Cond.code yX5_countBySyllables cX5_countBySyllables 8 (some .long)) rm_X5_countBySyllables (fun ad => [.ref (ad x0), .ref (ad x1), .ref (ad x2), .int x3]) σ d z := by
  intro D cA base ad
  refine aw_ofW (own := RX5) (cc := cX5_countBySyllables) (nL := 8) (ret := some .long) (by decide) rfl rfl ?_
  intro p e s m below meth c X hnm G
  have hx := X.1; have hb := X.2.1; have hml := X.2.2.1; have hown := X.2.2.2.1
  refine aw_ls (lv := [(0, .ref (ad x0)), (1, .ref (ad x1)), (2, .ref (ad x2)), (3, .int x3)]) (Nat.le_of_ble_eq_true rfl) rfl (fun ls hl => ?_)
  unfold f_X5_countBySyllables at hf
  refine lv_aload_n hx hb dX5_countBySyllables_0 rfl (lv_at hl 0 rfl) ?_
  refine lv_aload_n hx hb dX5_countBySyllables_1 rfl (lv_at hl 1 rfl) ?_
  refine lv_aload_n hx hb dX5_countBySyllables_2 rfl (lv_at hl 2 rfl) ?_
  refine lv_iload_n hx hb dX5_countBySyllables_3 rfl (lv_at hl 3 rfl) ?_
  obtain ⟨hc_3, hf⟩ := aw_chk_some hf
  obtain ⟨z_1, hz_2, hf⟩ := aw_bind_some hf
  refine aw_VV (As := [.ref (ad x1), .ref (ad x2), .int x3]) (rest := []) X G hl.1 cr_X5_72 (c_X5_trySyllables l hz_2) ⟨rfl, rfl⟩ rfl rfl rfl (by decide) hc_3 rfl ⟨Nat.le_of_ble_eq_true rfl, Nat.le_of_ble_eq_true rfl⟩ (Nat.le_of_ble_eq_true rfl) dX5_countBySyllables_4 ⟨Nat.zero_le _, Nat.zero_le _⟩ (fun H locs G => ?_)
  refine lv_lconst (v := (0 : Int64)) hx hb dX5_countBySyllables_7 (by decide) ?_
  refine lv_lstore (lv' := [(4, .long ((0 : Int64))), (0, .ref (ad x0)), (1, .ref (ad x1)), (2, .ref (ad x2)), (3, .int x3)]) hx hb dX5_countBySyllables_8 hl (by decide) rfl (fun ls hl => ?_)
  refine lv_aload_n hx hb dX5_countBySyllables_10 rfl (lv_at hl 1 rfl) ?_
  obtain ⟨q_4, hq_5, hf⟩ := aw_bind_some hf
  refine gf_X5_28 hx hb G hown hc_3 hq_5 dX5_countBySyllables_11 ?_
  refine lv_iconst (v := (0 : Int32)) hx hb dX5_countBySyllables_14 (by decide) ?_
  obtain ⟨hc_6, hf⟩ := aw_chk_some hf
  obtain ⟨q_7, hq_8, hf⟩ := aw_bind_some hf
  refine aw_qal hx hb G 24 _ rfl rfl (by decide) hc_6 hq_8 dX5_countBySyllables_15 ?_
  refine lv_lconst (v := (0 : Int64)) hx hb dX5_countBySyllables_16 (by decide) ?_
  obtain ⟨z_9, hz_10, hf⟩ := aw_bind_some hf
  refine aw_SV (As := [.ref (ad q_7), .long ((0 : Int64))]) (rest := []) X G hl.1 cr_X5_35 (c_J7_fill_d0a16 l hz_10) ⟨rfl, rfl⟩ rfl rfl rfl ⟨Nat.le_of_ble_eq_true rfl, Nat.le_of_ble_eq_true rfl⟩ (Nat.le_of_ble_eq_true rfl) dX5_countBySyllables_17 ⟨Nat.zero_le _, Nat.zero_le _⟩ (fun H locs G => ?_)
  refine lv_aload_n hx hb dX5_countBySyllables_20 rfl (lv_at hl 1 rfl) ?_
  refine gf_X5_28 hx hb G hown hc_3 hq_5 dX5_countBySyllables_21 ?_
  refine lv_iconst (v := (0 : Int32)) hx hb dX5_countBySyllables_24 (by decide) ?_
  refine aw_qal hx hb G 24 _ rfl rfl (by decide) hc_6 hq_8 dX5_countBySyllables_25 ?_
  refine lv_iload_n hx hb dX5_countBySyllables_26 rfl (lv_at hl 4 rfl) ?_
  refine lv_lconst (v := (1 : Int64)) hx hb dX5_countBySyllables_27 (by decide) ?_
  obtain ⟨hc_11, hf⟩ := aw_chk_some hf
  refine aw_las hx hb G hc_11 dX5_countBySyllables_28 (fun H locs G => ?_)
  refine lv_iconst (v := (1 : Int32)) hx hb dX5_countBySyllables_29 (by decide) ?_
  refine lv_istore (lv' := [(6, .int ((1 : Int32))), (4, .long ((0 : Int64))), (0, .ref (ad x0)), (1, .ref (ad x1)), (2, .ref (ad x2)), (3, .int x3)]) hx hb dX5_countBySyllables_30 hl (by decide) rfl (fun ls hl => ?_)
  refine w_X5_countBySyllables_L32 X aw_FU hf  (fun x4_33 d_34 hf H locs ls hl G => ?_) (lv_sub hl [2, 5, 1, 0] rfl) G
  refine lv_lload hx hb dX5_countBySyllables_110 (lv_at hl 0 rfl) ?_
  exact aw_retl X G hf dX5_countBySyllables_112
def rm_X6_figuresOf : Room := { frames := 0, cells := 0, slots := 0, locals := 0 }
def f_X6_figuresOf_J32 (σ : Sg) (t0 : Int32) (d : Dt) : Option (Int32 × Dt) :=
  some (t0, d)
def f_X6_figuresOf (σ : Sg) (x0 : Int32) (d : Dt) : Option (Int32 × Dt) :=
  if ((10 : Int32)) ≤ x0 then if ((100 : Int32)) ≤ x0 then if ((1000 : Int32)) ≤ x0 then f_X6_figuresOf_J32 σ ((4 : Int32)) d else f_X6_figuresOf_J32 σ ((3 : Int32)) d else f_X6_figuresOf_J32 σ ((2 : Int32)) d else f_X6_figuresOf_J32 σ ((1 : Int32)) d
section W_X6_figuresOf
variable {p : Program} {l : Launch} {e : Env} {s : State} {m : MethodId} {args : Array Value} {below : List Frame} {meth : Method} {c : Code}
variable {D : va_G} {cA : Nat → ClassId} {base : Nat} {ad : Nat → Nat} {σ : Sg}
set_option maxHeartbeats 4000000 in
set_option maxRecDepth 100000 in
theorem w_X6_figuresOf_J32 {z : Int32 × Dt} (X : aw_X p c cX6_figuresOf 1 s RX6 m meth (some .int)) {t0 : Int32} {d : Dt} (hf : f_X6_figuresOf_J32 σ t0 d = some z)  {H : Heap} {locs : List Loc} {ls : Array Slot} (hl : lv_has ls 1 []) (G : aw_G D cA base ad σ d s H locs) : W p l e rm_X6_figuresOf s m args below meth c H locs 0 0 (aw_Ei D cA base ad σ below args s z) (F0 m 32 ls [.int t0]) := by
  have hx := X.1; have hb := X.2.1; have hml := X.2.2.1; have hown := X.2.2.2.1
  unfold f_X6_figuresOf_J32 at hf
  exact aw_reti X G hf dX6_figuresOf_32
end W_X6_figuresOf
set_option maxHeartbeats 4000000 in
set_option maxRecDepth 100000 in
theorem c_X6_figuresOf (l : Launch) {σ : Sg} {x0 : Int32} {d : Dt} {z : Int32 × Dt} (hf : f_X6_figuresOf σ x0 d = some z) : aw_Mi l yX6_figuresOf (Cond.code yX6_figuresOf cX6_figuresOf 1 (some .int)) rm_X6_figuresOf (fun ad => [.int x0]) σ d z := by
  intro D cA base ad
  refine aw_ofW (own := RX6) (cc := cX6_figuresOf) (nL := 1) (ret := some .int) (by decide) rfl rfl ?_
  intro p e s m below meth c X hnm G
  have hx := X.1; have hb := X.2.1; have hml := X.2.2.1; have hown := X.2.2.2.1
  refine aw_ls (lv := [(0, .int x0)]) (Nat.le_of_ble_eq_true rfl) rfl (fun ls hl => ?_)
  unfold f_X6_figuresOf at hf
  refine lv_iload_n hx hb dX6_figuresOf_0 rfl (lv_at hl 0 rfl) ?_
  refine lv_bipush (v := (10 : Int32)) hx hb dX6_figuresOf_1 (by decide) ?_
  refine lv_icmp_ge (tgt := 10) hx hb dX6_figuresOf_3 (by decide) (fun hc => ?_) (fun hc => ?_)
  · have hf := aw_ite_t hc hf
    refine lv_iload_n hx hb dX6_figuresOf_10 rfl (lv_at hl 0 rfl) ?_
    refine lv_bipush (v := (100 : Int32)) hx hb dX6_figuresOf_11 (by decide) ?_
    refine lv_icmp_ge (tgt := 20) hx hb dX6_figuresOf_13 (by decide) (fun hc => ?_) (fun hc => ?_)
    · have hf := aw_ite_t hc hf
      refine lv_iload_n hx hb dX6_figuresOf_20 rfl (lv_at hl 0 rfl) ?_
      refine lv_sipush (v := (1000 : Int32)) hx hb dX6_figuresOf_21 (by decide) ?_
      refine lv_icmp_ge (tgt := 31) hx hb dX6_figuresOf_24 (by decide) (fun hc => ?_) (fun hc => ?_)
      · have hf := aw_ite_t hc hf
        refine lv_iconst (v := (4 : Int32)) hx hb dX6_figuresOf_31 (by decide) ?_
        exact w_X6_figuresOf_J32 X hf  (lv_sub hl [] rfl) G
      · have hf := aw_ite_f hc hf
        refine lv_iconst (v := (3 : Int32)) hx hb dX6_figuresOf_27 (by decide) ?_
        refine lv_goto (tgt := 32) hx hb dX6_figuresOf_28 (by decide) ?_
        exact w_X6_figuresOf_J32 X hf  (lv_sub hl [] rfl) G
    · have hf := aw_ite_f hc hf
      refine lv_iconst (v := (2 : Int32)) hx hb dX6_figuresOf_16 (by decide) ?_
      refine lv_goto (tgt := 32) hx hb dX6_figuresOf_17 (by decide) ?_
      exact w_X6_figuresOf_J32 X hf  (lv_sub hl [] rfl) G
  · have hf := aw_ite_f hc hf
    refine lv_iconst (v := (1 : Int32)) hx hb dX6_figuresOf_6 (by decide) ?_
    refine lv_goto (tgt := 32) hx hb dX6_figuresOf_7 (by decide) ?_
    exact w_X6_figuresOf_J32 X hf  (lv_sub hl [] rfl) G
def rm_X6_isOne : Room := { frames := 1, cells := 0, slots := 0, locals := 20 }
def f_X6_isOne_J12 (σ : Sg)  (d : Dt) : Option (Int32 × Dt) :=
  aw_chk (((0 : Int32)) &&& 1 = ((0 : Int32))) (some ((0 : Int32), d))
def f_X6_isOne_J41 (σ : Sg)  (d : Dt) : Option (Int32 × Dt) :=
  aw_chk (((0 : Int32)) &&& 1 = ((0 : Int32))) (some ((0 : Int32), d))
def f_X6_isOne_B21 (σ : Sg) (kb21 : Int32 → Int32 → Dt → Option (Int32 × Dt)) (k21 : Dt → Option (Int32 × Dt)) (x1 : Int32) (x2 : Int32) (d : Dt) : Option (Int32 × Dt) :=
  if x2 ≤ 0 then k21 d else if (x1 - x1 / (10 : Int32) * (10 : Int32)) < ((1 : Int32)) then f_X6_isOne_J41 σ d else if (x1 - x1 / (10 : Int32) * (10 : Int32)) ≤ ((4 : Int32)) then kb21 (x1 / (10 : Int32)) (x2 + (-1)) d else f_X6_isOne_J41 σ d
def f_X6_isOne_L21 (σ : Sg) (n : Nat) (k21 : Dt → Option (Int32 × Dt)) : Int32 → Int32 → Dt → Option (Int32 × Dt) := match n with
  | 0 => fun _ _ _ => none
  | n + 1 => fun x1 x2 d => f_X6_isOne_B21 σ (f_X6_isOne_L21 σ n k21) k21 x1 x2 d
def f_X6_isOne (σ : Sg) (x0 : Int32) (d : Dt) : Option (Int32 × Dt) :=
  if x0 < ((1 : Int32)) then f_X6_isOne_J12 σ d else if x0 ≤ ((9999 : Int32)) then (f_X6_figuresOf σ x0 d).bind (fun z_2 => f_X6_isOne_L21 σ aw_FU (fun d_5 => aw_chk (((1 : Int32)) &&& 1 = ((1 : Int32))) (some ((1 : Int32), d_5))) x0 z_2.1 z_2.2) else f_X6_isOne_J12 σ d
section W_X6_isOne
variable {p : Program} {l : Launch} {e : Env} {s : State} {m : MethodId} {args : Array Value} {below : List Frame} {meth : Method} {c : Code}
variable {D : va_G} {cA : Nat → ClassId} {base : Nat} {ad : Nat → Nat} {σ : Sg}
set_option maxHeartbeats 4000000 in
set_option maxRecDepth 100000 in
theorem w_X6_isOne_J12 {z : Int32 × Dt} (X : aw_X p c cX6_isOne 3 s RX6 m meth (some .boolean))  {d : Dt} (hf : f_X6_isOne_J12 σ d = some z)  {H : Heap} {locs : List Loc} {ls : Array Slot} (hl : lv_has ls 3 []) (G : aw_G D cA base ad σ d s H locs) : W p l e rm_X6_isOne s m args below meth c H locs 0 0 (aw_Ei D cA base ad σ below args s z) (F0 m 12 ls []) := by
  have hx := X.1; have hb := X.2.1; have hml := X.2.2.1; have hown := X.2.2.2.1
  unfold f_X6_isOne_J12 at hf
  refine lv_iconst (v := (0 : Int32)) hx hb dX6_isOne_12 (by decide) ?_
  obtain ⟨hc_1, hf⟩ := aw_chk_some hf
  exact aw_retz X G hc_1 hf dX6_isOne_13
set_option maxHeartbeats 4000000 in
set_option maxRecDepth 100000 in
theorem w_X6_isOne_J41 {z : Int32 × Dt} (X : aw_X p c cX6_isOne 3 s RX6 m meth (some .boolean))  {d : Dt} (hf : f_X6_isOne_J41 σ d = some z)  {H : Heap} {locs : List Loc} {ls : Array Slot} (hl : lv_has ls 3 []) (G : aw_G D cA base ad σ d s H locs) : W p l e rm_X6_isOne s m args below meth c H locs 0 0 (aw_Ei D cA base ad σ below args s z) (F0 m 41 ls []) := by
  have hx := X.1; have hb := X.2.1; have hml := X.2.2.1; have hown := X.2.2.2.1
  unfold f_X6_isOne_J41 at hf
  refine lv_iconst (v := (0 : Int32)) hx hb dX6_isOne_41 (by decide) ?_
  obtain ⟨hc_4, hf⟩ := aw_chk_some hf
  exact aw_retz X G hc_4 hf dX6_isOne_42
set_option maxHeartbeats 4000000 in
set_option maxRecDepth 100000 in
theorem w_X6_isOne_B21 {z : Int32 × Dt} (X : aw_X p c cX6_isOne 3 s RX6 m meth (some .boolean)) {kb21 : Int32 → Int32 → Dt → Option (Int32 × Dt)} {k21 : Dt → Option (Int32 × Dt)} {x1 : Int32} {x2 : Int32} {d : Dt} (hf : f_X6_isOne_B21 σ kb21 k21 x1 x2 d = some z) (hkb21 : ∀ (y1 : Int32) (y2 : Int32) (d : Dt), kb21 y1 y2 d = some z → ∀ (H : Heap) (locs : List Loc) (ls : Array Slot), lv_has ls 3 [(1, .int y1), (2, .int y2)] → aw_G D cA base ad σ d s H locs → W p l e rm_X6_isOne s m args below meth c H locs 0 0 (aw_Ei D cA base ad σ below args s z) (F0 m 21 ls [])) (hk21 : ∀ (d : Dt), k21 d = some z → ∀ (H : Heap) (locs : List Loc) (ls : Array Slot), lv_has ls 3 [] → aw_G D cA base ad σ d s H locs → W p l e rm_X6_isOne s m args below meth c H locs 0 0 (aw_Ei D cA base ad σ below args s z) (F0 m 54 ls [])) {H : Heap} {locs : List Loc} {ls : Array Slot} (hl : lv_has ls 3 [(1, .int x1), (2, .int x2)]) (G : aw_G D cA base ad σ d s H locs) : W p l e rm_X6_isOne s m args below meth c H locs 0 0 (aw_Ei D cA base ad σ below args s z) (F0 m 21 ls []) := by
  have hx := X.1; have hb := X.2.1; have hml := X.2.2.1; have hown := X.2.2.2.1
  unfold f_X6_isOne_B21 at hf
  refine lv_iload_n hx hb dX6_isOne_21 rfl (lv_at hl 1 rfl) ?_
  refine lv_if_le (tgt := 54) hx hb dX6_isOne_22 (by decide) (fun hc => ?_) (fun hc => ?_)
  · have hf := aw_ite_t hc hf
    exact hk21 _ hf _ _ _ (lv_sub hl [] rfl) G
  · have hf := aw_ite_f hc hf
    refine lv_iload_n hx hb dX6_isOne_25 rfl (lv_at hl 0 rfl) ?_
    refine lv_bipush (v := (10 : Int32)) hx hb dX6_isOne_26 (by decide) ?_
    refine lv_irem hx hb dX6_isOne_28 (by decide) ?_
    refine lv_iconst (v := (1 : Int32)) hx hb dX6_isOne_29 (by decide) ?_
    refine lv_icmp_lt (tgt := 41) hx hb dX6_isOne_30 (by decide) (fun hc => ?_) (fun hc => ?_)
    · have hf := aw_ite_t hc hf
      exact w_X6_isOne_J41 X hf  (lv_sub hl [] rfl) G
    · have hf := aw_ite_f hc hf
      refine lv_iload_n hx hb dX6_isOne_33 rfl (lv_at hl 0 rfl) ?_
      refine lv_bipush (v := (10 : Int32)) hx hb dX6_isOne_34 (by decide) ?_
      refine lv_irem hx hb dX6_isOne_36 (by decide) ?_
      refine lv_iconst (v := (4 : Int32)) hx hb dX6_isOne_37 (by decide) ?_
      refine lv_icmp_le (tgt := 43) hx hb dX6_isOne_38 (by decide) (fun hc => ?_) (fun hc => ?_)
      · have hf := aw_ite_t hc hf
        refine lv_iload_n hx hb dX6_isOne_43 rfl (lv_at hl 0 rfl) ?_
        refine lv_bipush (v := (10 : Int32)) hx hb dX6_isOne_44 (by decide) ?_
        refine lv_idiv hx hb dX6_isOne_46 (by decide) ?_
        refine lv_istore_n (lv' := [(1, .int (x1 / (10 : Int32))), (2, .int x2)]) hx hb dX6_isOne_47 rfl hl (by decide) rfl (fun ls hl => ?_)
        refine lv_iinc (v := x2 + (-1)) (lv' := [(2, .int (x2 + (-1))), (1, .int (x1 / (10 : Int32)))]) hx hb dX6_isOne_48 hl (k := 1) rfl rfl (by decide) rfl (fun ls hl => ?_)
        refine lv_goto (tgt := 21) hx hb dX6_isOne_51 (by decide) ?_
        exact hkb21 _ _ _ hf _ _ _ (lv_sub hl [1, 0] rfl) G
      · have hf := aw_ite_f hc hf
        exact w_X6_isOne_J41 X hf  (lv_sub hl [] rfl) G
theorem w_X6_isOne_L21 {z : Int32 × Dt} (X : aw_X p c cX6_isOne 3 s RX6 m meth (some .boolean)) {k21 : Dt → Option (Int32 × Dt)} (n : Nat) {x1 : Int32} {x2 : Int32} {d : Dt} (hf : f_X6_isOne_L21 σ n k21 x1 x2 d = some z) (hk21 : ∀ (d : Dt), k21 d = some z → ∀ (H : Heap) (locs : List Loc) (ls : Array Slot), lv_has ls 3 [] → aw_G D cA base ad σ d s H locs → W p l e rm_X6_isOne s m args below meth c H locs 0 0 (aw_Ei D cA base ad σ below args s z) (F0 m 54 ls [])) {H : Heap} {locs : List Loc} {ls : Array Slot} (hl : lv_has ls 3 [(1, .int x1), (2, .int x2)]) (G : aw_G D cA base ad σ d s H locs) : W p l e rm_X6_isOne s m args below meth c H locs 0 0 (aw_Ei D cA base ad σ below args s z) (F0 m 21 ls []) := by
  induction n generalizing x1 x2 d H locs ls with
  | zero => exact absurd (show (none : Option (Int32 × Dt)) = some z from hf) (by simp)
  | succ n ih => exact w_X6_isOne_B21 X (kb21 := f_X6_isOne_L21 σ n k21) hf  (fun x1 x2 d hf H locs ls hl G => ih hf hl G) hk21 hl G
end W_X6_isOne
set_option maxHeartbeats 4000000 in
set_option maxRecDepth 100000 in
theorem c_X6_isOne (l : Launch) {σ : Sg} {x0 : Int32} {d : Dt} {z : Int32 × Dt} (hf : f_X6_isOne σ x0 d = some z) : aw_Mi l yX6_isOne (Cond.code yX6_isOne cX6_isOne 3 (some .boolean)) rm_X6_isOne (fun ad => [.int x0]) σ d z := by
  intro D cA base ad
  refine aw_ofW (own := RX6) (cc := cX6_isOne) (nL := 3) (ret := some .boolean) (by decide) rfl rfl ?_
  intro p e s m below meth c X hnm G
  have hx := X.1; have hb := X.2.1; have hml := X.2.2.1; have hown := X.2.2.2.1
  refine aw_ls (lv := [(0, .int x0)]) (Nat.le_of_ble_eq_true rfl) rfl (fun ls hl => ?_)
  unfold f_X6_isOne at hf
  refine lv_iload_n hx hb dX6_isOne_0 rfl (lv_at hl 0 rfl) ?_
  refine lv_iconst (v := (1 : Int32)) hx hb dX6_isOne_1 (by decide) ?_
  refine lv_icmp_lt (tgt := 12) hx hb dX6_isOne_2 (by decide) (fun hc => ?_) (fun hc => ?_)
  · have hf := aw_ite_t hc hf
    exact w_X6_isOne_J12 X hf  (lv_sub hl [] rfl) G
  · have hf := aw_ite_f hc hf
    refine lv_iload_n hx hb dX6_isOne_5 rfl (lv_at hl 0 rfl) ?_
    refine lv_sipush (v := (9999 : Int32)) hx hb dX6_isOne_6 (by decide) ?_
    refine lv_icmp_le (tgt := 14) hx hb dX6_isOne_9 (by decide) (fun hc => ?_) (fun hc => ?_)
    · have hf := aw_ite_t hc hf
      refine lv_iload_n hx hb dX6_isOne_14 rfl (lv_at hl 0 rfl) ?_
      refine lv_istore_n (lv' := [(1, .int x0), (0, .int x0)]) hx hb dX6_isOne_15 rfl hl (by decide) rfl (fun ls hl => ?_)
      refine lv_iload_n hx hb dX6_isOne_16 rfl (lv_at hl 1 rfl) ?_
      obtain ⟨z_2, hz_3, hf⟩ := aw_bind_some hf
      refine aw_SI (As := [.int x0]) (rest := []) X G hl.1 cr_X6_34 (c_X6_figuresOf l hz_3) ⟨rfl, rfl⟩ rfl rfl rfl ⟨Nat.le_of_ble_eq_true rfl, Nat.le_of_ble_eq_true rfl⟩ (Nat.le_of_ble_eq_true rfl) dX6_isOne_17 ⟨Nat.zero_le _, Nat.zero_le _⟩ (fun H locs G => ?_)
      refine lv_istore_n (lv' := [(2, .int z_2.1), (1, .int x0), (0, .int x0)]) hx hb dX6_isOne_20 rfl hl (by decide) rfl (fun ls hl => ?_)
      refine w_X6_isOne_L21 X aw_FU hf  (fun d_5 hf H locs ls hl G => ?_) (lv_sub hl [1, 0] rfl) G
      refine lv_iconst (v := (1 : Int32)) hx hb dX6_isOne_54 (by decide) ?_
      obtain ⟨hc_6, hf⟩ := aw_chk_some hf
      exact aw_retz X G hc_6 hf dX6_isOne_55
    · have hf := aw_ite_f hc hf
      exact w_X6_isOne_J12 X hf  (lv_sub hl [] rfl) G
def rm_X6_put : Room := { frames := 1, cells := 0, slots := 0, locals := 20 }
def f_X6_put_B29 (σ : Sg) (kb29 : Int32 → Int32 → Dt → Option (Unit × Dt)) (k29 : Dt → Option (Unit × Dt)) (x0 : Nat) (x1 : Int32) (x3 : Int32) (x4 : Int32) (d : Dt) : Option (Unit × Dt) :=
  if x4 < 0 then k29 d else aw_chk (aw_O σ 6 4 x0) ((σ.2.2 x0 2).bind (fun q_11 => aw_chk (aw_I σ 23 q_11 x1) ((σ.2.2 q_11 x1.toNatClampNeg).bind (fun q_14 => aw_chk (aw_I σ 20 q_14 x4) (kb29 (x3 / (10 : Int32)) (x4 + (-1)) (aw_sI d q_14 x4.toNatClampNeg (x3 - x3 / (10 : Int32) * (10 : Int32))))))))
def f_X6_put_L29 (σ : Sg) (n : Nat) (k29 : Dt → Option (Unit × Dt)) (x0 : Nat) (x1 : Int32) : Int32 → Int32 → Dt → Option (Unit × Dt) := match n with
  | 0 => fun _ _ _ => none
  | n + 1 => fun x3 x4 d => f_X6_put_B29 σ (f_X6_put_L29 σ n k29 x0 x1) k29 x0 x1 x3 x4 d
def f_X6_put (σ : Sg) (x0 : Nat) (x1 : Int32) (x2 : Int32) (d : Dt) : Option (Unit × Dt) :=
  aw_chk (aw_O σ 6 4 x0) ((σ.2.2 x0 1).bind (fun q_2 => aw_chk (aw_I σ 20 q_2 x1) ((σ.2.2 x0 3).bind (fun q_5 => (f_X6_figuresOf σ x2 (aw_sI d q_2 x1.toNatClampNeg x2)).bind (fun z_7 => aw_chk (aw_I σ 20 q_5 x1) (f_X6_put_L29 σ aw_FU (fun d_17 => some ((), d_17)) x0 x1 x2 (((aw_sI z_7.2 q_5 x1.toNatClampNeg z_7.1).1 q_5 x1.toNatClampNeg) - ((1 : Int32))) (aw_sI z_7.2 q_5 x1.toNatClampNeg z_7.1)))))))
section W_X6_put
variable {p : Program} {l : Launch} {e : Env} {s : State} {m : MethodId} {args : Array Value} {below : List Frame} {meth : Method} {c : Code}
variable {D : va_G} {cA : Nat → ClassId} {base : Nat} {ad : Nat → Nat} {σ : Sg}
set_option maxHeartbeats 4000000 in
set_option maxRecDepth 100000 in
theorem w_X6_put_B29 {z : Unit × Dt} (X : aw_X p c cX6_put 5 s RX6 m meth (none)) {kb29 : Int32 → Int32 → Dt → Option (Unit × Dt)} {k29 : Dt → Option (Unit × Dt)} {x0 : Nat} {x1 : Int32} {x3 : Int32} {x4 : Int32} {d : Dt} (hf : f_X6_put_B29 σ kb29 k29 x0 x1 x3 x4 d = some z) (hkb29 : ∀ (y3 : Int32) (y4 : Int32) (d : Dt), kb29 y3 y4 d = some z → ∀ (H : Heap) (locs : List Loc) (ls : Array Slot), lv_has ls 5 [(0, .ref (ad x0)), (1, .int x1), (3, .int y3), (4, .int y4)] → aw_G D cA base ad σ d s H locs → W p l e rm_X6_put s m args below meth c H locs 0 0 (aw_Ev D cA base ad σ below args s z) (F0 m 29 ls [])) (hk29 : ∀ (d : Dt), k29 d = some z → ∀ (H : Heap) (locs : List Loc) (ls : Array Slot), lv_has ls 5 [] → aw_G D cA base ad σ d s H locs → W p l e rm_X6_put s m args below meth c H locs 0 0 (aw_Ev D cA base ad σ below args s z) (F0 m 58 ls [])) {H : Heap} {locs : List Loc} {ls : Array Slot} (hl : lv_has ls 5 [(0, .ref (ad x0)), (1, .int x1), (3, .int x3), (4, .int x4)]) (G : aw_G D cA base ad σ d s H locs) : W p l e rm_X6_put s m args below meth c H locs 0 0 (aw_Ev D cA base ad σ below args s z) (F0 m 29 ls []) := by
  have hx := X.1; have hb := X.2.1; have hml := X.2.2.1; have hown := X.2.2.2.1
  unfold f_X6_put_B29 at hf
  refine lv_iload hx hb dX6_put_29 (lv_at hl 3 rfl) ?_
  refine lv_if_lt (tgt := 58) hx hb dX6_put_31 (by decide) (fun hc => ?_) (fun hc => ?_)
  · have hf := aw_ite_t hc hf
    exact hk29 _ hf _ _ _ (lv_sub hl [] rfl) G
  · have hf := aw_ite_f hc hf
    refine lv_aload_n hx hb dX6_put_34 rfl (lv_at hl 0 rfl) ?_
    obtain ⟨hc_10, hf⟩ := aw_chk_some hf
    obtain ⟨q_11, hq_12, hf⟩ := aw_bind_some hf
    refine gf_X6_24 hx hb G hown hc_10 hq_12 dX6_put_35 ?_
    refine lv_iload_n hx hb dX6_put_38 rfl (lv_at hl 1 rfl) ?_
    obtain ⟨hc_13, hf⟩ := aw_chk_some hf
    obtain ⟨q_14, hq_15, hf⟩ := aw_bind_some hf
    refine aw_qal hx hb G 23 _ rfl rfl (by decide) hc_13 hq_15 dX6_put_39 ?_
    refine lv_iload hx hb dX6_put_40 (lv_at hl 3 rfl) ?_
    refine lv_iload_n hx hb dX6_put_42 rfl (lv_at hl 2 rfl) ?_
    refine lv_bipush (v := (10 : Int32)) hx hb dX6_put_43 (by decide) ?_
    refine lv_irem hx hb dX6_put_45 (by decide) ?_
    obtain ⟨hc_16, hf⟩ := aw_chk_some hf
    refine aw_ias hx hb G hc_16 dX6_put_46 (fun H locs G => ?_)
    refine lv_iload_n hx hb dX6_put_47 rfl (lv_at hl 2 rfl) ?_
    refine lv_bipush (v := (10 : Int32)) hx hb dX6_put_48 (by decide) ?_
    refine lv_idiv hx hb dX6_put_50 (by decide) ?_
    refine lv_istore_n (lv' := [(3, .int (x3 / (10 : Int32))), (0, .ref (ad x0)), (1, .int x1), (4, .int x4)]) hx hb dX6_put_51 rfl hl (by decide) rfl (fun ls hl => ?_)
    refine lv_iinc (v := x4 + (-1)) (lv' := [(4, .int (x4 + (-1))), (3, .int (x3 / (10 : Int32))), (0, .ref (ad x0)), (1, .int x1)]) hx hb dX6_put_52 hl (k := 3) rfl rfl (by decide) rfl (fun ls hl => ?_)
    refine lv_goto (tgt := 29) hx hb dX6_put_55 (by decide) ?_
    exact hkb29 _ _ _ hf _ _ _ (lv_sub hl [2, 3, 1, 0] rfl) G
theorem w_X6_put_L29 {z : Unit × Dt} (X : aw_X p c cX6_put 5 s RX6 m meth (none)) {k29 : Dt → Option (Unit × Dt)} {x0 : Nat} {x1 : Int32} (n : Nat) {x3 : Int32} {x4 : Int32} {d : Dt} (hf : f_X6_put_L29 σ n k29 x0 x1 x3 x4 d = some z) (hk29 : ∀ (d : Dt), k29 d = some z → ∀ (H : Heap) (locs : List Loc) (ls : Array Slot), lv_has ls 5 [] → aw_G D cA base ad σ d s H locs → W p l e rm_X6_put s m args below meth c H locs 0 0 (aw_Ev D cA base ad σ below args s z) (F0 m 58 ls [])) {H : Heap} {locs : List Loc} {ls : Array Slot} (hl : lv_has ls 5 [(0, .ref (ad x0)), (1, .int x1), (3, .int x3), (4, .int x4)]) (G : aw_G D cA base ad σ d s H locs) : W p l e rm_X6_put s m args below meth c H locs 0 0 (aw_Ev D cA base ad σ below args s z) (F0 m 29 ls []) := by
  induction n generalizing x3 x4 d H locs ls with
  | zero => exact absurd (show (none : Option (Unit × Dt)) = some z from hf) (by simp)
  | succ n ih => exact w_X6_put_B29 X (kb29 := f_X6_put_L29 σ n k29 x0 x1) hf  (fun x3 x4 d hf H locs ls hl G => ih hf hl G) hk29 hl G
end W_X6_put
set_option maxHeartbeats 4000000 in
set_option maxRecDepth 100000 in
theorem c_X6_put (l : Launch) {σ : Sg} {x0 : Nat} {x1 : Int32} {x2 : Int32} {d : Dt} {z : Unit × Dt} (hf : f_X6_put σ x0 x1 x2 d = some z) : aw_Mv l yX6_put (Cond.code yX6_put cX6_put 5 (none)) rm_X6_put (fun ad => [.ref (ad x0), .int x1, .int x2]) σ d z := by
  intro D cA base ad
  refine aw_ofW (own := RX6) (cc := cX6_put) (nL := 5) (ret := none) (by decide) rfl rfl ?_
  intro p e s m below meth c X hnm G
  have hx := X.1; have hb := X.2.1; have hml := X.2.2.1; have hown := X.2.2.2.1
  refine aw_ls (lv := [(0, .ref (ad x0)), (1, .int x1), (2, .int x2)]) (Nat.le_of_ble_eq_true rfl) rfl (fun ls hl => ?_)
  unfold f_X6_put at hf
  refine lv_aload_n hx hb dX6_put_0 rfl (lv_at hl 0 rfl) ?_
  obtain ⟨hc_1, hf⟩ := aw_chk_some hf
  obtain ⟨q_2, hq_3, hf⟩ := aw_bind_some hf
  refine gf_X6_18 hx hb G hown hc_1 hq_3 dX6_put_1 ?_
  refine lv_iload_n hx hb dX6_put_4 rfl (lv_at hl 1 rfl) ?_
  refine lv_iload_n hx hb dX6_put_5 rfl (lv_at hl 2 rfl) ?_
  obtain ⟨hc_4, hf⟩ := aw_chk_some hf
  refine aw_ias hx hb G hc_4 dX6_put_6 (fun H locs G => ?_)
  refine lv_aload_n hx hb dX6_put_7 rfl (lv_at hl 0 rfl) ?_
  obtain ⟨q_5, hq_6, hf⟩ := aw_bind_some hf
  refine gf_X6_27 hx hb G hown hc_1 hq_6 dX6_put_8 ?_
  refine lv_iload_n hx hb dX6_put_11 rfl (lv_at hl 1 rfl) ?_
  refine lv_iload_n hx hb dX6_put_12 rfl (lv_at hl 2 rfl) ?_
  obtain ⟨z_7, hz_8, hf⟩ := aw_bind_some hf
  refine aw_SI (As := [.int x2]) (rest := [.int x1, .ref (ad q_5)]) X G hl.1 cr_X6_34 (c_X6_figuresOf l hz_8) ⟨rfl, rfl⟩ rfl rfl rfl ⟨Nat.le_of_ble_eq_true rfl, Nat.le_of_ble_eq_true rfl⟩ (Nat.le_of_ble_eq_true rfl) dX6_put_13 ⟨Nat.zero_le _, Nat.zero_le _⟩ (fun H locs G => ?_)
  obtain ⟨hc_9, hf⟩ := aw_chk_some hf
  refine aw_ias hx hb G hc_9 dX6_put_16 (fun H locs G => ?_)
  refine lv_iload_n hx hb dX6_put_17 rfl (lv_at hl 2 rfl) ?_
  refine lv_istore_n (lv' := [(3, .int x2), (0, .ref (ad x0)), (1, .int x1), (2, .int x2)]) hx hb dX6_put_18 rfl hl (by decide) rfl (fun ls hl => ?_)
  refine lv_aload_n hx hb dX6_put_19 rfl (lv_at hl 1 rfl) ?_
  refine gf_X6_27 hx hb G hown hc_1 hq_6 dX6_put_20 ?_
  refine lv_iload_n hx hb dX6_put_23 rfl (lv_at hl 2 rfl) ?_
  refine aw_ial hx hb G hc_9 dX6_put_24 ?_
  refine lv_iconst (v := (1 : Int32)) hx hb dX6_put_25 (by decide) ?_
  refine lv_isub hx hb dX6_put_26 ?_
  refine lv_istore (lv' := [(4, .int (((aw_sI z_7.2 q_5 x1.toNatClampNeg z_7.1).1 q_5 x1.toNatClampNeg) - ((1 : Int32)))), (3, .int x2), (0, .ref (ad x0)), (1, .int x1), (2, .int x2)]) hx hb dX6_put_27 hl (by decide) rfl (fun ls hl => ?_)
  refine w_X6_put_L29 X aw_FU hf  (fun d_17 hf H locs ls hl G => ?_) (lv_sub hl [2, 3, 1, 0] rfl) G
  exact aw_retv X G hf dX6_put_58
def rm_X8_between : Room := { frames := 1, cells := 0, slots := 0, locals := 21 }
def f_X8_between_B3 (σ : Sg) (kb3 : Int32 → Dt → Option (Int32 × Dt)) (k3 : Dt → Option (Int32 × Dt)) (x0 : Nat) (x1 : Nat) (x2 : Int32) (x3 : Nat) (x4 : Int32) (x5 : Int32) (d : Dt) : Option (Int32 × Dt) :=
  if x4 < x5 then k3 d else aw_chk (aw_O σ 8 1 x0) ((σ.2.2 x0 0).bind (fun q_2 => aw_chk (aw_I σ 20 q_2 x5) (kb3 (x5 + 1) (aw_sI d q_2 x5.toNatClampNeg x5))))
def f_X8_between_L3 (σ : Sg) (n : Nat) (k3 : Dt → Option (Int32 × Dt)) (x0 : Nat) (x1 : Nat) (x2 : Int32) (x3 : Nat) (x4 : Int32) : Int32 → Dt → Option (Int32 × Dt) := match n with
  | 0 => fun _ _ => none
  | n + 1 => fun x5 d => f_X8_between_B3 σ (f_X8_between_L3 σ n k3 x0 x1 x2 x3 x4) k3 x0 x1 x2 x3 x4 x5 d
def f_X8_between_J84 (σ : Sg) (kb53 : Int32 → Int32 → Dt → Option (Int32 × Dt)) (t0 : Int32) (x0 : Nat) (x1 : Nat) (x2 : Int32) (x3 : Nat) (x4 : Int32) (x5 : Int32) (x7 : Int32) (d : Dt) : Option (Int32 × Dt) :=
  aw_chk (aw_O σ 8 1 x0) ((σ.2.2 x0 0).bind (fun q_13 => aw_chk (aw_I σ 20 q_13 x7) (aw_chk (aw_I σ 20 q_13 (x7 - ((1 : Int32)))) (kb53 (d.1 q_13 x7.toNatClampNeg) (x7 + 1) (aw_sI d q_13 x7.toNatClampNeg (if (((1 : Int32)) + (if (d.1 q_13 (x7 - ((1 : Int32))).toNatClampNeg) < (d.1 q_13 x7.toNatClampNeg) then (d.1 q_13 (x7 - ((1 : Int32))).toNatClampNeg) else (d.1 q_13 x7.toNatClampNeg))) < t0 then (((1 : Int32)) + (if (d.1 q_13 (x7 - ((1 : Int32))).toNatClampNeg) < (d.1 q_13 x7.toNatClampNeg) then (d.1 q_13 (x7 - ((1 : Int32))).toNatClampNeg) else (d.1 q_13 x7.toNatClampNeg))) else t0))))))
def f_X8_between_B53 (σ : Sg) (kb53 : Int32 → Int32 → Dt → Option (Int32 × Dt)) (k53 : Dt → Option (Int32 × Dt)) (x0 : Nat) (x1 : Nat) (x2 : Int32) (x3 : Nat) (x4 : Int32) (x5 : Int32) (x6 : Int32) (x7 : Int32) (d : Dt) : Option (Int32 × Dt) :=
  if x4 < x7 then k53 d else aw_chk (aw_I σ 20 x1 (x5 - ((1 : Int32)))) (aw_chk (aw_I σ 20 x3 (x7 - ((1 : Int32)))) (if (d.1 x1 (x5 - ((1 : Int32))).toNatClampNeg) = (d.1 x3 (x7 - ((1 : Int32))).toNatClampNeg) then f_X8_between_J84 σ kb53 x6 x0 x1 x2 x3 x4 x5 x7 d else f_X8_between_J84 σ kb53 (x6 + ((1 : Int32))) x0 x1 x2 x3 x4 x5 x7 d))
def f_X8_between_L53 (σ : Sg) (n : Nat) (k53 : Dt → Option (Int32 × Dt)) (x0 : Nat) (x1 : Nat) (x2 : Int32) (x3 : Nat) (x4 : Int32) (x5 : Int32) : Int32 → Int32 → Dt → Option (Int32 × Dt) := match n with
  | 0 => fun _ _ _ => none
  | n + 1 => fun x6 x7 d => f_X8_between_B53 σ (f_X8_between_L53 σ n k53 x0 x1 x2 x3 x4 x5) k53 x0 x1 x2 x3 x4 x5 x6 x7 d
def f_X8_between_B28 (σ : Sg) (kb28 : Int32 → Dt → Option (Int32 × Dt)) (k28 : Dt → Option (Int32 × Dt)) (x0 : Nat) (x1 : Nat) (x2 : Int32) (x3 : Nat) (x4 : Int32) (x5 : Int32) (d : Dt) : Option (Int32 × Dt) :=
  if x2 < x5 then k28 d else aw_chk (aw_O σ 8 1 x0) ((σ.2.2 x0 0).bind (fun q_7 => aw_chk (aw_I σ 20 q_7 ((0 : Int32))) (f_X8_between_L53 σ aw_FU (fun d_17 => kb28 (x5 + 1) d_17) x0 x1 x2 x3 x4 x5 (d.1 q_7 ((0 : Int32)).toNatClampNeg) ((1 : Int32)) (aw_sI d q_7 ((0 : Int32)).toNatClampNeg x5))))
def f_X8_between_L28 (σ : Sg) (n : Nat) (k28 : Dt → Option (Int32 × Dt)) (x0 : Nat) (x1 : Nat) (x2 : Int32) (x3 : Nat) (x4 : Int32) : Int32 → Dt → Option (Int32 × Dt) := match n with
  | 0 => fun _ _ => none
  | n + 1 => fun x5 d => f_X8_between_B28 σ (f_X8_between_L28 σ n k28 x0 x1 x2 x3 x4) k28 x0 x1 x2 x3 x4 x5 d
def f_X8_between (σ : Sg) (x0 : Nat) (x1 : Nat) (x2 : Int32) (x3 : Nat) (x4 : Int32) (d : Dt) : Option (Int32 × Dt) :=
  f_X8_between_L3 σ aw_FU (fun d_5 => f_X8_between_L28 σ aw_FU (fun d_18 => aw_chk (aw_O σ 8 1 x0) ((σ.2.2 x0 0).bind (fun q_20 => aw_chk (aw_I σ 20 q_20 x4) (some (d_18.1 q_20 x4.toNatClampNeg, d_18))))) x0 x1 x2 x3 x4 ((1 : Int32)) d_5) x0 x1 x2 x3 x4 ((0 : Int32)) d
section W_X8_between
variable {p : Program} {l : Launch} {e : Env} {s : State} {m : MethodId} {args : Array Value} {below : List Frame} {meth : Method} {c : Code}
variable {D : va_G} {cA : Nat → ClassId} {base : Nat} {ad : Nat → Nat} {σ : Sg}
set_option maxHeartbeats 4000000 in
set_option maxRecDepth 100000 in
theorem w_X8_between_B3 {z : Int32 × Dt} (X : aw_X p c cX8_between 9 s RX8 m meth (some .int)) {kb3 : Int32 → Dt → Option (Int32 × Dt)} {k3 : Dt → Option (Int32 × Dt)} {x0 : Nat} {x1 : Nat} {x2 : Int32} {x3 : Nat} {x4 : Int32} {x5 : Int32} {d : Dt} (hf : f_X8_between_B3 σ kb3 k3 x0 x1 x2 x3 x4 x5 d = some z) (hkb3 : ∀ (y5 : Int32) (d : Dt), kb3 y5 d = some z → ∀ (H : Heap) (locs : List Loc) (ls : Array Slot), lv_has ls 9 [(0, .ref (ad x0)), (1, .ref (ad x1)), (2, .int x2), (3, .ref (ad x3)), (4, .int x4), (5, .int y5)] → aw_G D cA base ad σ d s H locs → W p l e rm_X8_between s m args below meth c H locs 0 0 (aw_Ei D cA base ad σ below args s z) (F0 m 3 ls [])) (hk3 : ∀ (d : Dt), k3 d = some z → ∀ (H : Heap) (locs : List Loc) (ls : Array Slot), lv_has ls 9 [(0, .ref (ad x0)), (1, .ref (ad x1)), (2, .int x2), (3, .ref (ad x3)), (4, .int x4)] → aw_G D cA base ad σ d s H locs → W p l e rm_X8_between s m args below meth c H locs 0 0 (aw_Ei D cA base ad σ below args s z) (F0 m 25 ls [])) {H : Heap} {locs : List Loc} {ls : Array Slot} (hl : lv_has ls 9 [(0, .ref (ad x0)), (1, .ref (ad x1)), (2, .int x2), (3, .ref (ad x3)), (4, .int x4), (5, .int x5)]) (G : aw_G D cA base ad σ d s H locs) : W p l e rm_X8_between s m args below meth c H locs 0 0 (aw_Ei D cA base ad σ below args s z) (F0 m 3 ls []) := by
  have hx := X.1; have hb := X.2.1; have hml := X.2.2.1; have hown := X.2.2.2.1
  unfold f_X8_between_B3 at hf
  refine lv_iload hx hb dX8_between_3 (lv_at hl 5 rfl) ?_
  refine lv_iload hx hb dX8_between_5 (lv_at hl 4 rfl) ?_
  refine lv_icmp_gt (tgt := 25) hx hb dX8_between_7 (by decide) (fun hc => ?_) (fun hc => ?_)
  · have hf := aw_ite_t hc hf
    exact hk3 _ hf _ _ _ (lv_sub hl [0, 1, 2, 3, 4] rfl) G
  · have hf := aw_ite_f hc hf
    refine lv_aload_n hx hb dX8_between_10 rfl (lv_at hl 0 rfl) ?_
    obtain ⟨hc_1, hf⟩ := aw_chk_some hf
    obtain ⟨q_2, hq_3, hf⟩ := aw_bind_some hf
    refine gf_X8_9 hx hb G hown hc_1 hq_3 dX8_between_11 ?_
    refine lv_iload hx hb dX8_between_14 (lv_at hl 5 rfl) ?_
    refine lv_iload hx hb dX8_between_16 (lv_at hl 5 rfl) ?_
    obtain ⟨hc_4, hf⟩ := aw_chk_some hf
    refine aw_ias hx hb G hc_4 dX8_between_18 (fun H locs G => ?_)
    refine lv_iinc (v := x5 + 1) (lv' := [(5, .int (x5 + 1)), (0, .ref (ad x0)), (1, .ref (ad x1)), (2, .int x2), (3, .ref (ad x3)), (4, .int x4)]) hx hb dX8_between_19 hl (k := 5) rfl rfl (by decide) rfl (fun ls hl => ?_)
    refine lv_goto (tgt := 3) hx hb dX8_between_22 (by decide) ?_
    exact hkb3 _ _ hf _ _ _ (lv_sub hl [1, 2, 3, 4, 5, 0] rfl) G
theorem w_X8_between_L3 {z : Int32 × Dt} (X : aw_X p c cX8_between 9 s RX8 m meth (some .int)) {k3 : Dt → Option (Int32 × Dt)} {x0 : Nat} {x1 : Nat} {x2 : Int32} {x3 : Nat} {x4 : Int32} (n : Nat) {x5 : Int32} {d : Dt} (hf : f_X8_between_L3 σ n k3 x0 x1 x2 x3 x4 x5 d = some z) (hk3 : ∀ (d : Dt), k3 d = some z → ∀ (H : Heap) (locs : List Loc) (ls : Array Slot), lv_has ls 9 [(0, .ref (ad x0)), (1, .ref (ad x1)), (2, .int x2), (3, .ref (ad x3)), (4, .int x4)] → aw_G D cA base ad σ d s H locs → W p l e rm_X8_between s m args below meth c H locs 0 0 (aw_Ei D cA base ad σ below args s z) (F0 m 25 ls [])) {H : Heap} {locs : List Loc} {ls : Array Slot} (hl : lv_has ls 9 [(0, .ref (ad x0)), (1, .ref (ad x1)), (2, .int x2), (3, .ref (ad x3)), (4, .int x4), (5, .int x5)]) (G : aw_G D cA base ad σ d s H locs) : W p l e rm_X8_between s m args below meth c H locs 0 0 (aw_Ei D cA base ad σ below args s z) (F0 m 3 ls []) := by
  induction n generalizing x5 d H locs ls with
  | zero => exact absurd (show (none : Option (Int32 × Dt)) = some z from hf) (by simp)
  | succ n ih => exact w_X8_between_B3 X (kb3 := f_X8_between_L3 σ n k3 x0 x1 x2 x3 x4) hf  (fun x5 d hf H locs ls hl G => ih hf hl G) hk3 hl G
set_option maxHeartbeats 4000000 in
set_option maxRecDepth 100000 in
theorem w_X8_between_J84 {z : Int32 × Dt} (X : aw_X p c cX8_between 9 s RX8 m meth (some .int)) {kb53 : Int32 → Int32 → Dt → Option (Int32 × Dt)} {t0 : Int32} {x0 : Nat} {x1 : Nat} {x2 : Int32} {x3 : Nat} {x4 : Int32} {x5 : Int32} {x7 : Int32} {d : Dt} (hf : f_X8_between_J84 σ kb53 t0 x0 x1 x2 x3 x4 x5 x7 d = some z) (hkb53 : ∀ (y6 : Int32) (y7 : Int32) (d : Dt), kb53 y6 y7 d = some z → ∀ (H : Heap) (locs : List Loc) (ls : Array Slot), lv_has ls 9 [(0, .ref (ad x0)), (1, .ref (ad x1)), (2, .int x2), (3, .ref (ad x3)), (4, .int x4), (5, .int x5), (6, .int y6), (7, .int y7)] → aw_G D cA base ad σ d s H locs → W p l e rm_X8_between s m args below meth c H locs 0 0 (aw_Ei D cA base ad σ below args s z) (F0 m 53 ls [])) {H : Heap} {locs : List Loc} {ls : Array Slot} (hl : lv_has ls 9 [(0, .ref (ad x0)), (1, .ref (ad x1)), (2, .int x2), (3, .ref (ad x3)), (4, .int x4), (5, .int x5), (7, .int x7)]) (G : aw_G D cA base ad σ d s H locs) : W p l e rm_X8_between s m args below meth c H locs 0 0 (aw_Ei D cA base ad σ below args s z) (F0 m 84 ls [.int t0]) := by
  have hx := X.1; have hb := X.2.1; have hml := X.2.2.1; have hown := X.2.2.2.1
  unfold f_X8_between_J84 at hf
  refine lv_istore (lv' := [(8, .int t0), (0, .ref (ad x0)), (1, .ref (ad x1)), (2, .int x2), (3, .ref (ad x3)), (4, .int x4), (5, .int x5), (7, .int x7)]) hx hb dX8_between_84 hl (by decide) rfl (fun ls hl => ?_)
  refine lv_aload_n hx hb dX8_between_86 rfl (lv_at hl 1 rfl) ?_
  obtain ⟨hc_12, hf⟩ := aw_chk_some hf
  obtain ⟨q_13, hq_14, hf⟩ := aw_bind_some hf
  refine gf_X8_9 hx hb G hown hc_12 hq_14 dX8_between_87 ?_
  refine lv_iload hx hb dX8_between_90 (lv_at hl 7 rfl) ?_
  obtain ⟨hc_15, hf⟩ := aw_chk_some hf
  refine aw_ial hx hb G hc_15 dX8_between_92 ?_
  refine lv_istore (lv' := [(6, .int (d.1 q_13 x7.toNatClampNeg)), (8, .int t0), (0, .ref (ad x0)), (1, .ref (ad x1)), (2, .int x2), (3, .ref (ad x3)), (4, .int x4), (5, .int x5), (7, .int x7)]) hx hb dX8_between_93 hl (by decide) rfl (fun ls hl => ?_)
  refine lv_aload_n hx hb dX8_between_95 rfl (lv_at hl 2 rfl) ?_
  refine gf_X8_9 hx hb G hown hc_12 hq_14 dX8_between_96 ?_
  refine lv_iload hx hb dX8_between_99 (lv_at hl 8 rfl) ?_
  refine lv_iload hx hb dX8_between_101 (lv_at hl 1 rfl) ?_
  refine lv_iconst (v := (1 : Int32)) hx hb dX8_between_103 (by decide) ?_
  refine lv_aload_n hx hb dX8_between_104 rfl (lv_at hl 2 rfl) ?_
  refine gf_X8_9 hx hb G hown hc_12 hq_14 dX8_between_105 ?_
  refine lv_iload hx hb dX8_between_108 (lv_at hl 8 rfl) ?_
  refine aw_ial hx hb G hc_15 dX8_between_110 ?_
  refine lv_aload_n hx hb dX8_between_111 rfl (lv_at hl 2 rfl) ?_
  refine gf_X8_9 hx hb G hown hc_12 hq_14 dX8_between_112 ?_
  refine lv_iload hx hb dX8_between_115 (lv_at hl 8 rfl) ?_
  refine lv_iconst (v := (1 : Int32)) hx hb dX8_between_117 (by decide) ?_
  refine lv_isub hx hb dX8_between_118 ?_
  obtain ⟨hc_16, hf⟩ := aw_chk_some hf
  refine aw_ial hx hb G hc_16 dX8_between_119 ?_
  refine va_mmin hx hb (hml.trans hl.1.symm) hown (G.1.hts _ m_664) (G.1.hts _ m_631) (G.1.hts _ m_19) (G.1.hts _ m_632) (Nat.le_of_ble_eq_true rfl) (Nat.le_of_ble_eq_true rfl) (Nat.zero_le _) (Nat.zero_le _) dX8_between_120 ?_
  refine lv_iadd hx hb dX8_between_123 ?_
  refine va_mmin hx hb (hml.trans hl.1.symm) hown (G.1.hts _ m_664) (G.1.hts _ m_631) (G.1.hts _ m_19) (G.1.hts _ m_632) (Nat.le_of_ble_eq_true rfl) (Nat.le_of_ble_eq_true rfl) (Nat.zero_le _) (Nat.zero_le _) dX8_between_124 ?_
  refine aw_ias hx hb G hc_15 dX8_between_127 (fun H locs G => ?_)
  refine lv_iinc (v := x7 + 1) (lv' := [(7, .int (x7 + 1)), (6, .int (d.1 q_13 x7.toNatClampNeg)), (8, .int t0), (0, .ref (ad x0)), (1, .ref (ad x1)), (2, .int x2), (3, .ref (ad x3)), (4, .int x4), (5, .int x5)]) hx hb dX8_between_128 hl (k := 8) rfl rfl (by decide) rfl (fun ls hl => ?_)
  refine lv_goto (tgt := 53) hx hb dX8_between_131 (by decide) ?_
  exact hkb53 _ _ _ hf _ _ _ (lv_sub hl [3, 4, 5, 6, 7, 8, 1, 0] rfl) G
set_option maxHeartbeats 4000000 in
set_option maxRecDepth 100000 in
theorem w_X8_between_B53 {z : Int32 × Dt} (X : aw_X p c cX8_between 9 s RX8 m meth (some .int)) {kb53 : Int32 → Int32 → Dt → Option (Int32 × Dt)} {k53 : Dt → Option (Int32 × Dt)} {x0 : Nat} {x1 : Nat} {x2 : Int32} {x3 : Nat} {x4 : Int32} {x5 : Int32} {x6 : Int32} {x7 : Int32} {d : Dt} (hf : f_X8_between_B53 σ kb53 k53 x0 x1 x2 x3 x4 x5 x6 x7 d = some z) (hkb53 : ∀ (y6 : Int32) (y7 : Int32) (d : Dt), kb53 y6 y7 d = some z → ∀ (H : Heap) (locs : List Loc) (ls : Array Slot), lv_has ls 9 [(0, .ref (ad x0)), (1, .ref (ad x1)), (2, .int x2), (3, .ref (ad x3)), (4, .int x4), (5, .int x5), (6, .int y6), (7, .int y7)] → aw_G D cA base ad σ d s H locs → W p l e rm_X8_between s m args below meth c H locs 0 0 (aw_Ei D cA base ad σ below args s z) (F0 m 53 ls [])) (hk53 : ∀ (d : Dt), k53 d = some z → ∀ (H : Heap) (locs : List Loc) (ls : Array Slot), lv_has ls 9 [(0, .ref (ad x0)), (1, .ref (ad x1)), (2, .int x2), (3, .ref (ad x3)), (4, .int x4), (5, .int x5)] → aw_G D cA base ad σ d s H locs → W p l e rm_X8_between s m args below meth c H locs 0 0 (aw_Ei D cA base ad σ below args s z) (F0 m 134 ls [])) {H : Heap} {locs : List Loc} {ls : Array Slot} (hl : lv_has ls 9 [(0, .ref (ad x0)), (1, .ref (ad x1)), (2, .int x2), (3, .ref (ad x3)), (4, .int x4), (5, .int x5), (6, .int x6), (7, .int x7)]) (G : aw_G D cA base ad σ d s H locs) : W p l e rm_X8_between s m args below meth c H locs 0 0 (aw_Ei D cA base ad σ below args s z) (F0 m 53 ls []) := by
  have hx := X.1; have hb := X.2.1; have hml := X.2.2.1; have hown := X.2.2.2.1
  unfold f_X8_between_B53 at hf
  refine lv_iload hx hb dX8_between_53 (lv_at hl 7 rfl) ?_
  refine lv_iload hx hb dX8_between_55 (lv_at hl 4 rfl) ?_
  refine lv_icmp_gt (tgt := 134) hx hb dX8_between_57 (by decide) (fun hc => ?_) (fun hc => ?_)
  · have hf := aw_ite_t hc hf
    exact hk53 _ hf _ _ _ (lv_sub hl [0, 1, 2, 3, 4, 5] rfl) G
  · have hf := aw_ite_f hc hf
    refine lv_aload_n hx hb dX8_between_60 rfl (lv_at hl 1 rfl) ?_
    refine lv_iload hx hb dX8_between_61 (lv_at hl 5 rfl) ?_
    refine lv_iconst (v := (1 : Int32)) hx hb dX8_between_63 (by decide) ?_
    refine lv_isub hx hb dX8_between_64 ?_
    obtain ⟨hc_10, hf⟩ := aw_chk_some hf
    refine aw_ial hx hb G hc_10 dX8_between_65 ?_
    refine lv_aload_n hx hb dX8_between_66 rfl (lv_at hl 3 rfl) ?_
    refine lv_iload hx hb dX8_between_67 (lv_at hl 7 rfl) ?_
    refine lv_iconst (v := (1 : Int32)) hx hb dX8_between_69 (by decide) ?_
    refine lv_isub hx hb dX8_between_70 ?_
    obtain ⟨hc_11, hf⟩ := aw_chk_some hf
    refine aw_ial hx hb G hc_11 dX8_between_71 ?_
    refine lv_icmp_ne (tgt := 80) hx hb dX8_between_72 (by decide) (fun hc => ?_) (fun hc => ?_)
    · have hf := aw_ite_f hc hf
      refine lv_iload hx hb dX8_between_80 (lv_at hl 6 rfl) ?_
      refine lv_iconst (v := (1 : Int32)) hx hb dX8_between_82 (by decide) ?_
      refine lv_iadd hx hb dX8_between_83 ?_
      exact w_X8_between_J84 X hf hkb53 (lv_sub hl [0, 1, 2, 3, 4, 5, 7] rfl) G
    · have hf := aw_ite_t hc hf
      refine lv_iload hx hb dX8_between_75 (lv_at hl 6 rfl) ?_
      refine lv_goto (tgt := 84) hx hb dX8_between_77 (by decide) ?_
      exact w_X8_between_J84 X hf hkb53 (lv_sub hl [0, 1, 2, 3, 4, 5, 7] rfl) G
theorem w_X8_between_L53 {z : Int32 × Dt} (X : aw_X p c cX8_between 9 s RX8 m meth (some .int)) {k53 : Dt → Option (Int32 × Dt)} {x0 : Nat} {x1 : Nat} {x2 : Int32} {x3 : Nat} {x4 : Int32} {x5 : Int32} (n : Nat) {x6 : Int32} {x7 : Int32} {d : Dt} (hf : f_X8_between_L53 σ n k53 x0 x1 x2 x3 x4 x5 x6 x7 d = some z) (hk53 : ∀ (d : Dt), k53 d = some z → ∀ (H : Heap) (locs : List Loc) (ls : Array Slot), lv_has ls 9 [(0, .ref (ad x0)), (1, .ref (ad x1)), (2, .int x2), (3, .ref (ad x3)), (4, .int x4), (5, .int x5)] → aw_G D cA base ad σ d s H locs → W p l e rm_X8_between s m args below meth c H locs 0 0 (aw_Ei D cA base ad σ below args s z) (F0 m 134 ls [])) {H : Heap} {locs : List Loc} {ls : Array Slot} (hl : lv_has ls 9 [(0, .ref (ad x0)), (1, .ref (ad x1)), (2, .int x2), (3, .ref (ad x3)), (4, .int x4), (5, .int x5), (6, .int x6), (7, .int x7)]) (G : aw_G D cA base ad σ d s H locs) : W p l e rm_X8_between s m args below meth c H locs 0 0 (aw_Ei D cA base ad σ below args s z) (F0 m 53 ls []) := by
  induction n generalizing x6 x7 d H locs ls with
  | zero => exact absurd (show (none : Option (Int32 × Dt)) = some z from hf) (by simp)
  | succ n ih => exact w_X8_between_B53 X (kb53 := f_X8_between_L53 σ n k53 x0 x1 x2 x3 x4 x5) hf  (fun x6 x7 d hf H locs ls hl G => ih hf hl G) hk53 hl G
set_option maxHeartbeats 4000000 in
set_option maxRecDepth 100000 in
theorem w_X8_between_B28 {z : Int32 × Dt} (X : aw_X p c cX8_between 9 s RX8 m meth (some .int)) {kb28 : Int32 → Dt → Option (Int32 × Dt)} {k28 : Dt → Option (Int32 × Dt)} {x0 : Nat} {x1 : Nat} {x2 : Int32} {x3 : Nat} {x4 : Int32} {x5 : Int32} {d : Dt} (hf : f_X8_between_B28 σ kb28 k28 x0 x1 x2 x3 x4 x5 d = some z) (hkb28 : ∀ (y5 : Int32) (d : Dt), kb28 y5 d = some z → ∀ (H : Heap) (locs : List Loc) (ls : Array Slot), lv_has ls 9 [(0, .ref (ad x0)), (1, .ref (ad x1)), (2, .int x2), (3, .ref (ad x3)), (4, .int x4), (5, .int y5)] → aw_G D cA base ad σ d s H locs → W p l e rm_X8_between s m args below meth c H locs 0 0 (aw_Ei D cA base ad σ below args s z) (F0 m 28 ls [])) (hk28 : ∀ (d : Dt), k28 d = some z → ∀ (H : Heap) (locs : List Loc) (ls : Array Slot), lv_has ls 9 [(0, .ref (ad x0)), (4, .int x4)] → aw_G D cA base ad σ d s H locs → W p l e rm_X8_between s m args below meth c H locs 0 0 (aw_Ei D cA base ad σ below args s z) (F0 m 140 ls [])) {H : Heap} {locs : List Loc} {ls : Array Slot} (hl : lv_has ls 9 [(0, .ref (ad x0)), (1, .ref (ad x1)), (2, .int x2), (3, .ref (ad x3)), (4, .int x4), (5, .int x5)]) (G : aw_G D cA base ad σ d s H locs) : W p l e rm_X8_between s m args below meth c H locs 0 0 (aw_Ei D cA base ad σ below args s z) (F0 m 28 ls []) := by
  have hx := X.1; have hb := X.2.1; have hml := X.2.2.1; have hown := X.2.2.2.1
  unfold f_X8_between_B28 at hf
  refine lv_iload hx hb dX8_between_28 (lv_at hl 5 rfl) ?_
  refine lv_iload_n hx hb dX8_between_30 rfl (lv_at hl 2 rfl) ?_
  refine lv_icmp_gt (tgt := 140) hx hb dX8_between_31 (by decide) (fun hc => ?_) (fun hc => ?_)
  · have hf := aw_ite_t hc hf
    exact hk28 _ hf _ _ _ (lv_sub hl [0, 4] rfl) G
  · have hf := aw_ite_f hc hf
    refine lv_aload_n hx hb dX8_between_34 rfl (lv_at hl 0 rfl) ?_
    obtain ⟨hc_6, hf⟩ := aw_chk_some hf
    obtain ⟨q_7, hq_8, hf⟩ := aw_bind_some hf
    refine gf_X8_9 hx hb G hown hc_6 hq_8 dX8_between_35 ?_
    refine lv_iconst (v := (0 : Int32)) hx hb dX8_between_38 (by decide) ?_
    obtain ⟨hc_9, hf⟩ := aw_chk_some hf
    refine aw_ial hx hb G hc_9 dX8_between_39 ?_
    refine lv_istore (lv' := [(6, .int (d.1 q_7 ((0 : Int32)).toNatClampNeg)), (0, .ref (ad x0)), (1, .ref (ad x1)), (2, .int x2), (3, .ref (ad x3)), (4, .int x4), (5, .int x5)]) hx hb dX8_between_40 hl (by decide) rfl (fun ls hl => ?_)
    refine lv_aload_n hx hb dX8_between_42 rfl (lv_at hl 1 rfl) ?_
    refine gf_X8_9 hx hb G hown hc_6 hq_8 dX8_between_43 ?_
    refine lv_iconst (v := (0 : Int32)) hx hb dX8_between_46 (by decide) ?_
    refine lv_iload hx hb dX8_between_47 (lv_at hl 6 rfl) ?_
    refine aw_ias hx hb G hc_9 dX8_between_49 (fun H locs G => ?_)
    refine lv_iconst (v := (1 : Int32)) hx hb dX8_between_50 (by decide) ?_
    refine lv_istore (lv' := [(7, .int ((1 : Int32))), (6, .int (d.1 q_7 ((0 : Int32)).toNatClampNeg)), (0, .ref (ad x0)), (1, .ref (ad x1)), (2, .int x2), (3, .ref (ad x3)), (4, .int x4), (5, .int x5)]) hx hb dX8_between_51 hl (by decide) rfl (fun ls hl => ?_)
    refine w_X8_between_L53 X aw_FU hf  (fun d_17 hf H locs ls hl G => ?_) (lv_sub hl [2, 3, 4, 5, 6, 7, 1, 0] rfl) G
    refine lv_iinc (v := x5 + 1) (lv' := [(5, .int (x5 + 1)), (0, .ref (ad x0)), (1, .ref (ad x1)), (2, .int x2), (3, .ref (ad x3)), (4, .int x4)]) hx hb dX8_between_134 hl (k := 5) rfl rfl (by decide) rfl (fun ls hl => ?_)
    refine lv_goto (tgt := 28) hx hb dX8_between_137 (by decide) ?_
    exact hkb28 _ _ hf _ _ _ (lv_sub hl [1, 2, 3, 4, 5, 0] rfl) G
theorem w_X8_between_L28 {z : Int32 × Dt} (X : aw_X p c cX8_between 9 s RX8 m meth (some .int)) {k28 : Dt → Option (Int32 × Dt)} {x0 : Nat} {x1 : Nat} {x2 : Int32} {x3 : Nat} {x4 : Int32} (n : Nat) {x5 : Int32} {d : Dt} (hf : f_X8_between_L28 σ n k28 x0 x1 x2 x3 x4 x5 d = some z) (hk28 : ∀ (d : Dt), k28 d = some z → ∀ (H : Heap) (locs : List Loc) (ls : Array Slot), lv_has ls 9 [(0, .ref (ad x0)), (4, .int x4)] → aw_G D cA base ad σ d s H locs → W p l e rm_X8_between s m args below meth c H locs 0 0 (aw_Ei D cA base ad σ below args s z) (F0 m 140 ls [])) {H : Heap} {locs : List Loc} {ls : Array Slot} (hl : lv_has ls 9 [(0, .ref (ad x0)), (1, .ref (ad x1)), (2, .int x2), (3, .ref (ad x3)), (4, .int x4), (5, .int x5)]) (G : aw_G D cA base ad σ d s H locs) : W p l e rm_X8_between s m args below meth c H locs 0 0 (aw_Ei D cA base ad σ below args s z) (F0 m 28 ls []) := by
  induction n generalizing x5 d H locs ls with
  | zero => exact absurd (show (none : Option (Int32 × Dt)) = some z from hf) (by simp)
  | succ n ih => exact w_X8_between_B28 X (kb28 := f_X8_between_L28 σ n k28 x0 x1 x2 x3 x4) hf  (fun x5 d hf H locs ls hl G => ih hf hl G) hk28 hl G
end W_X8_between
set_option maxHeartbeats 4000000 in
set_option maxRecDepth 100000 in
theorem c_X8_between (l : Launch) {σ : Sg} {x0 : Nat} {x1 : Nat} {x2 : Int32} {x3 : Nat} {x4 : Int32} {d : Dt} {z : Int32 × Dt} (hf : f_X8_between σ x0 x1 x2 x3 x4 d = some z) : aw_Mi l yX8_between (Cond.code yX8_between cX8_between 9 (some .int)) rm_X8_between (fun ad => [.ref (ad x0), .ref (ad x1), .int x2, .ref (ad x3), .int x4]) σ d z := by
  intro D cA base ad
  refine aw_ofW (own := RX8) (cc := cX8_between) (nL := 9) (ret := some .int) (by decide) rfl rfl ?_
  intro p e s m below meth c X hnm G
  have hx := X.1; have hb := X.2.1; have hml := X.2.2.1; have hown := X.2.2.2.1
  refine aw_ls (lv := [(0, .ref (ad x0)), (1, .ref (ad x1)), (2, .int x2), (3, .ref (ad x3)), (4, .int x4)]) (Nat.le_of_ble_eq_true rfl) rfl (fun ls hl => ?_)
  unfold f_X8_between at hf
  refine lv_iconst (v := (0 : Int32)) hx hb dX8_between_0 (by decide) ?_
  refine lv_istore (lv' := [(5, .int ((0 : Int32))), (0, .ref (ad x0)), (1, .ref (ad x1)), (2, .int x2), (3, .ref (ad x3)), (4, .int x4)]) hx hb dX8_between_1 hl (by decide) rfl (fun ls hl => ?_)
  refine w_X8_between_L3 X aw_FU hf  (fun d_5 hf H locs ls hl G => ?_) (lv_sub hl [1, 2, 3, 4, 5, 0] rfl) G
  refine lv_iconst (v := (1 : Int32)) hx hb dX8_between_25 (by decide) ?_
  refine lv_istore (lv' := [(5, .int ((1 : Int32))), (0, .ref (ad x0)), (1, .ref (ad x1)), (2, .int x2), (3, .ref (ad x3)), (4, .int x4)]) hx hb dX8_between_26 hl (by decide) rfl (fun ls hl => ?_)
  refine w_X8_between_L28 X aw_FU hf  (fun d_18 hf H locs ls hl G => ?_) (lv_sub hl [1, 2, 3, 4, 5, 0] rfl) G
  refine lv_aload_n hx hb dX8_between_140 rfl (lv_at hl 0 rfl) ?_
  obtain ⟨hc_19, hf⟩ := aw_chk_some hf
  obtain ⟨q_20, hq_21, hf⟩ := aw_bind_some hf
  refine gf_X8_9 hx hb G hown hc_19 hq_21 dX8_between_141 ?_
  refine lv_iload hx hb dX8_between_144 (lv_at hl 1 rfl) ?_
  obtain ⟨hc_22, hf⟩ := aw_chk_some hf
  refine aw_ial hx hb G hc_22 dX8_between_146 ?_
  exact aw_reti X G hf dX8_between_147
def rm_X6_between : Room := { frames := 2, cells := 0, slots := 0, locals := 49 }
def f_X6_between (σ : Sg) (x0 : Nat) (x1 : Int32) (x2 : Int32) (d : Dt) : Option (Int32 × Dt) :=
  aw_chk (aw_O σ 6 4 x0) ((σ.2.2 x0 0).bind (fun q_2 => (σ.2.2 x0 2).bind (fun q_4 => aw_chk (aw_I σ 23 q_4 x1) ((σ.2.2 q_4 x1.toNatClampNeg).bind (fun q_7 => (σ.2.2 x0 3).bind (fun q_9 => aw_chk (aw_I σ 20 q_9 x1) (aw_chk (aw_I σ 23 q_4 x2) ((σ.2.2 q_4 x2.toNatClampNeg).bind (fun q_13 => aw_chk (aw_I σ 20 q_9 x2) (aw_chk (aw_O σ 8 1 q_2) ((f_X8_between σ q_2 q_7 (d.1 q_9 x1.toNatClampNeg) q_13 (d.1 q_9 x2.toNatClampNeg) d).bind (fun z_16 => some (z_16.1, z_16.2)))))))))))))
section W_X6_between
variable {p : Program} {l : Launch} {e : Env} {s : State} {m : MethodId} {args : Array Value} {below : List Frame} {meth : Method} {c : Code}
variable {D : va_G} {cA : Nat → ClassId} {base : Nat} {ad : Nat → Nat} {σ : Sg}
end W_X6_between
set_option maxHeartbeats 4000000 in
set_option maxRecDepth 100000 in
theorem c_X6_between (l : Launch) {σ : Sg} {x0 : Nat} {x1 : Int32} {x2 : Int32} {d : Dt} {z : Int32 × Dt} (hf : f_X6_between σ x0 x1 x2 d = some z) : aw_Mi l yX6_between (Cond.code yX6_between cX6_between 3 (some .int)) rm_X6_between (fun ad => [.ref (ad x0), .int x1, .int x2]) σ d z := by
  intro D cA base ad
  refine aw_ofW (own := RX6) (cc := cX6_between) (nL := 3) (ret := some .int) (by decide) rfl rfl ?_
  intro p e s m below meth c X hnm G
  have hx := X.1; have hb := X.2.1; have hml := X.2.2.1; have hown := X.2.2.2.1
  refine aw_ls (lv := [(0, .ref (ad x0)), (1, .int x1), (2, .int x2)]) (Nat.le_of_ble_eq_true rfl) rfl (fun ls hl => ?_)
  unfold f_X6_between at hf
  refine lv_aload_n hx hb dX6_between_0 rfl (lv_at hl 0 rfl) ?_
  obtain ⟨hc_1, hf⟩ := aw_chk_some hf
  obtain ⟨q_2, hq_3, hf⟩ := aw_bind_some hf
  refine gf_X6_12 hx hb G hown hc_1 hq_3 dX6_between_1 ?_
  refine lv_aload_n hx hb dX6_between_4 rfl (lv_at hl 0 rfl) ?_
  obtain ⟨q_4, hq_5, hf⟩ := aw_bind_some hf
  refine gf_X6_24 hx hb G hown hc_1 hq_5 dX6_between_5 ?_
  refine lv_iload_n hx hb dX6_between_8 rfl (lv_at hl 1 rfl) ?_
  obtain ⟨hc_6, hf⟩ := aw_chk_some hf
  obtain ⟨q_7, hq_8, hf⟩ := aw_bind_some hf
  refine aw_qal hx hb G 23 _ rfl rfl (by decide) hc_6 hq_8 dX6_between_9 ?_
  refine lv_aload_n hx hb dX6_between_10 rfl (lv_at hl 0 rfl) ?_
  obtain ⟨q_9, hq_10, hf⟩ := aw_bind_some hf
  refine gf_X6_27 hx hb G hown hc_1 hq_10 dX6_between_11 ?_
  refine lv_iload_n hx hb dX6_between_14 rfl (lv_at hl 1 rfl) ?_
  obtain ⟨hc_11, hf⟩ := aw_chk_some hf
  refine aw_ial hx hb G hc_11 dX6_between_15 ?_
  refine lv_aload_n hx hb dX6_between_16 rfl (lv_at hl 0 rfl) ?_
  refine gf_X6_24 hx hb G hown hc_1 hq_5 dX6_between_17 ?_
  refine lv_iload_n hx hb dX6_between_20 rfl (lv_at hl 2 rfl) ?_
  obtain ⟨hc_12, hf⟩ := aw_chk_some hf
  obtain ⟨q_13, hq_14, hf⟩ := aw_bind_some hf
  refine aw_qal hx hb G 23 _ rfl rfl (by decide) hc_12 hq_14 dX6_between_21 ?_
  refine lv_aload_n hx hb dX6_between_22 rfl (lv_at hl 0 rfl) ?_
  refine gf_X6_27 hx hb G hown hc_1 hq_10 dX6_between_23 ?_
  refine lv_iload_n hx hb dX6_between_26 rfl (lv_at hl 2 rfl) ?_
  obtain ⟨hc_15, hf⟩ := aw_chk_some hf
  refine aw_ial hx hb G hc_15 dX6_between_27 ?_
  obtain ⟨hc_18, hf⟩ := aw_chk_some hf
  obtain ⟨z_16, hz_17, hf⟩ := aw_bind_some hf
  refine aw_VI (As := [.ref (ad q_7), .int (d.1 q_9 x1.toNatClampNeg), .ref (ad q_13), .int (d.1 q_9 x2.toNatClampNeg)]) (rest := []) X G hl.1 cr_X6_38 (c_X8_between l hz_17) ⟨rfl, rfl⟩ rfl rfl rfl (by decide) hc_18 rfl ⟨Nat.le_of_ble_eq_true rfl, Nat.le_of_ble_eq_true rfl⟩ (Nat.le_of_ble_eq_true rfl) dX6_between_28 ⟨Nat.zero_le _, Nat.zero_le _⟩ (fun H locs G => ?_)
  exact aw_reti X G hf dX6_between_31
def rm_X6_isNearOther : Room := { frames := 3, cells := 0, slots := 0, locals := 71 }
def f_X6_isNearOther_J39 (σ : Sg) (kb3 : Int32 → Dt → Option (Int32 × Dt)) (x0 : Nat) (x1 : Int32) (x2 : Int64) (x4 : Int32) (x5 : Int32) (d : Dt) : Option (Int32 × Dt) :=
  kb3 (x5 + 1) d
def f_X6_isNearOther_B3 (σ : Sg) (kb3 : Int32 → Dt → Option (Int32 × Dt)) (k3 : Dt → Option (Int32 × Dt)) (x0 : Nat) (x1 : Int32) (x2 : Int64) (x4 : Int32) (x5 : Int32) (d : Dt) : Option (Int32 × Dt) :=
  if ((50 : Int32)) ≤ x5 then k3 d else if x5 = x1 then f_X6_isNearOther_J39 σ kb3 x0 x1 x2 x4 x5 d else (f_X10_has σ x2 x5 d).bind (fun z_1 => if z_1.1 = 0 then f_X6_isNearOther_J39 σ kb3 x0 x1 x2 x4 x5 z_1.2 else aw_chk (aw_O σ 6 4 x0) ((f_X6_between σ x0 x1 x5 z_1.2).bind (fun z_3 => if x4 < z_3.1 then f_X6_isNearOther_J39 σ kb3 x0 x1 x2 x4 x5 z_3.2 else aw_chk (((1 : Int32)) &&& 1 = ((1 : Int32))) (some ((1 : Int32), z_3.2)))))
def f_X6_isNearOther_L3 (σ : Sg) (n : Nat) (k3 : Dt → Option (Int32 × Dt)) (x0 : Nat) (x1 : Int32) (x2 : Int64) (x4 : Int32) : Int32 → Dt → Option (Int32 × Dt) := match n with
  | 0 => fun _ _ => none
  | n + 1 => fun x5 d => f_X6_isNearOther_B3 σ (f_X6_isNearOther_L3 σ n k3 x0 x1 x2 x4) k3 x0 x1 x2 x4 x5 d
def f_X6_isNearOther (σ : Sg) (x0 : Nat) (x1 : Int32) (x2 : Int64) (x4 : Int32) (d : Dt) : Option (Int32 × Dt) :=
  f_X6_isNearOther_L3 σ aw_FU (fun d_7 => aw_chk (((0 : Int32)) &&& 1 = ((0 : Int32))) (some ((0 : Int32), d_7))) x0 x1 x2 x4 ((0 : Int32)) d
section W_X6_isNearOther
variable {p : Program} {l : Launch} {e : Env} {s : State} {m : MethodId} {args : Array Value} {below : List Frame} {meth : Method} {c : Code}
variable {D : va_G} {cA : Nat → ClassId} {base : Nat} {ad : Nat → Nat} {σ : Sg}
set_option maxHeartbeats 4000000 in
set_option maxRecDepth 100000 in
theorem w_X6_isNearOther_J39 {z : Int32 × Dt} (X : aw_X p c cX6_isNearOther 6 s RX6 m meth (some .boolean)) {kb3 : Int32 → Dt → Option (Int32 × Dt)} {x0 : Nat} {x1 : Int32} {x2 : Int64} {x4 : Int32} {x5 : Int32} {d : Dt} (hf : f_X6_isNearOther_J39 σ kb3 x0 x1 x2 x4 x5 d = some z) (hkb3 : ∀ (y5 : Int32) (d : Dt), kb3 y5 d = some z → ∀ (H : Heap) (locs : List Loc) (ls : Array Slot), lv_has ls 6 [(0, .ref (ad x0)), (1, .int x1), (2, .long x2), (4, .int x4), (5, .int y5)] → aw_G D cA base ad σ d s H locs → W p l e rm_X6_isNearOther s m args below meth c H locs 0 0 (aw_Ei D cA base ad σ below args s z) (F0 m 3 ls [])) {H : Heap} {locs : List Loc} {ls : Array Slot} (hl : lv_has ls 6 [(0, .ref (ad x0)), (1, .int x1), (2, .long x2), (4, .int x4), (5, .int x5)]) (G : aw_G D cA base ad σ d s H locs) : W p l e rm_X6_isNearOther s m args below meth c H locs 0 0 (aw_Ei D cA base ad σ below args s z) (F0 m 39 ls []) := by
  have hx := X.1; have hb := X.2.1; have hml := X.2.2.1; have hown := X.2.2.2.1
  unfold f_X6_isNearOther_J39 at hf
  refine lv_iinc (v := x5 + 1) (lv' := [(5, .int (x5 + 1)), (0, .ref (ad x0)), (1, .int x1), (2, .long x2), (4, .int x4)]) hx hb dX6_isNearOther_39 hl (k := 4) rfl rfl (by decide) rfl (fun ls hl => ?_)
  refine lv_goto (tgt := 3) hx hb dX6_isNearOther_42 (by decide) ?_
  exact hkb3 _ _ hf _ _ _ (lv_sub hl [1, 2, 3, 4, 0] rfl) G
set_option maxHeartbeats 4000000 in
set_option maxRecDepth 100000 in
theorem w_X6_isNearOther_B3 {z : Int32 × Dt} (X : aw_X p c cX6_isNearOther 6 s RX6 m meth (some .boolean)) {kb3 : Int32 → Dt → Option (Int32 × Dt)} {k3 : Dt → Option (Int32 × Dt)} {x0 : Nat} {x1 : Int32} {x2 : Int64} {x4 : Int32} {x5 : Int32} {d : Dt} (hf : f_X6_isNearOther_B3 σ kb3 k3 x0 x1 x2 x4 x5 d = some z) (hkb3 : ∀ (y5 : Int32) (d : Dt), kb3 y5 d = some z → ∀ (H : Heap) (locs : List Loc) (ls : Array Slot), lv_has ls 6 [(0, .ref (ad x0)), (1, .int x1), (2, .long x2), (4, .int x4), (5, .int y5)] → aw_G D cA base ad σ d s H locs → W p l e rm_X6_isNearOther s m args below meth c H locs 0 0 (aw_Ei D cA base ad σ below args s z) (F0 m 3 ls [])) (hk3 : ∀ (d : Dt), k3 d = some z → ∀ (H : Heap) (locs : List Loc) (ls : Array Slot), lv_has ls 6 [] → aw_G D cA base ad σ d s H locs → W p l e rm_X6_isNearOther s m args below meth c H locs 0 0 (aw_Ei D cA base ad σ below args s z) (F0 m 45 ls [])) {H : Heap} {locs : List Loc} {ls : Array Slot} (hl : lv_has ls 6 [(0, .ref (ad x0)), (1, .int x1), (2, .long x2), (4, .int x4), (5, .int x5)]) (G : aw_G D cA base ad σ d s H locs) : W p l e rm_X6_isNearOther s m args below meth c H locs 0 0 (aw_Ei D cA base ad σ below args s z) (F0 m 3 ls []) := by
  have hx := X.1; have hb := X.2.1; have hml := X.2.2.1; have hown := X.2.2.2.1
  unfold f_X6_isNearOther_B3 at hf
  refine lv_iload hx hb dX6_isNearOther_3 (lv_at hl 4 rfl) ?_
  refine lv_bipush (v := (50 : Int32)) hx hb dX6_isNearOther_5 (by decide) ?_
  refine lv_icmp_ge (tgt := 45) hx hb dX6_isNearOther_7 (by decide) (fun hc => ?_) (fun hc => ?_)
  · have hf := aw_ite_t hc hf
    exact hk3 _ hf _ _ _ (lv_sub hl [] rfl) G
  · have hf := aw_ite_f hc hf
    refine lv_iload hx hb dX6_isNearOther_10 (lv_at hl 4 rfl) ?_
    refine lv_iload_n hx hb dX6_isNearOther_12 rfl (lv_at hl 1 rfl) ?_
    refine lv_icmp_eq (tgt := 39) hx hb dX6_isNearOther_13 (by decide) (fun hc => ?_) (fun hc => ?_)
    · have hf := aw_ite_t hc hf
      exact w_X6_isNearOther_J39 X hf hkb3 (lv_sub hl [0, 1, 2, 3, 4] rfl) G
    · have hf := aw_ite_f hc hf
      refine lv_lload_n hx hb dX6_isNearOther_16 rfl (lv_at hl 2 rfl) ?_
      refine lv_iload hx hb dX6_isNearOther_17 (lv_at hl 4 rfl) ?_
      obtain ⟨z_1, hz_2, hf⟩ := aw_bind_some hf
      refine aw_NI (As := [.long x2, .int x5]) (rest := []) X G hl.1 cr_X6_42 (c_X10_has l hz_2) ⟨rfl, rfl⟩ rfl rfl rfl ⟨Nat.le_of_ble_eq_true rfl, Nat.le_of_ble_eq_true rfl⟩ (Nat.le_of_ble_eq_true rfl) dX6_isNearOther_19 ⟨Nat.zero_le _, Nat.zero_le _⟩ (fun H locs G => ?_)
      refine lv_if_eq (tgt := 39) hx hb dX6_isNearOther_22 (by decide) (fun hc => ?_) (fun hc => ?_)
      · have hf := aw_ite_t hc hf
        exact w_X6_isNearOther_J39 X hf hkb3 (lv_sub hl [0, 1, 2, 3, 4] rfl) G
      · have hf := aw_ite_f hc hf
        refine lv_aload_n hx hb dX6_isNearOther_25 rfl (lv_at hl 0 rfl) ?_
        refine lv_iload_n hx hb dX6_isNearOther_26 rfl (lv_at hl 1 rfl) ?_
        refine lv_iload hx hb dX6_isNearOther_27 (lv_at hl 4 rfl) ?_
        obtain ⟨hc_5, hf⟩ := aw_chk_some hf
        obtain ⟨z_3, hz_4, hf⟩ := aw_bind_some hf
        refine aw_VI (As := [.int x1, .int x5]) (rest := []) X G hl.1 cr_X6_46 (c_X6_between l hz_4) ⟨rfl, rfl⟩ rfl rfl rfl (by decide) hc_5 rfl ⟨Nat.le_of_ble_eq_true rfl, Nat.le_of_ble_eq_true rfl⟩ (Nat.le_of_ble_eq_true rfl) dX6_isNearOther_29 ⟨Nat.zero_le _, Nat.zero_le _⟩ (fun H locs G => ?_)
        refine lv_iload hx hb dX6_isNearOther_32 (lv_at hl 3 rfl) ?_
        refine lv_icmp_gt (tgt := 39) hx hb dX6_isNearOther_34 (by decide) (fun hc => ?_) (fun hc => ?_)
        · have hf := aw_ite_t hc hf
          exact w_X6_isNearOther_J39 X hf hkb3 (lv_sub hl [0, 1, 2, 3, 4] rfl) G
        · have hf := aw_ite_f hc hf
          refine lv_iconst (v := (1 : Int32)) hx hb dX6_isNearOther_37 (by decide) ?_
          obtain ⟨hc_6, hf⟩ := aw_chk_some hf
          exact aw_retz X G hc_6 hf dX6_isNearOther_38
theorem w_X6_isNearOther_L3 {z : Int32 × Dt} (X : aw_X p c cX6_isNearOther 6 s RX6 m meth (some .boolean)) {k3 : Dt → Option (Int32 × Dt)} {x0 : Nat} {x1 : Int32} {x2 : Int64} {x4 : Int32} (n : Nat) {x5 : Int32} {d : Dt} (hf : f_X6_isNearOther_L3 σ n k3 x0 x1 x2 x4 x5 d = some z) (hk3 : ∀ (d : Dt), k3 d = some z → ∀ (H : Heap) (locs : List Loc) (ls : Array Slot), lv_has ls 6 [] → aw_G D cA base ad σ d s H locs → W p l e rm_X6_isNearOther s m args below meth c H locs 0 0 (aw_Ei D cA base ad σ below args s z) (F0 m 45 ls [])) {H : Heap} {locs : List Loc} {ls : Array Slot} (hl : lv_has ls 6 [(0, .ref (ad x0)), (1, .int x1), (2, .long x2), (4, .int x4), (5, .int x5)]) (G : aw_G D cA base ad σ d s H locs) : W p l e rm_X6_isNearOther s m args below meth c H locs 0 0 (aw_Ei D cA base ad σ below args s z) (F0 m 3 ls []) := by
  induction n generalizing x5 d H locs ls with
  | zero => exact absurd (show (none : Option (Int32 × Dt)) = some z from hf) (by simp)
  | succ n ih => exact w_X6_isNearOther_B3 X (kb3 := f_X6_isNearOther_L3 σ n k3 x0 x1 x2 x4) hf  (fun x5 d hf H locs ls hl G => ih hf hl G) hk3 hl G
end W_X6_isNearOther
set_option maxHeartbeats 4000000 in
set_option maxRecDepth 100000 in
theorem c_X6_isNearOther (l : Launch) {σ : Sg} {x0 : Nat} {x1 : Int32} {x2 : Int64} {x4 : Int32} {d : Dt} {z : Int32 × Dt} (hf : f_X6_isNearOther σ x0 x1 x2 x4 d = some z) : aw_Mi l yX6_isNearOther (Cond.code yX6_isNearOther cX6_isNearOther 6 (some .boolean)) rm_X6_isNearOther (fun ad => [.ref (ad x0), .int x1, .long x2, .int x4]) σ d z := by
  intro D cA base ad
  refine aw_ofW (own := RX6) (cc := cX6_isNearOther) (nL := 6) (ret := some .boolean) (by decide) rfl rfl ?_
  intro p e s m below meth c X hnm G
  have hx := X.1; have hb := X.2.1; have hml := X.2.2.1; have hown := X.2.2.2.1
  refine aw_ls (lv := [(0, .ref (ad x0)), (1, .int x1), (2, .long x2), (4, .int x4)]) (Nat.le_of_ble_eq_true rfl) rfl (fun ls hl => ?_)
  unfold f_X6_isNearOther at hf
  refine lv_iconst (v := (0 : Int32)) hx hb dX6_isNearOther_0 (by decide) ?_
  refine lv_istore (lv' := [(5, .int ((0 : Int32))), (0, .ref (ad x0)), (1, .int x1), (2, .long x2), (4, .int x4)]) hx hb dX6_isNearOther_1 hl (by decide) rfl (fun ls hl => ?_)
  refine w_X6_isNearOther_L3 X aw_FU hf  (fun d_7 hf H locs ls hl G => ?_) (lv_sub hl [1, 2, 3, 4, 0] rfl) G
  refine lv_iconst (v := (0 : Int32)) hx hb dX6_isNearOther_45 (by decide) ?_
  obtain ⟨hc_8, hf⟩ := aw_chk_some hf
  exact aw_retz X G hc_8 hf dX6_isNearOther_46
def rm_X6_mistaken : Room := { frames := 4, cells := 0, slots := 0, locals := 96 }
def f_X6_mistaken_J43 (σ : Sg) (kb6 : Int64 → Int32 → Dt → Option (Int64 × Dt)) (x0 : Nat) (x1 : Int64) (x3 : Int64) (x5 : Int32) (x6 : Int64) (x8 : Int32) (d : Dt) : Option (Int64 × Dt) :=
  kb6 x6 (x8 + 1) d
def f_X6_mistaken_B6 (σ : Sg) (kb6 : Int64 → Int32 → Dt → Option (Int64 × Dt)) (k6 : Int64 → Dt → Option (Int64 × Dt)) (x0 : Nat) (x1 : Int64) (x3 : Int64) (x5 : Int32) (x6 : Int64) (x8 : Int32) (d : Dt) : Option (Int64 × Dt) :=
  if ((50 : Int32)) ≤ x8 then k6 x6 d else (f_X10_has σ x1 x8 d).bind (fun z_1 => if z_1.1 = 0 then f_X6_mistaken_J43 σ kb6 x0 x1 x3 x5 x6 x8 z_1.2 else aw_chk (aw_O σ 6 4 x0) ((f_X6_isNearOther σ x0 x8 x3 x5 z_1.2).bind (fun z_3 => if z_3.1 = 0 then f_X6_mistaken_J43 σ kb6 x0 x1 x3 x5 x6 x8 z_3.2 else f_X6_mistaken_J43 σ kb6 x0 x1 x3 x5 (x6 ||| (((1 : Int64)) <<< (x8.toInt64 &&& 63))) x8 z_3.2)))
def f_X6_mistaken_L6 (σ : Sg) (n : Nat) (k6 : Int64 → Dt → Option (Int64 × Dt)) (x0 : Nat) (x1 : Int64) (x3 : Int64) (x5 : Int32) : Int64 → Int32 → Dt → Option (Int64 × Dt) := match n with
  | 0 => fun _ _ _ => none
  | n + 1 => fun x6 x8 d => f_X6_mistaken_B6 σ (f_X6_mistaken_L6 σ n k6 x0 x1 x3 x5) k6 x0 x1 x3 x5 x6 x8 d
def f_X6_mistaken (σ : Sg) (x0 : Nat) (x1 : Int64) (x3 : Int64) (x5 : Int32) (d : Dt) : Option (Int64 × Dt) :=
  f_X6_mistaken_L6 σ aw_FU (fun x6_6 d_7 => some (x6_6, d_7)) x0 x1 x3 x5 ((0 : Int64)) ((0 : Int32)) d
section W_X6_mistaken
variable {p : Program} {l : Launch} {e : Env} {s : State} {m : MethodId} {args : Array Value} {below : List Frame} {meth : Method} {c : Code}
variable {D : va_G} {cA : Nat → ClassId} {base : Nat} {ad : Nat → Nat} {σ : Sg}
set_option maxHeartbeats 4000000 in
set_option maxRecDepth 100000 in
theorem w_X6_mistaken_J43 {z : Int64 × Dt} (X : aw_X p c cX6_mistaken 9 s RX6 m meth (some .long)) {kb6 : Int64 → Int32 → Dt → Option (Int64 × Dt)} {x0 : Nat} {x1 : Int64} {x3 : Int64} {x5 : Int32} {x6 : Int64} {x8 : Int32} {d : Dt} (hf : f_X6_mistaken_J43 σ kb6 x0 x1 x3 x5 x6 x8 d = some z) (hkb6 : ∀ (y6 : Int64) (y8 : Int32) (d : Dt), kb6 y6 y8 d = some z → ∀ (H : Heap) (locs : List Loc) (ls : Array Slot), lv_has ls 9 [(0, .ref (ad x0)), (1, .long x1), (3, .long x3), (5, .int x5), (6, .long y6), (8, .int y8)] → aw_G D cA base ad σ d s H locs → W p l e rm_X6_mistaken s m args below meth c H locs 0 0 (aw_El D cA base ad σ below args s z) (F0 m 6 ls [])) {H : Heap} {locs : List Loc} {ls : Array Slot} (hl : lv_has ls 9 [(0, .ref (ad x0)), (1, .long x1), (3, .long x3), (5, .int x5), (6, .long x6), (8, .int x8)]) (G : aw_G D cA base ad σ d s H locs) : W p l e rm_X6_mistaken s m args below meth c H locs 0 0 (aw_El D cA base ad σ below args s z) (F0 m 43 ls []) := by
  have hx := X.1; have hb := X.2.1; have hml := X.2.2.1; have hown := X.2.2.2.1
  unfold f_X6_mistaken_J43 at hf
  refine lv_iinc (v := x8 + 1) (lv' := [(8, .int (x8 + 1)), (0, .ref (ad x0)), (1, .long x1), (3, .long x3), (5, .int x5), (6, .long x6)]) hx hb dX6_mistaken_43 hl (k := 5) rfl rfl (by decide) rfl (fun ls hl => ?_)
  refine lv_goto (tgt := 6) hx hb dX6_mistaken_46 (by decide) ?_
  exact hkb6 _ _ _ hf _ _ _ (lv_sub hl [1, 2, 3, 4, 5, 0] rfl) G
set_option maxHeartbeats 4000000 in
set_option maxRecDepth 100000 in
theorem w_X6_mistaken_B6 {z : Int64 × Dt} (X : aw_X p c cX6_mistaken 9 s RX6 m meth (some .long)) {kb6 : Int64 → Int32 → Dt → Option (Int64 × Dt)} {k6 : Int64 → Dt → Option (Int64 × Dt)} {x0 : Nat} {x1 : Int64} {x3 : Int64} {x5 : Int32} {x6 : Int64} {x8 : Int32} {d : Dt} (hf : f_X6_mistaken_B6 σ kb6 k6 x0 x1 x3 x5 x6 x8 d = some z) (hkb6 : ∀ (y6 : Int64) (y8 : Int32) (d : Dt), kb6 y6 y8 d = some z → ∀ (H : Heap) (locs : List Loc) (ls : Array Slot), lv_has ls 9 [(0, .ref (ad x0)), (1, .long x1), (3, .long x3), (5, .int x5), (6, .long y6), (8, .int y8)] → aw_G D cA base ad σ d s H locs → W p l e rm_X6_mistaken s m args below meth c H locs 0 0 (aw_El D cA base ad σ below args s z) (F0 m 6 ls [])) (hk6 : ∀ (y6 : Int64) (d : Dt), k6 y6 d = some z → ∀ (H : Heap) (locs : List Loc) (ls : Array Slot), lv_has ls 9 [(6, .long y6)] → aw_G D cA base ad σ d s H locs → W p l e rm_X6_mistaken s m args below meth c H locs 0 0 (aw_El D cA base ad σ below args s z) (F0 m 49 ls [])) {H : Heap} {locs : List Loc} {ls : Array Slot} (hl : lv_has ls 9 [(0, .ref (ad x0)), (1, .long x1), (3, .long x3), (5, .int x5), (6, .long x6), (8, .int x8)]) (G : aw_G D cA base ad σ d s H locs) : W p l e rm_X6_mistaken s m args below meth c H locs 0 0 (aw_El D cA base ad σ below args s z) (F0 m 6 ls []) := by
  have hx := X.1; have hb := X.2.1; have hml := X.2.2.1; have hown := X.2.2.2.1
  unfold f_X6_mistaken_B6 at hf
  refine lv_iload hx hb dX6_mistaken_6 (lv_at hl 5 rfl) ?_
  refine lv_bipush (v := (50 : Int32)) hx hb dX6_mistaken_8 (by decide) ?_
  refine lv_icmp_ge (tgt := 49) hx hb dX6_mistaken_10 (by decide) (fun hc => ?_) (fun hc => ?_)
  · have hf := aw_ite_t hc hf
    exact hk6 _ _ hf _ _ _ (lv_sub hl [4] rfl) G
  · have hf := aw_ite_f hc hf
    refine lv_lload_n hx hb dX6_mistaken_13 rfl (lv_at hl 1 rfl) ?_
    refine lv_iload hx hb dX6_mistaken_14 (lv_at hl 5 rfl) ?_
    obtain ⟨z_1, hz_2, hf⟩ := aw_bind_some hf
    refine aw_NI (As := [.long x1, .int x8]) (rest := []) X G hl.1 cr_X6_42 (c_X10_has l hz_2) ⟨rfl, rfl⟩ rfl rfl rfl ⟨Nat.le_of_ble_eq_true rfl, Nat.le_of_ble_eq_true rfl⟩ (Nat.le_of_ble_eq_true rfl) dX6_mistaken_16 ⟨Nat.zero_le _, Nat.zero_le _⟩ (fun H locs G => ?_)
    refine lv_if_eq (tgt := 43) hx hb dX6_mistaken_19 (by decide) (fun hc => ?_) (fun hc => ?_)
    · have hf := aw_ite_t hc hf
      exact w_X6_mistaken_J43 X hf hkb6 (lv_sub hl [0, 1, 2, 3, 4, 5] rfl) G
    · have hf := aw_ite_f hc hf
      refine lv_aload_n hx hb dX6_mistaken_22 rfl (lv_at hl 0 rfl) ?_
      refine lv_iload hx hb dX6_mistaken_23 (lv_at hl 5 rfl) ?_
      refine lv_lload_n hx hb dX6_mistaken_25 rfl (lv_at hl 2 rfl) ?_
      refine lv_iload hx hb dX6_mistaken_26 (lv_at hl 3 rfl) ?_
      obtain ⟨hc_5, hf⟩ := aw_chk_some hf
      obtain ⟨z_3, hz_4, hf⟩ := aw_bind_some hf
      refine aw_VI (As := [.int x8, .long x3, .int x5]) (rest := []) X G hl.1 cr_X6_54 (c_X6_isNearOther l hz_4) ⟨rfl, rfl⟩ rfl rfl rfl (by decide) hc_5 rfl ⟨Nat.le_of_ble_eq_true rfl, Nat.le_of_ble_eq_true rfl⟩ (Nat.le_of_ble_eq_true rfl) dX6_mistaken_28 ⟨Nat.zero_le _, Nat.zero_le _⟩ (fun H locs G => ?_)
      refine lv_if_eq (tgt := 43) hx hb dX6_mistaken_31 (by decide) (fun hc => ?_) (fun hc => ?_)
      · have hf := aw_ite_t hc hf
        exact w_X6_mistaken_J43 X hf hkb6 (lv_sub hl [0, 1, 2, 3, 4, 5] rfl) G
      · have hf := aw_ite_f hc hf
        refine lv_lload hx hb dX6_mistaken_34 (lv_at hl 4 rfl) ?_
        refine lv_lconst (v := (1 : Int64)) hx hb dX6_mistaken_36 (by decide) ?_
        refine lv_iload hx hb dX6_mistaken_37 (lv_at hl 5 rfl) ?_
        refine lv_lshl hx hb dX6_mistaken_39 rfl ?_
        refine lv_lor hx hb dX6_mistaken_40 ?_
        refine lv_lstore (lv' := [(6, .long (x6 ||| (((1 : Int64)) <<< (x8.toInt64 &&& 63)))), (0, .ref (ad x0)), (1, .long x1), (3, .long x3), (5, .int x5), (8, .int x8)]) hx hb dX6_mistaken_41 hl (by decide) rfl (fun ls hl => ?_)
        exact w_X6_mistaken_J43 X hf hkb6 (lv_sub hl [1, 2, 3, 4, 0, 5] rfl) G
theorem w_X6_mistaken_L6 {z : Int64 × Dt} (X : aw_X p c cX6_mistaken 9 s RX6 m meth (some .long)) {k6 : Int64 → Dt → Option (Int64 × Dt)} {x0 : Nat} {x1 : Int64} {x3 : Int64} {x5 : Int32} (n : Nat) {x6 : Int64} {x8 : Int32} {d : Dt} (hf : f_X6_mistaken_L6 σ n k6 x0 x1 x3 x5 x6 x8 d = some z) (hk6 : ∀ (y6 : Int64) (d : Dt), k6 y6 d = some z → ∀ (H : Heap) (locs : List Loc) (ls : Array Slot), lv_has ls 9 [(6, .long y6)] → aw_G D cA base ad σ d s H locs → W p l e rm_X6_mistaken s m args below meth c H locs 0 0 (aw_El D cA base ad σ below args s z) (F0 m 49 ls [])) {H : Heap} {locs : List Loc} {ls : Array Slot} (hl : lv_has ls 9 [(0, .ref (ad x0)), (1, .long x1), (3, .long x3), (5, .int x5), (6, .long x6), (8, .int x8)]) (G : aw_G D cA base ad σ d s H locs) : W p l e rm_X6_mistaken s m args below meth c H locs 0 0 (aw_El D cA base ad σ below args s z) (F0 m 6 ls []) := by
  induction n generalizing x6 x8 d H locs ls with
  | zero => exact absurd (show (none : Option (Int64 × Dt)) = some z from hf) (by simp)
  | succ n ih => exact w_X6_mistaken_B6 X (kb6 := f_X6_mistaken_L6 σ n k6 x0 x1 x3 x5) hf  (fun x6 x8 d hf H locs ls hl G => ih hf hl G) hk6 hl G
end W_X6_mistaken
set_option maxHeartbeats 4000000 in
set_option maxRecDepth 100000 in
theorem c_X6_mistaken (l : Launch) {σ : Sg} {x0 : Nat} {x1 : Int64} {x3 : Int64} {x5 : Int32} {d : Dt} {z : Int64 × Dt} (hf : f_X6_mistaken σ x0 x1 x3 x5 d = some z) : aw_Ml l yX6_mistaken (Cond.code yX6_mistaken cX6_mistaken 9 (some .long)) rm_X6_mistaken (fun ad => [.ref (ad x0), .long x1, .long x3, .int x5]) σ d z := by
  intro D cA base ad
  refine aw_ofW (own := RX6) (cc := cX6_mistaken) (nL := 9) (ret := some .long) (by decide) rfl rfl ?_
  intro p e s m below meth c X hnm G
  have hx := X.1; have hb := X.2.1; have hml := X.2.2.1; have hown := X.2.2.2.1
  refine aw_ls (lv := [(0, .ref (ad x0)), (1, .long x1), (3, .long x3), (5, .int x5)]) (Nat.le_of_ble_eq_true rfl) rfl (fun ls hl => ?_)
  unfold f_X6_mistaken at hf
  refine lv_lconst (v := (0 : Int64)) hx hb dX6_mistaken_0 (by decide) ?_
  refine lv_lstore (lv' := [(6, .long ((0 : Int64))), (0, .ref (ad x0)), (1, .long x1), (3, .long x3), (5, .int x5)]) hx hb dX6_mistaken_1 hl (by decide) rfl (fun ls hl => ?_)
  refine lv_iconst (v := (0 : Int32)) hx hb dX6_mistaken_3 (by decide) ?_
  refine lv_istore (lv' := [(8, .int ((0 : Int32))), (6, .long ((0 : Int64))), (0, .ref (ad x0)), (1, .long x1), (3, .long x3), (5, .int x5)]) hx hb dX6_mistaken_4 hl (by decide) rfl (fun ls hl => ?_)
  refine w_X6_mistaken_L6 X aw_FU hf  (fun x6_6 d_7 hf H locs ls hl G => ?_) (lv_sub hl [2, 3, 4, 5, 1, 0] rfl) G
  refine lv_lload hx hb dX6_mistaken_49 (lv_at hl 0 rfl) ?_
  exact aw_retl X G hf dX6_mistaken_51
def rm_X6_strokesIn : Room := { frames := 0, cells := 0, slots := 0, locals := 0 }
def f_X6_strokesIn_B5 (σ : Sg) (kb5 : Int32 → Int32 → Dt → Option (Int32 × Dt)) (k5 : Int32 → Dt → Option (Int32 × Dt)) (x0 : Nat) (x1 : Nat) (x2 : Int32) (x3 : Int32) (x4 : Int32) (d : Dt) : Option (Int32 × Dt) :=
  if x2 ≤ x4 then k5 x3 d else aw_chk (aw_O σ 6 4 x0) ((σ.2.2 x0 3).bind (fun q_2 => aw_chk (aw_I σ 20 x1 x4) (aw_chk (aw_I σ 20 q_2 (d.1 x1 x4.toNatClampNeg)) (kb5 (x3 + (d.1 q_2 (d.1 x1 x4.toNatClampNeg).toNatClampNeg)) (x4 + 1) d))))
def f_X6_strokesIn_L5 (σ : Sg) (n : Nat) (k5 : Int32 → Dt → Option (Int32 × Dt)) (x0 : Nat) (x1 : Nat) (x2 : Int32) : Int32 → Int32 → Dt → Option (Int32 × Dt) := match n with
  | 0 => fun _ _ _ => none
  | n + 1 => fun x3 x4 d => f_X6_strokesIn_B5 σ (f_X6_strokesIn_L5 σ n k5 x0 x1 x2) k5 x0 x1 x2 x3 x4 d
def f_X6_strokesIn (σ : Sg) (x0 : Nat) (x1 : Nat) (x2 : Int32) (d : Dt) : Option (Int32 × Dt) :=
  f_X6_strokesIn_L5 σ aw_FU (fun x3_6 d_7 => some (x3_6, d_7)) x0 x1 x2 ((0 : Int32)) ((0 : Int32)) d
section W_X6_strokesIn
variable {p : Program} {l : Launch} {e : Env} {s : State} {m : MethodId} {args : Array Value} {below : List Frame} {meth : Method} {c : Code}
variable {D : va_G} {cA : Nat → ClassId} {base : Nat} {ad : Nat → Nat} {σ : Sg}
set_option maxHeartbeats 4000000 in
set_option maxRecDepth 100000 in
theorem w_X6_strokesIn_B5 {z : Int32 × Dt} (X : aw_X p c cX6_strokesIn 5 s RX6 m meth (some .int)) {kb5 : Int32 → Int32 → Dt → Option (Int32 × Dt)} {k5 : Int32 → Dt → Option (Int32 × Dt)} {x0 : Nat} {x1 : Nat} {x2 : Int32} {x3 : Int32} {x4 : Int32} {d : Dt} (hf : f_X6_strokesIn_B5 σ kb5 k5 x0 x1 x2 x3 x4 d = some z) (hkb5 : ∀ (y3 : Int32) (y4 : Int32) (d : Dt), kb5 y3 y4 d = some z → ∀ (H : Heap) (locs : List Loc) (ls : Array Slot), lv_has ls 5 [(0, .ref (ad x0)), (1, .ref (ad x1)), (2, .int x2), (3, .int y3), (4, .int y4)] → aw_G D cA base ad σ d s H locs → W p l e rm_X6_strokesIn s m args below meth c H locs 0 0 (aw_Ei D cA base ad σ below args s z) (F0 m 5 ls [])) (hk5 : ∀ (y3 : Int32) (d : Dt), k5 y3 d = some z → ∀ (H : Heap) (locs : List Loc) (ls : Array Slot), lv_has ls 5 [(3, .int y3)] → aw_G D cA base ad σ d s H locs → W p l e rm_X6_strokesIn s m args below meth c H locs 0 0 (aw_Ei D cA base ad σ below args s z) (F0 m 29 ls [])) {H : Heap} {locs : List Loc} {ls : Array Slot} (hl : lv_has ls 5 [(0, .ref (ad x0)), (1, .ref (ad x1)), (2, .int x2), (3, .int x3), (4, .int x4)]) (G : aw_G D cA base ad σ d s H locs) : W p l e rm_X6_strokesIn s m args below meth c H locs 0 0 (aw_Ei D cA base ad σ below args s z) (F0 m 5 ls []) := by
  have hx := X.1; have hb := X.2.1; have hml := X.2.2.1; have hown := X.2.2.2.1
  unfold f_X6_strokesIn_B5 at hf
  refine lv_iload hx hb dX6_strokesIn_5 (lv_at hl 4 rfl) ?_
  refine lv_iload_n hx hb dX6_strokesIn_7 rfl (lv_at hl 2 rfl) ?_
  refine lv_icmp_ge (tgt := 29) hx hb dX6_strokesIn_8 (by decide) (fun hc => ?_) (fun hc => ?_)
  · have hf := aw_ite_t hc hf
    exact hk5 _ _ hf _ _ _ (lv_sub hl [3] rfl) G
  · have hf := aw_ite_f hc hf
    refine lv_iload_n hx hb dX6_strokesIn_11 rfl (lv_at hl 3 rfl) ?_
    refine lv_aload_n hx hb dX6_strokesIn_12 rfl (lv_at hl 0 rfl) ?_
    obtain ⟨hc_1, hf⟩ := aw_chk_some hf
    obtain ⟨q_2, hq_3, hf⟩ := aw_bind_some hf
    refine gf_X6_27 hx hb G hown hc_1 hq_3 dX6_strokesIn_13 ?_
    refine lv_aload_n hx hb dX6_strokesIn_16 rfl (lv_at hl 1 rfl) ?_
    refine lv_iload hx hb dX6_strokesIn_17 (lv_at hl 4 rfl) ?_
    obtain ⟨hc_4, hf⟩ := aw_chk_some hf
    refine aw_ial hx hb G hc_4 dX6_strokesIn_19 ?_
    obtain ⟨hc_5, hf⟩ := aw_chk_some hf
    refine aw_ial hx hb G hc_5 dX6_strokesIn_20 ?_
    refine lv_iadd hx hb dX6_strokesIn_21 ?_
    refine lv_istore_n (lv' := [(3, .int (x3 + (d.1 q_2 (d.1 x1 x4.toNatClampNeg).toNatClampNeg))), (0, .ref (ad x0)), (1, .ref (ad x1)), (2, .int x2), (4, .int x4)]) hx hb dX6_strokesIn_22 rfl hl (by decide) rfl (fun ls hl => ?_)
    refine lv_iinc (v := x4 + 1) (lv' := [(4, .int (x4 + 1)), (3, .int (x3 + (d.1 q_2 (d.1 x1 x4.toNatClampNeg).toNatClampNeg))), (0, .ref (ad x0)), (1, .ref (ad x1)), (2, .int x2)]) hx hb dX6_strokesIn_23 hl (k := 4) rfl rfl (by decide) rfl (fun ls hl => ?_)
    refine lv_goto (tgt := 5) hx hb dX6_strokesIn_26 (by decide) ?_
    exact hkb5 _ _ _ hf _ _ _ (lv_sub hl [2, 3, 4, 1, 0] rfl) G
theorem w_X6_strokesIn_L5 {z : Int32 × Dt} (X : aw_X p c cX6_strokesIn 5 s RX6 m meth (some .int)) {k5 : Int32 → Dt → Option (Int32 × Dt)} {x0 : Nat} {x1 : Nat} {x2 : Int32} (n : Nat) {x3 : Int32} {x4 : Int32} {d : Dt} (hf : f_X6_strokesIn_L5 σ n k5 x0 x1 x2 x3 x4 d = some z) (hk5 : ∀ (y3 : Int32) (d : Dt), k5 y3 d = some z → ∀ (H : Heap) (locs : List Loc) (ls : Array Slot), lv_has ls 5 [(3, .int y3)] → aw_G D cA base ad σ d s H locs → W p l e rm_X6_strokesIn s m args below meth c H locs 0 0 (aw_Ei D cA base ad σ below args s z) (F0 m 29 ls [])) {H : Heap} {locs : List Loc} {ls : Array Slot} (hl : lv_has ls 5 [(0, .ref (ad x0)), (1, .ref (ad x1)), (2, .int x2), (3, .int x3), (4, .int x4)]) (G : aw_G D cA base ad σ d s H locs) : W p l e rm_X6_strokesIn s m args below meth c H locs 0 0 (aw_Ei D cA base ad σ below args s z) (F0 m 5 ls []) := by
  induction n generalizing x3 x4 d H locs ls with
  | zero => exact absurd (show (none : Option (Int32 × Dt)) = some z from hf) (by simp)
  | succ n ih => exact w_X6_strokesIn_B5 X (kb5 := f_X6_strokesIn_L5 σ n k5 x0 x1 x2) hf  (fun x3 x4 d hf H locs ls hl G => ih hf hl G) hk5 hl G
end W_X6_strokesIn
set_option maxHeartbeats 4000000 in
set_option maxRecDepth 100000 in
theorem c_X6_strokesIn (l : Launch) {σ : Sg} {x0 : Nat} {x1 : Nat} {x2 : Int32} {d : Dt} {z : Int32 × Dt} (hf : f_X6_strokesIn σ x0 x1 x2 d = some z) : aw_Mi l yX6_strokesIn (Cond.code yX6_strokesIn cX6_strokesIn 5 (some .int)) rm_X6_strokesIn (fun ad => [.ref (ad x0), .ref (ad x1), .int x2]) σ d z := by
  intro D cA base ad
  refine aw_ofW (own := RX6) (cc := cX6_strokesIn) (nL := 5) (ret := some .int) (by decide) rfl rfl ?_
  intro p e s m below meth c X hnm G
  have hx := X.1; have hb := X.2.1; have hml := X.2.2.1; have hown := X.2.2.2.1
  refine aw_ls (lv := [(0, .ref (ad x0)), (1, .ref (ad x1)), (2, .int x2)]) (Nat.le_of_ble_eq_true rfl) rfl (fun ls hl => ?_)
  unfold f_X6_strokesIn at hf
  refine lv_iconst (v := (0 : Int32)) hx hb dX6_strokesIn_0 (by decide) ?_
  refine lv_istore_n (lv' := [(3, .int ((0 : Int32))), (0, .ref (ad x0)), (1, .ref (ad x1)), (2, .int x2)]) hx hb dX6_strokesIn_1 rfl hl (by decide) rfl (fun ls hl => ?_)
  refine lv_iconst (v := (0 : Int32)) hx hb dX6_strokesIn_2 (by decide) ?_
  refine lv_istore (lv' := [(4, .int ((0 : Int32))), (3, .int ((0 : Int32))), (0, .ref (ad x0)), (1, .ref (ad x1)), (2, .int x2)]) hx hb dX6_strokesIn_3 hl (by decide) rfl (fun ls hl => ?_)
  refine w_X6_strokesIn_L5 X aw_FU hf  (fun x3_6 d_7 hf H locs ls hl G => ?_) (lv_sub hl [2, 3, 4, 1, 0] rfl) G
  refine lv_iload_n hx hb dX6_strokesIn_29 rfl (lv_at hl 0 rfl) ?_
  exact aw_reti X G hf dX6_strokesIn_30
def rm_X7_take : Room := { frames := 2, cells := 0, slots := 0, locals := 49 }
def f_X7_take_B24 (σ : Sg) (kb24 : Int32 → Int32 → Dt → Option (Unit × Dt)) (k24 : Int32 → Dt → Option (Unit × Dt)) (x0 : Nat) (x1 : Nat) (x2 : Nat) (x3 : Int32) (x4 : Int32) (x5 : Int32) (d : Dt) : Option (Unit × Dt) :=
  aw_chk (aw_O σ 2 8 x2) ((σ.2.2 x2 6).bind (fun q_5 => aw_chk (aw_I σ 20 q_5 x3) (if (d.1 q_5 x3.toNatClampNeg) ≤ x5 then k24 x4 d else (σ.2.2 x2 5).bind (fun q_8 => aw_chk (aw_I σ 23 q_8 x3) ((σ.2.2 q_8 x3.toNatClampNeg).bind (fun q_11 => aw_chk (aw_I σ 20 q_11 x5) (aw_chk (aw_O σ 7 3 x0) ((σ.2.2 x0 0).bind (fun q_15 => aw_chk (aw_I σ 23 q_15 x3) ((σ.2.2 q_15 x3.toNatClampNeg).bind (fun q_18 => aw_chk (aw_O σ 1 5 x1) ((f_X1_spellSyllable σ x1 (d.1 q_11 x5.toNatClampNeg) q_18 x4 d).bind (fun z_20 => kb24 z_20.1 (x5 + 1) z_20.2)))))))))))))
def f_X7_take_L24 (σ : Sg) (n : Nat) (k24 : Int32 → Dt → Option (Unit × Dt)) (x0 : Nat) (x1 : Nat) (x2 : Nat) (x3 : Int32) : Int32 → Int32 → Dt → Option (Unit × Dt) := match n with
  | 0 => fun _ _ _ => none
  | n + 1 => fun x4 x5 d => f_X7_take_B24 σ (f_X7_take_L24 σ n k24 x0 x1 x2 x3) k24 x0 x1 x2 x3 x4 x5 d
def f_X7_take_B10 (σ : Sg) (kb10 : Int32 → Dt → Option (Unit × Dt)) (k10 : Dt → Option (Unit × Dt)) (x0 : Nat) (x1 : Nat) (x2 : Nat) (x3 : Int32) (d : Dt) : Option (Unit × Dt) :=
  aw_chk (aw_O σ 7 3 x0) (if (d.1 x0 2) ≤ x3 then k10 d else f_X7_take_L24 σ aw_FU (fun x4_23 d_24 => (σ.2.2 x0 1).bind (fun q_25 => aw_chk (aw_I σ 20 q_25 x3) (kb10 (x3 + 1) (aw_sI d_24 q_25 x3.toNatClampNeg x4_23)))) x0 x1 x2 x3 ((0 : Int32)) ((0 : Int32)) d)
def f_X7_take_L10 (σ : Sg) (n : Nat) (k10 : Dt → Option (Unit × Dt)) (x0 : Nat) (x1 : Nat) (x2 : Nat) : Int32 → Dt → Option (Unit × Dt) := match n with
  | 0 => fun _ _ => none
  | n + 1 => fun x3 d => f_X7_take_B10 σ (f_X7_take_L10 σ n k10 x0 x1 x2) k10 x0 x1 x2 x3 d
def f_X7_take (σ : Sg) (x0 : Nat) (x1 : Nat) (x2 : Nat) (d : Dt) : Option (Unit × Dt) :=
  aw_chk (aw_O σ 2 8 x2) (aw_chk (aw_O σ 7 3 x0) (f_X7_take_L10 σ aw_FU (fun d_28 => some ((), d_28)) x0 x1 x2 ((0 : Int32)) (aw_sI d x0 2 (d.1 x2 7))))
section W_X7_take
variable {p : Program} {l : Launch} {e : Env} {s : State} {m : MethodId} {args : Array Value} {below : List Frame} {meth : Method} {c : Code}
variable {D : va_G} {cA : Nat → ClassId} {base : Nat} {ad : Nat → Nat} {σ : Sg}
set_option maxHeartbeats 4000000 in
set_option maxRecDepth 100000 in
theorem w_X7_take_B24 {z : Unit × Dt} (X : aw_X p c cX7_take 6 s RX7 m meth (none)) {kb24 : Int32 → Int32 → Dt → Option (Unit × Dt)} {k24 : Int32 → Dt → Option (Unit × Dt)} {x0 : Nat} {x1 : Nat} {x2 : Nat} {x3 : Int32} {x4 : Int32} {x5 : Int32} {d : Dt} (hf : f_X7_take_B24 σ kb24 k24 x0 x1 x2 x3 x4 x5 d = some z) (hkb24 : ∀ (y4 : Int32) (y5 : Int32) (d : Dt), kb24 y4 y5 d = some z → ∀ (H : Heap) (locs : List Loc) (ls : Array Slot), lv_has ls 6 [(0, .ref (ad x0)), (1, .ref (ad x1)), (2, .ref (ad x2)), (3, .int x3), (4, .int y4), (5, .int y5)] → aw_G D cA base ad σ d s H locs → W p l e rm_X7_take s m args below meth c H locs 0 0 (aw_Ev D cA base ad σ below args s z) (F0 m 24 ls [])) (hk24 : ∀ (y4 : Int32) (d : Dt), k24 y4 d = some z → ∀ (H : Heap) (locs : List Loc) (ls : Array Slot), lv_has ls 6 [(0, .ref (ad x0)), (1, .ref (ad x1)), (2, .ref (ad x2)), (3, .int x3), (4, .int y4)] → aw_G D cA base ad σ d s H locs → W p l e rm_X7_take s m args below meth c H locs 0 0 (aw_Ev D cA base ad σ below args s z) (F0 m 64 ls [])) {H : Heap} {locs : List Loc} {ls : Array Slot} (hl : lv_has ls 6 [(0, .ref (ad x0)), (1, .ref (ad x1)), (2, .ref (ad x2)), (3, .int x3), (4, .int x4), (5, .int x5)]) (G : aw_G D cA base ad σ d s H locs) : W p l e rm_X7_take s m args below meth c H locs 0 0 (aw_Ev D cA base ad σ below args s z) (F0 m 24 ls []) := by
  have hx := X.1; have hb := X.2.1; have hml := X.2.2.1; have hown := X.2.2.2.1
  unfold f_X7_take_B24 at hf
  refine lv_iload hx hb dX7_take_24 (lv_at hl 5 rfl) ?_
  refine lv_aload_n hx hb dX7_take_26 rfl (lv_at hl 2 rfl) ?_
  obtain ⟨hc_4, hf⟩ := aw_chk_some hf
  obtain ⟨q_5, hq_6, hf⟩ := aw_bind_some hf
  refine gf_X7_29 hx hb G hown hc_4 hq_6 dX7_take_27 ?_
  refine lv_iload_n hx hb dX7_take_30 rfl (lv_at hl 3 rfl) ?_
  obtain ⟨hc_7, hf⟩ := aw_chk_some hf
  refine aw_ial hx hb G hc_7 dX7_take_31 ?_
  refine lv_icmp_ge (tgt := 64) hx hb dX7_take_32 (by decide) (fun hc => ?_) (fun hc => ?_)
  · have hf := aw_ite_t hc hf
    exact hk24 _ _ hf _ _ _ (lv_sub hl [0, 1, 2, 3, 4] rfl) G
  · have hf := aw_ite_f hc hf
    refine lv_aload_n hx hb dX7_take_35 rfl (lv_at hl 1 rfl) ?_
    refine lv_aload_n hx hb dX7_take_36 rfl (lv_at hl 2 rfl) ?_
    obtain ⟨q_8, hq_9, hf⟩ := aw_bind_some hf
    refine gf_X7_30 hx hb G hown hc_4 hq_9 dX7_take_37 ?_
    refine lv_iload_n hx hb dX7_take_40 rfl (lv_at hl 3 rfl) ?_
    obtain ⟨hc_10, hf⟩ := aw_chk_some hf
    obtain ⟨q_11, hq_12, hf⟩ := aw_bind_some hf
    refine aw_qal hx hb G 23 _ rfl rfl (by decide) hc_10 hq_12 dX7_take_41 ?_
    refine lv_iload hx hb dX7_take_42 (lv_at hl 5 rfl) ?_
    obtain ⟨hc_13, hf⟩ := aw_chk_some hf
    refine aw_ial hx hb G hc_13 dX7_take_44 ?_
    refine lv_aload_n hx hb dX7_take_45 rfl (lv_at hl 0 rfl) ?_
    obtain ⟨hc_14, hf⟩ := aw_chk_some hf
    obtain ⟨q_15, hq_16, hf⟩ := aw_bind_some hf
    refine gf_X7_11 hx hb G hown hc_14 hq_16 dX7_take_46 ?_
    refine lv_iload_n hx hb dX7_take_49 rfl (lv_at hl 3 rfl) ?_
    obtain ⟨hc_17, hf⟩ := aw_chk_some hf
    obtain ⟨q_18, hq_19, hf⟩ := aw_bind_some hf
    refine aw_qal hx hb G 23 _ rfl rfl (by decide) hc_17 hq_19 dX7_take_50 ?_
    refine lv_iload hx hb dX7_take_51 (lv_at hl 4 rfl) ?_
    obtain ⟨hc_22, hf⟩ := aw_chk_some hf
    obtain ⟨z_20, hz_21, hf⟩ := aw_bind_some hf
    refine aw_VI (As := [.int (d.1 q_11 x5.toNatClampNeg), .ref (ad q_18), .int x4]) (rest := []) X G hl.1 cr_X7_31 (c_X1_spellSyllable l hz_21) ⟨rfl, rfl⟩ rfl rfl rfl (by decide) hc_22 rfl ⟨Nat.le_of_ble_eq_true rfl, Nat.le_of_ble_eq_true rfl⟩ (Nat.le_of_ble_eq_true rfl) dX7_take_53 ⟨Nat.zero_le _, Nat.zero_le _⟩ (fun H locs G => ?_)
    refine lv_istore (lv' := [(4, .int z_20.1), (0, .ref (ad x0)), (1, .ref (ad x1)), (2, .ref (ad x2)), (3, .int x3), (5, .int x5)]) hx hb dX7_take_56 hl (by decide) rfl (fun ls hl => ?_)
    refine lv_iinc (v := x5 + 1) (lv' := [(5, .int (x5 + 1)), (4, .int z_20.1), (0, .ref (ad x0)), (1, .ref (ad x1)), (2, .ref (ad x2)), (3, .int x3)]) hx hb dX7_take_58 hl (k := 5) rfl rfl (by decide) rfl (fun ls hl => ?_)
    refine lv_goto (tgt := 24) hx hb dX7_take_61 (by decide) ?_
    exact hkb24 _ _ _ hf _ _ _ (lv_sub hl [2, 3, 4, 5, 1, 0] rfl) G
theorem w_X7_take_L24 {z : Unit × Dt} (X : aw_X p c cX7_take 6 s RX7 m meth (none)) {k24 : Int32 → Dt → Option (Unit × Dt)} {x0 : Nat} {x1 : Nat} {x2 : Nat} {x3 : Int32} (n : Nat) {x4 : Int32} {x5 : Int32} {d : Dt} (hf : f_X7_take_L24 σ n k24 x0 x1 x2 x3 x4 x5 d = some z) (hk24 : ∀ (y4 : Int32) (d : Dt), k24 y4 d = some z → ∀ (H : Heap) (locs : List Loc) (ls : Array Slot), lv_has ls 6 [(0, .ref (ad x0)), (1, .ref (ad x1)), (2, .ref (ad x2)), (3, .int x3), (4, .int y4)] → aw_G D cA base ad σ d s H locs → W p l e rm_X7_take s m args below meth c H locs 0 0 (aw_Ev D cA base ad σ below args s z) (F0 m 64 ls [])) {H : Heap} {locs : List Loc} {ls : Array Slot} (hl : lv_has ls 6 [(0, .ref (ad x0)), (1, .ref (ad x1)), (2, .ref (ad x2)), (3, .int x3), (4, .int x4), (5, .int x5)]) (G : aw_G D cA base ad σ d s H locs) : W p l e rm_X7_take s m args below meth c H locs 0 0 (aw_Ev D cA base ad σ below args s z) (F0 m 24 ls []) := by
  induction n generalizing x4 x5 d H locs ls with
  | zero => exact absurd (show (none : Option (Unit × Dt)) = some z from hf) (by simp)
  | succ n ih => exact w_X7_take_B24 X (kb24 := f_X7_take_L24 σ n k24 x0 x1 x2 x3) hf  (fun x4 x5 d hf H locs ls hl G => ih hf hl G) hk24 hl G
set_option maxHeartbeats 4000000 in
set_option maxRecDepth 100000 in
theorem w_X7_take_B10 {z : Unit × Dt} (X : aw_X p c cX7_take 6 s RX7 m meth (none)) {kb10 : Int32 → Dt → Option (Unit × Dt)} {k10 : Dt → Option (Unit × Dt)} {x0 : Nat} {x1 : Nat} {x2 : Nat} {x3 : Int32} {d : Dt} (hf : f_X7_take_B10 σ kb10 k10 x0 x1 x2 x3 d = some z) (hkb10 : ∀ (y3 : Int32) (d : Dt), kb10 y3 d = some z → ∀ (H : Heap) (locs : List Loc) (ls : Array Slot), lv_has ls 6 [(0, .ref (ad x0)), (1, .ref (ad x1)), (2, .ref (ad x2)), (3, .int y3)] → aw_G D cA base ad σ d s H locs → W p l e rm_X7_take s m args below meth c H locs 0 0 (aw_Ev D cA base ad σ below args s z) (F0 m 10 ls [])) (hk10 : ∀ (d : Dt), k10 d = some z → ∀ (H : Heap) (locs : List Loc) (ls : Array Slot), lv_has ls 6 [] → aw_G D cA base ad σ d s H locs → W p l e rm_X7_take s m args below meth c H locs 0 0 (aw_Ev D cA base ad σ below args s z) (F0 m 78 ls [])) {H : Heap} {locs : List Loc} {ls : Array Slot} (hl : lv_has ls 6 [(0, .ref (ad x0)), (1, .ref (ad x1)), (2, .ref (ad x2)), (3, .int x3)]) (G : aw_G D cA base ad σ d s H locs) : W p l e rm_X7_take s m args below meth c H locs 0 0 (aw_Ev D cA base ad σ below args s z) (F0 m 10 ls []) := by
  have hx := X.1; have hb := X.2.1; have hml := X.2.2.1; have hown := X.2.2.2.1
  unfold f_X7_take_B10 at hf
  refine lv_iload_n hx hb dX7_take_10 rfl (lv_at hl 3 rfl) ?_
  refine lv_aload_n hx hb dX7_take_11 rfl (lv_at hl 0 rfl) ?_
  obtain ⟨hc_3, hf⟩ := aw_chk_some hf
  refine gf_X7_20 hx hb G hown hc_3 dX7_take_12 ?_
  refine lv_icmp_ge (tgt := 78) hx hb dX7_take_15 (by decide) (fun hc => ?_) (fun hc => ?_)
  · have hf := aw_ite_t hc hf
    exact hk10 _ hf _ _ _ (lv_sub hl [] rfl) G
  · have hf := aw_ite_f hc hf
    refine lv_iconst (v := (0 : Int32)) hx hb dX7_take_18 (by decide) ?_
    refine lv_istore (lv' := [(4, .int ((0 : Int32))), (0, .ref (ad x0)), (1, .ref (ad x1)), (2, .ref (ad x2)), (3, .int x3)]) hx hb dX7_take_19 hl (by decide) rfl (fun ls hl => ?_)
    refine lv_iconst (v := (0 : Int32)) hx hb dX7_take_21 (by decide) ?_
    refine lv_istore (lv' := [(5, .int ((0 : Int32))), (4, .int ((0 : Int32))), (0, .ref (ad x0)), (1, .ref (ad x1)), (2, .ref (ad x2)), (3, .int x3)]) hx hb dX7_take_22 hl (by decide) rfl (fun ls hl => ?_)
    refine w_X7_take_L24 X aw_FU hf  (fun x4_23 d_24 hf H locs ls hl G => ?_) (lv_sub hl [2, 3, 4, 5, 1, 0] rfl) G
    refine lv_aload_n hx hb dX7_take_64 rfl (lv_at hl 0 rfl) ?_
    obtain ⟨q_25, hq_26, hf⟩ := aw_bind_some hf
    refine gf_X7_16 hx hb G hown hc_3 hq_26 dX7_take_65 ?_
    refine lv_iload_n hx hb dX7_take_68 rfl (lv_at hl 3 rfl) ?_
    refine lv_iload hx hb dX7_take_69 (lv_at hl 4 rfl) ?_
    obtain ⟨hc_27, hf⟩ := aw_chk_some hf
    refine aw_ias hx hb G hc_27 dX7_take_71 (fun H locs G => ?_)
    refine lv_iinc (v := x3 + 1) (lv' := [(3, .int (x3 + 1)), (0, .ref (ad x0)), (1, .ref (ad x1)), (2, .ref (ad x2)), (4, .int x4_23)]) hx hb dX7_take_72 hl (k := 3) rfl rfl (by decide) rfl (fun ls hl => ?_)
    refine lv_goto (tgt := 10) hx hb dX7_take_75 (by decide) ?_
    exact hkb10 _ _ hf _ _ _ (lv_sub hl [1, 2, 3, 0] rfl) G
theorem w_X7_take_L10 {z : Unit × Dt} (X : aw_X p c cX7_take 6 s RX7 m meth (none)) {k10 : Dt → Option (Unit × Dt)} {x0 : Nat} {x1 : Nat} {x2 : Nat} (n : Nat) {x3 : Int32} {d : Dt} (hf : f_X7_take_L10 σ n k10 x0 x1 x2 x3 d = some z) (hk10 : ∀ (d : Dt), k10 d = some z → ∀ (H : Heap) (locs : List Loc) (ls : Array Slot), lv_has ls 6 [] → aw_G D cA base ad σ d s H locs → W p l e rm_X7_take s m args below meth c H locs 0 0 (aw_Ev D cA base ad σ below args s z) (F0 m 78 ls [])) {H : Heap} {locs : List Loc} {ls : Array Slot} (hl : lv_has ls 6 [(0, .ref (ad x0)), (1, .ref (ad x1)), (2, .ref (ad x2)), (3, .int x3)]) (G : aw_G D cA base ad σ d s H locs) : W p l e rm_X7_take s m args below meth c H locs 0 0 (aw_Ev D cA base ad σ below args s z) (F0 m 10 ls []) := by
  induction n generalizing x3 d H locs ls with
  | zero => exact absurd (show (none : Option (Unit × Dt)) = some z from hf) (by simp)
  | succ n ih => exact w_X7_take_B10 X (kb10 := f_X7_take_L10 σ n k10 x0 x1 x2) hf  (fun x3 d hf H locs ls hl G => ih hf hl G) hk10 hl G
end W_X7_take
set_option maxHeartbeats 4000000 in
set_option maxRecDepth 100000 in
theorem c_X7_take (l : Launch) {σ : Sg} {x0 : Nat} {x1 : Nat} {x2 : Nat} {d : Dt} {z : Unit × Dt} (hf : f_X7_take σ x0 x1 x2 d = some z) : aw_Mv l yX7_take (Cond.code yX7_take cX7_take 6 (none)) rm_X7_take (fun ad => [.ref (ad x0), .ref (ad x1), .ref (ad x2)]) σ d z := by
  intro D cA base ad
  refine aw_ofW (own := RX7) (cc := cX7_take) (nL := 6) (ret := none) (by decide) rfl rfl ?_
  intro p e s m below meth c X hnm G
  have hx := X.1; have hb := X.2.1; have hml := X.2.2.1; have hown := X.2.2.2.1
  refine aw_ls (lv := [(0, .ref (ad x0)), (1, .ref (ad x1)), (2, .ref (ad x2))]) (Nat.le_of_ble_eq_true rfl) rfl (fun ls hl => ?_)
  unfold f_X7_take at hf
  refine lv_aload_n hx hb dX7_take_0 rfl (lv_at hl 0 rfl) ?_
  refine lv_aload_n hx hb dX7_take_1 rfl (lv_at hl 2 rfl) ?_
  obtain ⟨hc_1, hf⟩ := aw_chk_some hf
  refine gf_X7_24 hx hb G hown hc_1 dX7_take_2 ?_
  obtain ⟨hc_2, hf⟩ := aw_chk_some hf
  refine pf_X7_20 hx hb G hown hc_2 dX7_take_5 (fun H locs G => ?_)
  refine lv_iconst (v := (0 : Int32)) hx hb dX7_take_8 (by decide) ?_
  refine lv_istore_n (lv' := [(3, .int ((0 : Int32))), (0, .ref (ad x0)), (1, .ref (ad x1)), (2, .ref (ad x2))]) hx hb dX7_take_9 rfl hl (by decide) rfl (fun ls hl => ?_)
  refine w_X7_take_L10 X aw_FU hf  (fun d_28 hf H locs ls hl G => ?_) (lv_sub hl [1, 2, 3, 0] rfl) G
  exact aw_retv X G hf dX7_take_78
def rm_X7_sameRow : Room := { frames := 0, cells := 0, slots := 0, locals := 0 }
def f_X7_sameRow_B10 (σ : Sg) (kb10 : Int32 → Dt → Option (Int32 × Dt)) (k10 : Dt → Option (Int32 × Dt)) (x0 : Nat) (x1 : Int32) (x2 : Nat) (x4 : Int32) (d : Dt) : Option (Int32 × Dt) :=
  if x1 ≤ x4 then k10 d else aw_chk (aw_I σ 20 x0 x4) (aw_chk (aw_I σ 20 x2 x4) (if (d.1 x0 x4.toNatClampNeg) = (d.1 x2 x4.toNatClampNeg) then kb10 (x4 + 1) d else aw_chk (((0 : Int32)) &&& 1 = ((0 : Int32))) (some ((0 : Int32), d))))
def f_X7_sameRow_L10 (σ : Sg) (n : Nat) (k10 : Dt → Option (Int32 × Dt)) (x0 : Nat) (x1 : Int32) (x2 : Nat) : Int32 → Dt → Option (Int32 × Dt) := match n with
  | 0 => fun _ _ => none
  | n + 1 => fun x4 d => f_X7_sameRow_B10 σ (f_X7_sameRow_L10 σ n k10 x0 x1 x2) k10 x0 x1 x2 x4 d
def f_X7_sameRow (σ : Sg) (x0 : Nat) (x1 : Int32) (x2 : Nat) (x3 : Int32) (d : Dt) : Option (Int32 × Dt) :=
  if x1 = x3 then f_X7_sameRow_L10 σ aw_FU (fun d_4 => aw_chk (((1 : Int32)) &&& 1 = ((1 : Int32))) (some ((1 : Int32), d_4))) x0 x1 x2 ((0 : Int32)) d else aw_chk (((0 : Int32)) &&& 1 = ((0 : Int32))) (some ((0 : Int32), d))
section W_X7_sameRow
variable {p : Program} {l : Launch} {e : Env} {s : State} {m : MethodId} {args : Array Value} {below : List Frame} {meth : Method} {c : Code}
variable {D : va_G} {cA : Nat → ClassId} {base : Nat} {ad : Nat → Nat} {σ : Sg}
set_option maxHeartbeats 4000000 in
set_option maxRecDepth 100000 in
theorem w_X7_sameRow_B10 {z : Int32 × Dt} (X : aw_X p c cX7_sameRow 5 s RX7 m meth (some .boolean)) {kb10 : Int32 → Dt → Option (Int32 × Dt)} {k10 : Dt → Option (Int32 × Dt)} {x0 : Nat} {x1 : Int32} {x2 : Nat} {x4 : Int32} {d : Dt} (hf : f_X7_sameRow_B10 σ kb10 k10 x0 x1 x2 x4 d = some z) (hkb10 : ∀ (y4 : Int32) (d : Dt), kb10 y4 d = some z → ∀ (H : Heap) (locs : List Loc) (ls : Array Slot), lv_has ls 5 [(0, .ref (ad x0)), (1, .int x1), (2, .ref (ad x2)), (4, .int y4)] → aw_G D cA base ad σ d s H locs → W p l e rm_X7_sameRow s m args below meth c H locs 0 0 (aw_Ei D cA base ad σ below args s z) (F0 m 10 ls [])) (hk10 : ∀ (d : Dt), k10 d = some z → ∀ (H : Heap) (locs : List Loc) (ls : Array Slot), lv_has ls 5 [] → aw_G D cA base ad σ d s H locs → W p l e rm_X7_sameRow s m args below meth c H locs 0 0 (aw_Ei D cA base ad σ below args s z) (F0 m 35 ls [])) {H : Heap} {locs : List Loc} {ls : Array Slot} (hl : lv_has ls 5 [(0, .ref (ad x0)), (1, .int x1), (2, .ref (ad x2)), (4, .int x4)]) (G : aw_G D cA base ad σ d s H locs) : W p l e rm_X7_sameRow s m args below meth c H locs 0 0 (aw_Ei D cA base ad σ below args s z) (F0 m 10 ls []) := by
  have hx := X.1; have hb := X.2.1; have hml := X.2.2.1; have hown := X.2.2.2.1
  unfold f_X7_sameRow_B10 at hf
  refine lv_iload hx hb dX7_sameRow_10 (lv_at hl 3 rfl) ?_
  refine lv_iload_n hx hb dX7_sameRow_12 rfl (lv_at hl 1 rfl) ?_
  refine lv_icmp_ge (tgt := 35) hx hb dX7_sameRow_13 (by decide) (fun hc => ?_) (fun hc => ?_)
  · have hf := aw_ite_t hc hf
    exact hk10 _ hf _ _ _ (lv_sub hl [] rfl) G
  · have hf := aw_ite_f hc hf
    refine lv_aload_n hx hb dX7_sameRow_16 rfl (lv_at hl 0 rfl) ?_
    refine lv_iload hx hb dX7_sameRow_17 (lv_at hl 3 rfl) ?_
    obtain ⟨hc_1, hf⟩ := aw_chk_some hf
    refine aw_ial hx hb G hc_1 dX7_sameRow_19 ?_
    refine lv_aload_n hx hb dX7_sameRow_20 rfl (lv_at hl 2 rfl) ?_
    refine lv_iload hx hb dX7_sameRow_21 (lv_at hl 3 rfl) ?_
    obtain ⟨hc_2, hf⟩ := aw_chk_some hf
    refine aw_ial hx hb G hc_2 dX7_sameRow_23 ?_
    refine lv_icmp_eq (tgt := 29) hx hb dX7_sameRow_24 (by decide) (fun hc => ?_) (fun hc => ?_)
    · have hf := aw_ite_t hc hf
      refine lv_iinc (v := x4 + 1) (lv' := [(4, .int (x4 + 1)), (0, .ref (ad x0)), (1, .int x1), (2, .ref (ad x2))]) hx hb dX7_sameRow_29 hl (k := 3) rfl rfl (by decide) rfl (fun ls hl => ?_)
      refine lv_goto (tgt := 10) hx hb dX7_sameRow_32 (by decide) ?_
      exact hkb10 _ _ hf _ _ _ (lv_sub hl [1, 2, 3, 0] rfl) G
    · have hf := aw_ite_f hc hf
      refine lv_iconst (v := (0 : Int32)) hx hb dX7_sameRow_27 (by decide) ?_
      obtain ⟨hc_3, hf⟩ := aw_chk_some hf
      exact aw_retz X G hc_3 hf dX7_sameRow_28
theorem w_X7_sameRow_L10 {z : Int32 × Dt} (X : aw_X p c cX7_sameRow 5 s RX7 m meth (some .boolean)) {k10 : Dt → Option (Int32 × Dt)} {x0 : Nat} {x1 : Int32} {x2 : Nat} (n : Nat) {x4 : Int32} {d : Dt} (hf : f_X7_sameRow_L10 σ n k10 x0 x1 x2 x4 d = some z) (hk10 : ∀ (d : Dt), k10 d = some z → ∀ (H : Heap) (locs : List Loc) (ls : Array Slot), lv_has ls 5 [] → aw_G D cA base ad σ d s H locs → W p l e rm_X7_sameRow s m args below meth c H locs 0 0 (aw_Ei D cA base ad σ below args s z) (F0 m 35 ls [])) {H : Heap} {locs : List Loc} {ls : Array Slot} (hl : lv_has ls 5 [(0, .ref (ad x0)), (1, .int x1), (2, .ref (ad x2)), (4, .int x4)]) (G : aw_G D cA base ad σ d s H locs) : W p l e rm_X7_sameRow s m args below meth c H locs 0 0 (aw_Ei D cA base ad σ below args s z) (F0 m 10 ls []) := by
  induction n generalizing x4 d H locs ls with
  | zero => exact absurd (show (none : Option (Int32 × Dt)) = some z from hf) (by simp)
  | succ n ih => exact w_X7_sameRow_B10 X (kb10 := f_X7_sameRow_L10 σ n k10 x0 x1 x2) hf  (fun x4 d hf H locs ls hl G => ih hf hl G) hk10 hl G
end W_X7_sameRow
set_option maxHeartbeats 4000000 in
set_option maxRecDepth 100000 in
theorem c_X7_sameRow (l : Launch) {σ : Sg} {x0 : Nat} {x1 : Int32} {x2 : Nat} {x3 : Int32} {d : Dt} {z : Int32 × Dt} (hf : f_X7_sameRow σ x0 x1 x2 x3 d = some z) : aw_Mi l yX7_sameRow (Cond.code yX7_sameRow cX7_sameRow 5 (some .boolean)) rm_X7_sameRow (fun ad => [.ref (ad x0), .int x1, .ref (ad x2), .int x3]) σ d z := by
  intro D cA base ad
  refine aw_ofW (own := RX7) (cc := cX7_sameRow) (nL := 5) (ret := some .boolean) (by decide) rfl rfl ?_
  intro p e s m below meth c X hnm G
  have hx := X.1; have hb := X.2.1; have hml := X.2.2.1; have hown := X.2.2.2.1
  refine aw_ls (lv := [(0, .ref (ad x0)), (1, .int x1), (2, .ref (ad x2)), (3, .int x3)]) (Nat.le_of_ble_eq_true rfl) rfl (fun ls hl => ?_)
  unfold f_X7_sameRow at hf
  refine lv_iload_n hx hb dX7_sameRow_0 rfl (lv_at hl 1 rfl) ?_
  refine lv_iload_n hx hb dX7_sameRow_1 rfl (lv_at hl 3 rfl) ?_
  refine lv_icmp_eq (tgt := 7) hx hb dX7_sameRow_2 (by decide) (fun hc => ?_) (fun hc => ?_)
  · have hf := aw_ite_t hc hf
    refine lv_iconst (v := (0 : Int32)) hx hb dX7_sameRow_7 (by decide) ?_
    refine lv_istore (lv' := [(4, .int ((0 : Int32))), (0, .ref (ad x0)), (1, .int x1), (2, .ref (ad x2)), (3, .int x3)]) hx hb dX7_sameRow_8 hl (by decide) rfl (fun ls hl => ?_)
    refine w_X7_sameRow_L10 X aw_FU hf  (fun d_4 hf H locs ls hl G => ?_) (lv_sub hl [1, 2, 3, 0] rfl) G
    refine lv_iconst (v := (1 : Int32)) hx hb dX7_sameRow_35 (by decide) ?_
    obtain ⟨hc_5, hf⟩ := aw_chk_some hf
    exact aw_retz X G hc_5 hf dX7_sameRow_36
  · have hf := aw_ite_f hc hf
    refine lv_iconst (v := (0 : Int32)) hx hb dX7_sameRow_5 (by decide) ?_
    obtain ⟨hc_6, hf⟩ := aw_chk_some hf
    exact aw_retz X G hc_6 hf dX7_sameRow_6
def rm_X7_alike : Room := { frames := 1, cells := 0, slots := 0, locals := 24 }
def f_X7_alike (σ : Sg) (x0 : Nat) (x1 : Int32) (x2 : Int32) (d : Dt) : Option (Int32 × Dt) :=
  aw_chk (aw_O σ 7 3 x0) ((σ.2.2 x0 0).bind (fun q_2 => aw_chk (aw_I σ 23 q_2 x1) ((σ.2.2 q_2 x1.toNatClampNeg).bind (fun q_5 => (σ.2.2 x0 1).bind (fun q_7 => aw_chk (aw_I σ 20 q_7 x1) (aw_chk (aw_I σ 23 q_2 x2) ((σ.2.2 q_2 x2.toNatClampNeg).bind (fun q_11 => aw_chk (aw_I σ 20 q_7 x2) ((f_X7_sameRow σ q_5 (d.1 q_7 x1.toNatClampNeg) q_11 (d.1 q_7 x2.toNatClampNeg) d).bind (fun z_14 => aw_chk (z_14.1 &&& 1 = z_14.1) (some (z_14.1, z_14.2))))))))))))
section W_X7_alike
variable {p : Program} {l : Launch} {e : Env} {s : State} {m : MethodId} {args : Array Value} {below : List Frame} {meth : Method} {c : Code}
variable {D : va_G} {cA : Nat → ClassId} {base : Nat} {ad : Nat → Nat} {σ : Sg}
end W_X7_alike
set_option maxHeartbeats 4000000 in
set_option maxRecDepth 100000 in
theorem c_X7_alike (l : Launch) {σ : Sg} {x0 : Nat} {x1 : Int32} {x2 : Int32} {d : Dt} {z : Int32 × Dt} (hf : f_X7_alike σ x0 x1 x2 d = some z) : aw_Mi l yX7_alike (Cond.code yX7_alike cX7_alike 3 (some .boolean)) rm_X7_alike (fun ad => [.ref (ad x0), .int x1, .int x2]) σ d z := by
  intro D cA base ad
  refine aw_ofW (own := RX7) (cc := cX7_alike) (nL := 3) (ret := some .boolean) (by decide) rfl rfl ?_
  intro p e s m below meth c X hnm G
  have hx := X.1; have hb := X.2.1; have hml := X.2.2.1; have hown := X.2.2.2.1
  refine aw_ls (lv := [(0, .ref (ad x0)), (1, .int x1), (2, .int x2)]) (Nat.le_of_ble_eq_true rfl) rfl (fun ls hl => ?_)
  unfold f_X7_alike at hf
  refine lv_aload_n hx hb dX7_alike_0 rfl (lv_at hl 0 rfl) ?_
  obtain ⟨hc_1, hf⟩ := aw_chk_some hf
  obtain ⟨q_2, hq_3, hf⟩ := aw_bind_some hf
  refine gf_X7_11 hx hb G hown hc_1 hq_3 dX7_alike_1 ?_
  refine lv_iload_n hx hb dX7_alike_4 rfl (lv_at hl 1 rfl) ?_
  obtain ⟨hc_4, hf⟩ := aw_chk_some hf
  obtain ⟨q_5, hq_6, hf⟩ := aw_bind_some hf
  refine aw_qal hx hb G 23 _ rfl rfl (by decide) hc_4 hq_6 dX7_alike_5 ?_
  refine lv_aload_n hx hb dX7_alike_6 rfl (lv_at hl 0 rfl) ?_
  obtain ⟨q_7, hq_8, hf⟩ := aw_bind_some hf
  refine gf_X7_16 hx hb G hown hc_1 hq_8 dX7_alike_7 ?_
  refine lv_iload_n hx hb dX7_alike_10 rfl (lv_at hl 1 rfl) ?_
  obtain ⟨hc_9, hf⟩ := aw_chk_some hf
  refine aw_ial hx hb G hc_9 dX7_alike_11 ?_
  refine lv_aload_n hx hb dX7_alike_12 rfl (lv_at hl 0 rfl) ?_
  refine gf_X7_11 hx hb G hown hc_1 hq_3 dX7_alike_13 ?_
  refine lv_iload_n hx hb dX7_alike_16 rfl (lv_at hl 2 rfl) ?_
  obtain ⟨hc_10, hf⟩ := aw_chk_some hf
  obtain ⟨q_11, hq_12, hf⟩ := aw_bind_some hf
  refine aw_qal hx hb G 23 _ rfl rfl (by decide) hc_10 hq_12 dX7_alike_17 ?_
  refine lv_aload_n hx hb dX7_alike_18 rfl (lv_at hl 0 rfl) ?_
  refine gf_X7_16 hx hb G hown hc_1 hq_8 dX7_alike_19 ?_
  refine lv_iload_n hx hb dX7_alike_22 rfl (lv_at hl 2 rfl) ?_
  obtain ⟨hc_13, hf⟩ := aw_chk_some hf
  refine aw_ial hx hb G hc_13 dX7_alike_23 ?_
  obtain ⟨z_14, hz_15, hf⟩ := aw_bind_some hf
  refine aw_SI (As := [.ref (ad q_5), .int (d.1 q_7 x1.toNatClampNeg), .ref (ad q_11), .int (d.1 q_7 x2.toNatClampNeg)]) (rest := []) X G hl.1 cr_X7_37 (c_X7_sameRow l hz_15) ⟨rfl, rfl⟩ rfl rfl rfl ⟨Nat.le_of_ble_eq_true rfl, Nat.le_of_ble_eq_true rfl⟩ (Nat.le_of_ble_eq_true rfl) dX7_alike_24 ⟨Nat.zero_le _, Nat.zero_le _⟩ (fun H locs G => ?_)
  obtain ⟨hc_16, hf⟩ := aw_chk_some hf
  exact aw_retz X G hc_16 hf dX7_alike_27
def rm_X7_alikeIn : Room := { frames := 1, cells := 0, slots := 0, locals := 24 }
def f_X7_alikeIn (σ : Sg) (x0 : Nat) (x1 : Nat) (x2 : Int32) (d : Dt) : Option (Int32 × Dt) :=
  aw_chk (aw_O σ 7 3 x0) ((σ.2.2 x0 0).bind (fun q_2 => aw_chk (aw_I σ 23 q_2 x2) ((σ.2.2 q_2 x2.toNatClampNeg).bind (fun q_5 => (σ.2.2 x0 1).bind (fun q_7 => aw_chk (aw_I σ 20 q_7 x2) (aw_chk (aw_O σ 7 3 x1) ((σ.2.2 x1 0).bind (fun q_11 => aw_chk (aw_I σ 23 q_11 x2) ((σ.2.2 q_11 x2.toNatClampNeg).bind (fun q_14 => (σ.2.2 x1 1).bind (fun q_16 => aw_chk (aw_I σ 20 q_16 x2) ((f_X7_sameRow σ q_5 (d.1 q_7 x2.toNatClampNeg) q_14 (d.1 q_16 x2.toNatClampNeg) d).bind (fun z_19 => aw_chk (z_19.1 &&& 1 = z_19.1) (some (z_19.1, z_19.2)))))))))))))))
section W_X7_alikeIn
variable {p : Program} {l : Launch} {e : Env} {s : State} {m : MethodId} {args : Array Value} {below : List Frame} {meth : Method} {c : Code}
variable {D : va_G} {cA : Nat → ClassId} {base : Nat} {ad : Nat → Nat} {σ : Sg}
end W_X7_alikeIn
set_option maxHeartbeats 4000000 in
set_option maxRecDepth 100000 in
theorem c_X7_alikeIn (l : Launch) {σ : Sg} {x0 : Nat} {x1 : Nat} {x2 : Int32} {d : Dt} {z : Int32 × Dt} (hf : f_X7_alikeIn σ x0 x1 x2 d = some z) : aw_Mi l yX7_alikeIn (Cond.code yX7_alikeIn cX7_alikeIn 3 (some .boolean)) rm_X7_alikeIn (fun ad => [.ref (ad x0), .ref (ad x1), .int x2]) σ d z := by
  intro D cA base ad
  refine aw_ofW (own := RX7) (cc := cX7_alikeIn) (nL := 3) (ret := some .boolean) (by decide) rfl rfl ?_
  intro p e s m below meth c X hnm G
  have hx := X.1; have hb := X.2.1; have hml := X.2.2.1; have hown := X.2.2.2.1
  refine aw_ls (lv := [(0, .ref (ad x0)), (1, .ref (ad x1)), (2, .int x2)]) (Nat.le_of_ble_eq_true rfl) rfl (fun ls hl => ?_)
  unfold f_X7_alikeIn at hf
  refine lv_aload_n hx hb dX7_alikeIn_0 rfl (lv_at hl 0 rfl) ?_
  obtain ⟨hc_1, hf⟩ := aw_chk_some hf
  obtain ⟨q_2, hq_3, hf⟩ := aw_bind_some hf
  refine gf_X7_11 hx hb G hown hc_1 hq_3 dX7_alikeIn_1 ?_
  refine lv_iload_n hx hb dX7_alikeIn_4 rfl (lv_at hl 2 rfl) ?_
  obtain ⟨hc_4, hf⟩ := aw_chk_some hf
  obtain ⟨q_5, hq_6, hf⟩ := aw_bind_some hf
  refine aw_qal hx hb G 23 _ rfl rfl (by decide) hc_4 hq_6 dX7_alikeIn_5 ?_
  refine lv_aload_n hx hb dX7_alikeIn_6 rfl (lv_at hl 0 rfl) ?_
  obtain ⟨q_7, hq_8, hf⟩ := aw_bind_some hf
  refine gf_X7_16 hx hb G hown hc_1 hq_8 dX7_alikeIn_7 ?_
  refine lv_iload_n hx hb dX7_alikeIn_10 rfl (lv_at hl 2 rfl) ?_
  obtain ⟨hc_9, hf⟩ := aw_chk_some hf
  refine aw_ial hx hb G hc_9 dX7_alikeIn_11 ?_
  refine lv_aload_n hx hb dX7_alikeIn_12 rfl (lv_at hl 1 rfl) ?_
  obtain ⟨hc_10, hf⟩ := aw_chk_some hf
  obtain ⟨q_11, hq_12, hf⟩ := aw_bind_some hf
  refine gf_X7_11 hx hb G hown hc_10 hq_12 dX7_alikeIn_13 ?_
  refine lv_iload_n hx hb dX7_alikeIn_16 rfl (lv_at hl 2 rfl) ?_
  obtain ⟨hc_13, hf⟩ := aw_chk_some hf
  obtain ⟨q_14, hq_15, hf⟩ := aw_bind_some hf
  refine aw_qal hx hb G 23 _ rfl rfl (by decide) hc_13 hq_15 dX7_alikeIn_17 ?_
  refine lv_aload_n hx hb dX7_alikeIn_18 rfl (lv_at hl 1 rfl) ?_
  obtain ⟨q_16, hq_17, hf⟩ := aw_bind_some hf
  refine gf_X7_16 hx hb G hown hc_10 hq_17 dX7_alikeIn_19 ?_
  refine lv_iload_n hx hb dX7_alikeIn_22 rfl (lv_at hl 2 rfl) ?_
  obtain ⟨hc_18, hf⟩ := aw_chk_some hf
  refine aw_ial hx hb G hc_18 dX7_alikeIn_23 ?_
  obtain ⟨z_19, hz_20, hf⟩ := aw_bind_some hf
  refine aw_SI (As := [.ref (ad q_5), .int (d.1 q_7 x2.toNatClampNeg), .ref (ad q_14), .int (d.1 q_16 x2.toNatClampNeg)]) (rest := []) X G hl.1 cr_X7_37 (c_X7_sameRow l hz_20) ⟨rfl, rfl⟩ rfl rfl rfl ⟨Nat.le_of_ble_eq_true rfl, Nat.le_of_ble_eq_true rfl⟩ (Nat.le_of_ble_eq_true rfl) dX7_alikeIn_24 ⟨Nat.zero_le _, Nat.zero_le _⟩ (fun H locs G => ?_)
  obtain ⟨hc_21, hf⟩ := aw_chk_some hf
  exact aw_retz X G hc_21 hf dX7_alikeIn_27
def rm_X7_isHeaviest : Room := { frames := 2, cells := 0, slots := 0, locals := 46 }
def f_X7_isHeaviest_J56 (σ : Sg) (kb2 : Int32 → Dt → Option (Int32 × Dt)) (x0 : Nat) (x1 : Int32) (x2 : Nat) (x3 : Int32) (d : Dt) : Option (Int32 × Dt) :=
  kb2 (x3 + 1) d
def f_X7_isHeaviest_J38 (σ : Sg) (kb2 : Int32 → Dt → Option (Int32 × Dt)) (t0 : Int32) (x0 : Nat) (x1 : Int32) (x2 : Nat) (x3 : Int32) (d : Dt) : Option (Int32 × Dt) :=
  if t0 = 0 then f_X7_isHeaviest_J56 σ kb2 x0 x1 x2 x3 d else aw_chk (aw_O σ 7 3 x0) ((f_X7_alike σ x0 x1 x3 d).bind (fun z_4 => if z_4.1 = 0 then f_X7_isHeaviest_J56 σ kb2 x0 x1 x2 x3 z_4.2 else aw_chk (((0 : Int32)) &&& 1 = ((0 : Int32))) (some ((0 : Int32), z_4.2))))
def f_X7_isHeaviest_J33 (σ : Sg) (kb2 : Int32 → Dt → Option (Int32 × Dt)) (x0 : Nat) (x1 : Int32) (x2 : Nat) (x3 : Int32) (d : Dt) : Option (Int32 × Dt) :=
  f_X7_isHeaviest_J38 σ kb2 ((1 : Int32)) x0 x1 x2 x3 d
def f_X7_isHeaviest_J37 (σ : Sg) (kb2 : Int32 → Dt → Option (Int32 × Dt)) (x0 : Nat) (x1 : Int32) (x2 : Nat) (x3 : Int32) (d : Dt) : Option (Int32 × Dt) :=
  f_X7_isHeaviest_J38 σ kb2 ((0 : Int32)) x0 x1 x2 x3 d
def f_X7_isHeaviest_B2 (σ : Sg) (kb2 : Int32 → Dt → Option (Int32 × Dt)) (k2 : Dt → Option (Int32 × Dt)) (x0 : Nat) (x1 : Int32) (x2 : Nat) (x3 : Int32) (d : Dt) : Option (Int32 × Dt) :=
  aw_chk (aw_O σ 7 3 x0) (if (d.1 x0 2) ≤ x3 then k2 d else aw_chk (aw_I σ 20 x2 x3) (aw_chk (aw_I σ 20 x2 x1) (if (d.1 x2 x1.toNatClampNeg) < (d.1 x2 x3.toNatClampNeg) then f_X7_isHeaviest_J33 σ kb2 x0 x1 x2 x3 d else if (d.1 x2 x3.toNatClampNeg) = (d.1 x2 x1.toNatClampNeg) then if x1 ≤ x3 then f_X7_isHeaviest_J37 σ kb2 x0 x1 x2 x3 d else f_X7_isHeaviest_J33 σ kb2 x0 x1 x2 x3 d else f_X7_isHeaviest_J37 σ kb2 x0 x1 x2 x3 d)))
def f_X7_isHeaviest_L2 (σ : Sg) (n : Nat) (k2 : Dt → Option (Int32 × Dt)) (x0 : Nat) (x1 : Int32) (x2 : Nat) : Int32 → Dt → Option (Int32 × Dt) := match n with
  | 0 => fun _ _ => none
  | n + 1 => fun x3 d => f_X7_isHeaviest_B2 σ (f_X7_isHeaviest_L2 σ n k2 x0 x1 x2) k2 x0 x1 x2 x3 d
def f_X7_isHeaviest (σ : Sg) (x0 : Nat) (x1 : Int32) (x2 : Nat) (d : Dt) : Option (Int32 × Dt) :=
  f_X7_isHeaviest_L2 σ aw_FU (fun d_8 => aw_chk (((1 : Int32)) &&& 1 = ((1 : Int32))) (some ((1 : Int32), d_8))) x0 x1 x2 ((0 : Int32)) d
section W_X7_isHeaviest
variable {p : Program} {l : Launch} {e : Env} {s : State} {m : MethodId} {args : Array Value} {below : List Frame} {meth : Method} {c : Code}
variable {D : va_G} {cA : Nat → ClassId} {base : Nat} {ad : Nat → Nat} {σ : Sg}
set_option maxHeartbeats 4000000 in
set_option maxRecDepth 100000 in
theorem w_X7_isHeaviest_J56 {z : Int32 × Dt} (X : aw_X p c cX7_isHeaviest 5 s RX7 m meth (some .boolean)) {kb2 : Int32 → Dt → Option (Int32 × Dt)} {x0 : Nat} {x1 : Int32} {x2 : Nat} {x3 : Int32} {d : Dt} (hf : f_X7_isHeaviest_J56 σ kb2 x0 x1 x2 x3 d = some z) (hkb2 : ∀ (y3 : Int32) (d : Dt), kb2 y3 d = some z → ∀ (H : Heap) (locs : List Loc) (ls : Array Slot), lv_has ls 5 [(0, .ref (ad x0)), (1, .int x1), (2, .ref (ad x2)), (3, .int y3)] → aw_G D cA base ad σ d s H locs → W p l e rm_X7_isHeaviest s m args below meth c H locs 0 0 (aw_Ei D cA base ad σ below args s z) (F0 m 2 ls [])) {H : Heap} {locs : List Loc} {ls : Array Slot} (hl : lv_has ls 5 [(0, .ref (ad x0)), (1, .int x1), (2, .ref (ad x2)), (3, .int x3)]) (G : aw_G D cA base ad σ d s H locs) : W p l e rm_X7_isHeaviest s m args below meth c H locs 0 0 (aw_Ei D cA base ad σ below args s z) (F0 m 56 ls []) := by
  have hx := X.1; have hb := X.2.1; have hml := X.2.2.1; have hown := X.2.2.2.1
  unfold f_X7_isHeaviest_J56 at hf
  refine lv_iinc (v := x3 + 1) (lv' := [(3, .int (x3 + 1)), (0, .ref (ad x0)), (1, .int x1), (2, .ref (ad x2))]) hx hb dX7_isHeaviest_56 hl (k := 3) rfl rfl (by decide) rfl (fun ls hl => ?_)
  refine lv_goto (tgt := 2) hx hb dX7_isHeaviest_59 (by decide) ?_
  exact hkb2 _ _ hf _ _ _ (lv_sub hl [1, 2, 3, 0] rfl) G
set_option maxHeartbeats 4000000 in
set_option maxRecDepth 100000 in
theorem w_X7_isHeaviest_J38 {z : Int32 × Dt} (X : aw_X p c cX7_isHeaviest 5 s RX7 m meth (some .boolean)) {kb2 : Int32 → Dt → Option (Int32 × Dt)} {t0 : Int32} {x0 : Nat} {x1 : Int32} {x2 : Nat} {x3 : Int32} {d : Dt} (hf : f_X7_isHeaviest_J38 σ kb2 t0 x0 x1 x2 x3 d = some z) (hkb2 : ∀ (y3 : Int32) (d : Dt), kb2 y3 d = some z → ∀ (H : Heap) (locs : List Loc) (ls : Array Slot), lv_has ls 5 [(0, .ref (ad x0)), (1, .int x1), (2, .ref (ad x2)), (3, .int y3)] → aw_G D cA base ad σ d s H locs → W p l e rm_X7_isHeaviest s m args below meth c H locs 0 0 (aw_Ei D cA base ad σ below args s z) (F0 m 2 ls [])) {H : Heap} {locs : List Loc} {ls : Array Slot} (hl : lv_has ls 5 [(0, .ref (ad x0)), (1, .int x1), (2, .ref (ad x2)), (3, .int x3)]) (G : aw_G D cA base ad σ d s H locs) : W p l e rm_X7_isHeaviest s m args below meth c H locs 0 0 (aw_Ei D cA base ad σ below args s z) (F0 m 38 ls [.int t0]) := by
  have hx := X.1; have hb := X.2.1; have hml := X.2.2.1; have hown := X.2.2.2.1
  unfold f_X7_isHeaviest_J38 at hf
  refine lv_istore (lv' := [(4, .int t0), (0, .ref (ad x0)), (1, .int x1), (2, .ref (ad x2)), (3, .int x3)]) hx hb dX7_isHeaviest_38 hl (by decide) rfl (fun ls hl => ?_)
  refine lv_iload hx hb dX7_isHeaviest_40 (lv_at hl 0 rfl) ?_
  refine lv_if_eq (tgt := 56) hx hb dX7_isHeaviest_42 (by decide) (fun hc => ?_) (fun hc => ?_)
  · have hf := aw_ite_t hc hf
    exact w_X7_isHeaviest_J56 X hf hkb2 (lv_sub hl [1, 2, 3, 4] rfl) G
  · have hf := aw_ite_f hc hf
    refine lv_aload_n hx hb dX7_isHeaviest_45 rfl (lv_at hl 1 rfl) ?_
    refine lv_iload_n hx hb dX7_isHeaviest_46 rfl (lv_at hl 2 rfl) ?_
    refine lv_iload_n hx hb dX7_isHeaviest_47 rfl (lv_at hl 4 rfl) ?_
    obtain ⟨hc_6, hf⟩ := aw_chk_some hf
    obtain ⟨z_4, hz_5, hf⟩ := aw_bind_some hf
    refine aw_VI (As := [.int x1, .int x3]) (rest := []) X G hl.1 cr_X7_45 (c_X7_alike l hz_5) ⟨rfl, rfl⟩ rfl rfl rfl (by decide) hc_6 rfl ⟨Nat.le_of_ble_eq_true rfl, Nat.le_of_ble_eq_true rfl⟩ (Nat.le_of_ble_eq_true rfl) dX7_isHeaviest_48 ⟨Nat.zero_le _, Nat.zero_le _⟩ (fun H locs G => ?_)
    refine lv_if_eq (tgt := 56) hx hb dX7_isHeaviest_51 (by decide) (fun hc => ?_) (fun hc => ?_)
    · have hf := aw_ite_t hc hf
      exact w_X7_isHeaviest_J56 X hf hkb2 (lv_sub hl [1, 2, 3, 4] rfl) G
    · have hf := aw_ite_f hc hf
      refine lv_iconst (v := (0 : Int32)) hx hb dX7_isHeaviest_54 (by decide) ?_
      obtain ⟨hc_7, hf⟩ := aw_chk_some hf
      exact aw_retz X G hc_7 hf dX7_isHeaviest_55
set_option maxHeartbeats 4000000 in
set_option maxRecDepth 100000 in
theorem w_X7_isHeaviest_J33 {z : Int32 × Dt} (X : aw_X p c cX7_isHeaviest 5 s RX7 m meth (some .boolean)) {kb2 : Int32 → Dt → Option (Int32 × Dt)} {x0 : Nat} {x1 : Int32} {x2 : Nat} {x3 : Int32} {d : Dt} (hf : f_X7_isHeaviest_J33 σ kb2 x0 x1 x2 x3 d = some z) (hkb2 : ∀ (y3 : Int32) (d : Dt), kb2 y3 d = some z → ∀ (H : Heap) (locs : List Loc) (ls : Array Slot), lv_has ls 5 [(0, .ref (ad x0)), (1, .int x1), (2, .ref (ad x2)), (3, .int y3)] → aw_G D cA base ad σ d s H locs → W p l e rm_X7_isHeaviest s m args below meth c H locs 0 0 (aw_Ei D cA base ad σ below args s z) (F0 m 2 ls [])) {H : Heap} {locs : List Loc} {ls : Array Slot} (hl : lv_has ls 5 [(0, .ref (ad x0)), (1, .int x1), (2, .ref (ad x2)), (3, .int x3)]) (G : aw_G D cA base ad σ d s H locs) : W p l e rm_X7_isHeaviest s m args below meth c H locs 0 0 (aw_Ei D cA base ad σ below args s z) (F0 m 33 ls []) := by
  have hx := X.1; have hb := X.2.1; have hml := X.2.2.1; have hown := X.2.2.2.1
  unfold f_X7_isHeaviest_J33 at hf
  refine lv_iconst (v := (1 : Int32)) hx hb dX7_isHeaviest_33 (by decide) ?_
  refine lv_goto (tgt := 38) hx hb dX7_isHeaviest_34 (by decide) ?_
  exact w_X7_isHeaviest_J38 X hf hkb2 (lv_sub hl [0, 1, 2, 3] rfl) G
set_option maxHeartbeats 4000000 in
set_option maxRecDepth 100000 in
theorem w_X7_isHeaviest_J37 {z : Int32 × Dt} (X : aw_X p c cX7_isHeaviest 5 s RX7 m meth (some .boolean)) {kb2 : Int32 → Dt → Option (Int32 × Dt)} {x0 : Nat} {x1 : Int32} {x2 : Nat} {x3 : Int32} {d : Dt} (hf : f_X7_isHeaviest_J37 σ kb2 x0 x1 x2 x3 d = some z) (hkb2 : ∀ (y3 : Int32) (d : Dt), kb2 y3 d = some z → ∀ (H : Heap) (locs : List Loc) (ls : Array Slot), lv_has ls 5 [(0, .ref (ad x0)), (1, .int x1), (2, .ref (ad x2)), (3, .int y3)] → aw_G D cA base ad σ d s H locs → W p l e rm_X7_isHeaviest s m args below meth c H locs 0 0 (aw_Ei D cA base ad σ below args s z) (F0 m 2 ls [])) {H : Heap} {locs : List Loc} {ls : Array Slot} (hl : lv_has ls 5 [(0, .ref (ad x0)), (1, .int x1), (2, .ref (ad x2)), (3, .int x3)]) (G : aw_G D cA base ad σ d s H locs) : W p l e rm_X7_isHeaviest s m args below meth c H locs 0 0 (aw_Ei D cA base ad σ below args s z) (F0 m 37 ls []) := by
  have hx := X.1; have hb := X.2.1; have hml := X.2.2.1; have hown := X.2.2.2.1
  unfold f_X7_isHeaviest_J37 at hf
  refine lv_iconst (v := (0 : Int32)) hx hb dX7_isHeaviest_37 (by decide) ?_
  exact w_X7_isHeaviest_J38 X hf hkb2 (lv_sub hl [0, 1, 2, 3] rfl) G
set_option maxHeartbeats 4000000 in
set_option maxRecDepth 100000 in
theorem w_X7_isHeaviest_B2 {z : Int32 × Dt} (X : aw_X p c cX7_isHeaviest 5 s RX7 m meth (some .boolean)) {kb2 : Int32 → Dt → Option (Int32 × Dt)} {k2 : Dt → Option (Int32 × Dt)} {x0 : Nat} {x1 : Int32} {x2 : Nat} {x3 : Int32} {d : Dt} (hf : f_X7_isHeaviest_B2 σ kb2 k2 x0 x1 x2 x3 d = some z) (hkb2 : ∀ (y3 : Int32) (d : Dt), kb2 y3 d = some z → ∀ (H : Heap) (locs : List Loc) (ls : Array Slot), lv_has ls 5 [(0, .ref (ad x0)), (1, .int x1), (2, .ref (ad x2)), (3, .int y3)] → aw_G D cA base ad σ d s H locs → W p l e rm_X7_isHeaviest s m args below meth c H locs 0 0 (aw_Ei D cA base ad σ below args s z) (F0 m 2 ls [])) (hk2 : ∀ (d : Dt), k2 d = some z → ∀ (H : Heap) (locs : List Loc) (ls : Array Slot), lv_has ls 5 [] → aw_G D cA base ad σ d s H locs → W p l e rm_X7_isHeaviest s m args below meth c H locs 0 0 (aw_Ei D cA base ad σ below args s z) (F0 m 62 ls [])) {H : Heap} {locs : List Loc} {ls : Array Slot} (hl : lv_has ls 5 [(0, .ref (ad x0)), (1, .int x1), (2, .ref (ad x2)), (3, .int x3)]) (G : aw_G D cA base ad σ d s H locs) : W p l e rm_X7_isHeaviest s m args below meth c H locs 0 0 (aw_Ei D cA base ad σ below args s z) (F0 m 2 ls []) := by
  have hx := X.1; have hb := X.2.1; have hml := X.2.2.1; have hown := X.2.2.2.1
  unfold f_X7_isHeaviest_B2 at hf
  refine lv_iload_n hx hb dX7_isHeaviest_2 rfl (lv_at hl 3 rfl) ?_
  refine lv_aload_n hx hb dX7_isHeaviest_3 rfl (lv_at hl 0 rfl) ?_
  obtain ⟨hc_1, hf⟩ := aw_chk_some hf
  refine gf_X7_20 hx hb G hown hc_1 dX7_isHeaviest_4 ?_
  refine lv_icmp_ge (tgt := 62) hx hb dX7_isHeaviest_7 (by decide) (fun hc => ?_) (fun hc => ?_)
  · have hf := aw_ite_t hc hf
    exact hk2 _ hf _ _ _ (lv_sub hl [] rfl) G
  · have hf := aw_ite_f hc hf
    refine lv_aload_n hx hb dX7_isHeaviest_10 rfl (lv_at hl 2 rfl) ?_
    refine lv_iload_n hx hb dX7_isHeaviest_11 rfl (lv_at hl 3 rfl) ?_
    obtain ⟨hc_2, hf⟩ := aw_chk_some hf
    refine aw_ial hx hb G hc_2 dX7_isHeaviest_12 ?_
    refine lv_aload_n hx hb dX7_isHeaviest_13 rfl (lv_at hl 2 rfl) ?_
    refine lv_iload_n hx hb dX7_isHeaviest_14 rfl (lv_at hl 1 rfl) ?_
    obtain ⟨hc_3, hf⟩ := aw_chk_some hf
    refine aw_ial hx hb G hc_3 dX7_isHeaviest_15 ?_
    refine lv_icmp_gt (tgt := 33) hx hb dX7_isHeaviest_16 (by decide) (fun hc => ?_) (fun hc => ?_)
    · have hf := aw_ite_t hc hf
      exact w_X7_isHeaviest_J33 X hf hkb2 (lv_sub hl [0, 1, 2, 3] rfl) G
    · have hf := aw_ite_f hc hf
      refine lv_aload_n hx hb dX7_isHeaviest_19 rfl (lv_at hl 2 rfl) ?_
      refine lv_iload_n hx hb dX7_isHeaviest_20 rfl (lv_at hl 3 rfl) ?_
      refine aw_ial hx hb G hc_2 dX7_isHeaviest_21 ?_
      refine lv_aload_n hx hb dX7_isHeaviest_22 rfl (lv_at hl 2 rfl) ?_
      refine lv_iload_n hx hb dX7_isHeaviest_23 rfl (lv_at hl 1 rfl) ?_
      refine aw_ial hx hb G hc_3 dX7_isHeaviest_24 ?_
      refine lv_icmp_ne (tgt := 37) hx hb dX7_isHeaviest_25 (by decide) (fun hc => ?_) (fun hc => ?_)
      · have hf := aw_ite_f hc hf
        exact w_X7_isHeaviest_J37 X hf hkb2 (lv_sub hl [0, 1, 2, 3] rfl) G
      · have hf := aw_ite_t hc hf
        refine lv_iload_n hx hb dX7_isHeaviest_28 rfl (lv_at hl 3 rfl) ?_
        refine lv_iload_n hx hb dX7_isHeaviest_29 rfl (lv_at hl 1 rfl) ?_
        refine lv_icmp_ge (tgt := 37) hx hb dX7_isHeaviest_30 (by decide) (fun hc => ?_) (fun hc => ?_)
        · have hf := aw_ite_t hc hf
          exact w_X7_isHeaviest_J37 X hf hkb2 (lv_sub hl [0, 1, 2, 3] rfl) G
        · have hf := aw_ite_f hc hf
          exact w_X7_isHeaviest_J33 X hf hkb2 (lv_sub hl [0, 1, 2, 3] rfl) G
theorem w_X7_isHeaviest_L2 {z : Int32 × Dt} (X : aw_X p c cX7_isHeaviest 5 s RX7 m meth (some .boolean)) {k2 : Dt → Option (Int32 × Dt)} {x0 : Nat} {x1 : Int32} {x2 : Nat} (n : Nat) {x3 : Int32} {d : Dt} (hf : f_X7_isHeaviest_L2 σ n k2 x0 x1 x2 x3 d = some z) (hk2 : ∀ (d : Dt), k2 d = some z → ∀ (H : Heap) (locs : List Loc) (ls : Array Slot), lv_has ls 5 [] → aw_G D cA base ad σ d s H locs → W p l e rm_X7_isHeaviest s m args below meth c H locs 0 0 (aw_Ei D cA base ad σ below args s z) (F0 m 62 ls [])) {H : Heap} {locs : List Loc} {ls : Array Slot} (hl : lv_has ls 5 [(0, .ref (ad x0)), (1, .int x1), (2, .ref (ad x2)), (3, .int x3)]) (G : aw_G D cA base ad σ d s H locs) : W p l e rm_X7_isHeaviest s m args below meth c H locs 0 0 (aw_Ei D cA base ad σ below args s z) (F0 m 2 ls []) := by
  induction n generalizing x3 d H locs ls with
  | zero => exact absurd (show (none : Option (Int32 × Dt)) = some z from hf) (by simp)
  | succ n ih => exact w_X7_isHeaviest_B2 X (kb2 := f_X7_isHeaviest_L2 σ n k2 x0 x1 x2) hf  (fun x3 d hf H locs ls hl G => ih hf hl G) hk2 hl G
end W_X7_isHeaviest
set_option maxHeartbeats 4000000 in
set_option maxRecDepth 100000 in
theorem c_X7_isHeaviest (l : Launch) {σ : Sg} {x0 : Nat} {x1 : Int32} {x2 : Nat} {d : Dt} {z : Int32 × Dt} (hf : f_X7_isHeaviest σ x0 x1 x2 d = some z) : aw_Mi l yX7_isHeaviest (Cond.code yX7_isHeaviest cX7_isHeaviest 5 (some .boolean)) rm_X7_isHeaviest (fun ad => [.ref (ad x0), .int x1, .ref (ad x2)]) σ d z := by
  intro D cA base ad
  refine aw_ofW (own := RX7) (cc := cX7_isHeaviest) (nL := 5) (ret := some .boolean) (by decide) rfl rfl ?_
  intro p e s m below meth c X hnm G
  have hx := X.1; have hb := X.2.1; have hml := X.2.2.1; have hown := X.2.2.2.1
  refine aw_ls (lv := [(0, .ref (ad x0)), (1, .int x1), (2, .ref (ad x2))]) (Nat.le_of_ble_eq_true rfl) rfl (fun ls hl => ?_)
  unfold f_X7_isHeaviest at hf
  refine lv_iconst (v := (0 : Int32)) hx hb dX7_isHeaviest_0 (by decide) ?_
  refine lv_istore_n (lv' := [(3, .int ((0 : Int32))), (0, .ref (ad x0)), (1, .int x1), (2, .ref (ad x2))]) hx hb dX7_isHeaviest_1 rfl hl (by decide) rfl (fun ls hl => ?_)
  refine w_X7_isHeaviest_L2 X aw_FU hf  (fun d_8 hf H locs ls hl G => ?_) (lv_sub hl [1, 2, 3, 0] rfl) G
  refine lv_iconst (v := (1 : Int32)) hx hb dX7_isHeaviest_62 (by decide) ?_
  obtain ⟨hc_9, hf⟩ := aw_chk_some hf
  exact aw_retz X G hc_9 hf dX7_isHeaviest_63
def rm_X7_doubtfulWeight : Room := { frames := 3, cells := 0, slots := 0, locals := 70 }
def f_X7_doubtfulWeight_J27 (σ : Sg) (kb4 : Int32 → Int32 → Dt → Option (Int32 × Dt)) (x0 : Nat) (x1 : Nat) (x2 : Int32) (x3 : Int32) (d : Dt) : Option (Int32 × Dt) :=
  kb4 x2 (x3 + 1) d
def f_X7_doubtfulWeight_B4 (σ : Sg) (kb4 : Int32 → Int32 → Dt → Option (Int32 × Dt)) (k4 : Int32 → Dt → Option (Int32 × Dt)) (x0 : Nat) (x1 : Nat) (x2 : Int32) (x3 : Int32) (d : Dt) : Option (Int32 × Dt) :=
  aw_chk (aw_O σ 7 3 x0) (if (d.1 x0 2) ≤ x3 then k4 x2 d else (f_X7_isHeaviest σ x0 x3 x1 d).bind (fun z_2 => if z_2.1 = 0 then aw_chk (aw_I σ 20 x1 x3) (f_X7_doubtfulWeight_J27 σ kb4 x0 x1 (x2 + (z_2.2.1 x1 x3.toNatClampNeg)) x3 z_2.2) else f_X7_doubtfulWeight_J27 σ kb4 x0 x1 x2 x3 z_2.2))
def f_X7_doubtfulWeight_L4 (σ : Sg) (n : Nat) (k4 : Int32 → Dt → Option (Int32 × Dt)) (x0 : Nat) (x1 : Nat) : Int32 → Int32 → Dt → Option (Int32 × Dt) := match n with
  | 0 => fun _ _ _ => none
  | n + 1 => fun x2 x3 d => f_X7_doubtfulWeight_B4 σ (f_X7_doubtfulWeight_L4 σ n k4 x0 x1) k4 x0 x1 x2 x3 d
def f_X7_doubtfulWeight (σ : Sg) (x0 : Nat) (x1 : Nat) (d : Dt) : Option (Int32 × Dt) :=
  f_X7_doubtfulWeight_L4 σ aw_FU (fun x2_5 d_6 => some (x2_5, d_6)) x0 x1 ((0 : Int32)) ((0 : Int32)) d
section W_X7_doubtfulWeight
variable {p : Program} {l : Launch} {e : Env} {s : State} {m : MethodId} {args : Array Value} {below : List Frame} {meth : Method} {c : Code}
variable {D : va_G} {cA : Nat → ClassId} {base : Nat} {ad : Nat → Nat} {σ : Sg}
set_option maxHeartbeats 4000000 in
set_option maxRecDepth 100000 in
theorem w_X7_doubtfulWeight_J27 {z : Int32 × Dt} (X : aw_X p c cX7_doubtfulWeight 4 s RX7 m meth (some .int)) {kb4 : Int32 → Int32 → Dt → Option (Int32 × Dt)} {x0 : Nat} {x1 : Nat} {x2 : Int32} {x3 : Int32} {d : Dt} (hf : f_X7_doubtfulWeight_J27 σ kb4 x0 x1 x2 x3 d = some z) (hkb4 : ∀ (y2 : Int32) (y3 : Int32) (d : Dt), kb4 y2 y3 d = some z → ∀ (H : Heap) (locs : List Loc) (ls : Array Slot), lv_has ls 4 [(0, .ref (ad x0)), (1, .ref (ad x1)), (2, .int y2), (3, .int y3)] → aw_G D cA base ad σ d s H locs → W p l e rm_X7_doubtfulWeight s m args below meth c H locs 0 0 (aw_Ei D cA base ad σ below args s z) (F0 m 4 ls [])) {H : Heap} {locs : List Loc} {ls : Array Slot} (hl : lv_has ls 4 [(0, .ref (ad x0)), (1, .ref (ad x1)), (2, .int x2), (3, .int x3)]) (G : aw_G D cA base ad σ d s H locs) : W p l e rm_X7_doubtfulWeight s m args below meth c H locs 0 0 (aw_Ei D cA base ad σ below args s z) (F0 m 27 ls []) := by
  have hx := X.1; have hb := X.2.1; have hml := X.2.2.1; have hown := X.2.2.2.1
  unfold f_X7_doubtfulWeight_J27 at hf
  refine lv_iinc (v := x3 + 1) (lv' := [(3, .int (x3 + 1)), (0, .ref (ad x0)), (1, .ref (ad x1)), (2, .int x2)]) hx hb dX7_doubtfulWeight_27 hl (k := 3) rfl rfl (by decide) rfl (fun ls hl => ?_)
  refine lv_goto (tgt := 4) hx hb dX7_doubtfulWeight_30 (by decide) ?_
  exact hkb4 _ _ _ hf _ _ _ (lv_sub hl [1, 2, 3, 0] rfl) G
set_option maxHeartbeats 4000000 in
set_option maxRecDepth 100000 in
theorem w_X7_doubtfulWeight_B4 {z : Int32 × Dt} (X : aw_X p c cX7_doubtfulWeight 4 s RX7 m meth (some .int)) {kb4 : Int32 → Int32 → Dt → Option (Int32 × Dt)} {k4 : Int32 → Dt → Option (Int32 × Dt)} {x0 : Nat} {x1 : Nat} {x2 : Int32} {x3 : Int32} {d : Dt} (hf : f_X7_doubtfulWeight_B4 σ kb4 k4 x0 x1 x2 x3 d = some z) (hkb4 : ∀ (y2 : Int32) (y3 : Int32) (d : Dt), kb4 y2 y3 d = some z → ∀ (H : Heap) (locs : List Loc) (ls : Array Slot), lv_has ls 4 [(0, .ref (ad x0)), (1, .ref (ad x1)), (2, .int y2), (3, .int y3)] → aw_G D cA base ad σ d s H locs → W p l e rm_X7_doubtfulWeight s m args below meth c H locs 0 0 (aw_Ei D cA base ad σ below args s z) (F0 m 4 ls [])) (hk4 : ∀ (y2 : Int32) (d : Dt), k4 y2 d = some z → ∀ (H : Heap) (locs : List Loc) (ls : Array Slot), lv_has ls 4 [(2, .int y2)] → aw_G D cA base ad σ d s H locs → W p l e rm_X7_doubtfulWeight s m args below meth c H locs 0 0 (aw_Ei D cA base ad σ below args s z) (F0 m 33 ls [])) {H : Heap} {locs : List Loc} {ls : Array Slot} (hl : lv_has ls 4 [(0, .ref (ad x0)), (1, .ref (ad x1)), (2, .int x2), (3, .int x3)]) (G : aw_G D cA base ad σ d s H locs) : W p l e rm_X7_doubtfulWeight s m args below meth c H locs 0 0 (aw_Ei D cA base ad σ below args s z) (F0 m 4 ls []) := by
  have hx := X.1; have hb := X.2.1; have hml := X.2.2.1; have hown := X.2.2.2.1
  unfold f_X7_doubtfulWeight_B4 at hf
  refine lv_iload_n hx hb dX7_doubtfulWeight_4 rfl (lv_at hl 3 rfl) ?_
  refine lv_aload_n hx hb dX7_doubtfulWeight_5 rfl (lv_at hl 0 rfl) ?_
  obtain ⟨hc_1, hf⟩ := aw_chk_some hf
  refine gf_X7_20 hx hb G hown hc_1 dX7_doubtfulWeight_6 ?_
  refine lv_icmp_ge (tgt := 33) hx hb dX7_doubtfulWeight_9 (by decide) (fun hc => ?_) (fun hc => ?_)
  · have hf := aw_ite_t hc hf
    exact hk4 _ _ hf _ _ _ (lv_sub hl [2] rfl) G
  · have hf := aw_ite_f hc hf
    refine lv_aload_n hx hb dX7_doubtfulWeight_12 rfl (lv_at hl 0 rfl) ?_
    refine lv_iload_n hx hb dX7_doubtfulWeight_13 rfl (lv_at hl 3 rfl) ?_
    refine lv_aload_n hx hb dX7_doubtfulWeight_14 rfl (lv_at hl 1 rfl) ?_
    obtain ⟨z_2, hz_3, hf⟩ := aw_bind_some hf
    refine aw_VI (As := [.int x3, .ref (ad x1)]) (rest := []) X G hl.1 cr_X7_41 (c_X7_isHeaviest l hz_3) ⟨rfl, rfl⟩ rfl rfl rfl (by decide) hc_1 rfl ⟨Nat.le_of_ble_eq_true rfl, Nat.le_of_ble_eq_true rfl⟩ (Nat.le_of_ble_eq_true rfl) dX7_doubtfulWeight_15 ⟨Nat.zero_le _, Nat.zero_le _⟩ (fun H locs G => ?_)
    refine lv_if_ne (tgt := 27) hx hb dX7_doubtfulWeight_18 (by decide) (fun hc => ?_) (fun hc => ?_)
    · have hf := aw_ite_f hc hf
      exact w_X7_doubtfulWeight_J27 X hf hkb4 (lv_sub hl [0, 1, 2, 3] rfl) G
    · have hf := aw_ite_t hc hf
      refine lv_iload_n hx hb dX7_doubtfulWeight_21 rfl (lv_at hl 2 rfl) ?_
      refine lv_aload_n hx hb dX7_doubtfulWeight_22 rfl (lv_at hl 1 rfl) ?_
      refine lv_iload_n hx hb dX7_doubtfulWeight_23 rfl (lv_at hl 3 rfl) ?_
      obtain ⟨hc_4, hf⟩ := aw_chk_some hf
      refine aw_ial hx hb G hc_4 dX7_doubtfulWeight_24 ?_
      refine lv_iadd hx hb dX7_doubtfulWeight_25 ?_
      refine lv_istore_n (lv' := [(2, .int (x2 + (z_2.2.1 x1 x3.toNatClampNeg))), (0, .ref (ad x0)), (1, .ref (ad x1)), (3, .int x3)]) hx hb dX7_doubtfulWeight_26 rfl hl (by decide) rfl (fun ls hl => ?_)
      exact w_X7_doubtfulWeight_J27 X hf hkb4 (lv_sub hl [1, 2, 0, 3] rfl) G
theorem w_X7_doubtfulWeight_L4 {z : Int32 × Dt} (X : aw_X p c cX7_doubtfulWeight 4 s RX7 m meth (some .int)) {k4 : Int32 → Dt → Option (Int32 × Dt)} {x0 : Nat} {x1 : Nat} (n : Nat) {x2 : Int32} {x3 : Int32} {d : Dt} (hf : f_X7_doubtfulWeight_L4 σ n k4 x0 x1 x2 x3 d = some z) (hk4 : ∀ (y2 : Int32) (d : Dt), k4 y2 d = some z → ∀ (H : Heap) (locs : List Loc) (ls : Array Slot), lv_has ls 4 [(2, .int y2)] → aw_G D cA base ad σ d s H locs → W p l e rm_X7_doubtfulWeight s m args below meth c H locs 0 0 (aw_Ei D cA base ad σ below args s z) (F0 m 33 ls [])) {H : Heap} {locs : List Loc} {ls : Array Slot} (hl : lv_has ls 4 [(0, .ref (ad x0)), (1, .ref (ad x1)), (2, .int x2), (3, .int x3)]) (G : aw_G D cA base ad σ d s H locs) : W p l e rm_X7_doubtfulWeight s m args below meth c H locs 0 0 (aw_Ei D cA base ad σ below args s z) (F0 m 4 ls []) := by
  induction n generalizing x2 x3 d H locs ls with
  | zero => exact absurd (show (none : Option (Int32 × Dt)) = some z from hf) (by simp)
  | succ n ih => exact w_X7_doubtfulWeight_B4 X (kb4 := f_X7_doubtfulWeight_L4 σ n k4 x0 x1) hf  (fun x2 x3 d hf H locs ls hl G => ih hf hl G) hk4 hl G
end W_X7_doubtfulWeight
set_option maxHeartbeats 4000000 in
set_option maxRecDepth 100000 in
theorem c_X7_doubtfulWeight (l : Launch) {σ : Sg} {x0 : Nat} {x1 : Nat} {d : Dt} {z : Int32 × Dt} (hf : f_X7_doubtfulWeight σ x0 x1 d = some z) : aw_Mi l yX7_doubtfulWeight (Cond.code yX7_doubtfulWeight cX7_doubtfulWeight 4 (some .int)) rm_X7_doubtfulWeight (fun ad => [.ref (ad x0), .ref (ad x1)]) σ d z := by
  intro D cA base ad
  refine aw_ofW (own := RX7) (cc := cX7_doubtfulWeight) (nL := 4) (ret := some .int) (by decide) rfl rfl ?_
  intro p e s m below meth c X hnm G
  have hx := X.1; have hb := X.2.1; have hml := X.2.2.1; have hown := X.2.2.2.1
  refine aw_ls (lv := [(0, .ref (ad x0)), (1, .ref (ad x1))]) (Nat.le_of_ble_eq_true rfl) rfl (fun ls hl => ?_)
  unfold f_X7_doubtfulWeight at hf
  refine lv_iconst (v := (0 : Int32)) hx hb dX7_doubtfulWeight_0 (by decide) ?_
  refine lv_istore_n (lv' := [(2, .int ((0 : Int32))), (0, .ref (ad x0)), (1, .ref (ad x1))]) hx hb dX7_doubtfulWeight_1 rfl hl (by decide) rfl (fun ls hl => ?_)
  refine lv_iconst (v := (0 : Int32)) hx hb dX7_doubtfulWeight_2 (by decide) ?_
  refine lv_istore_n (lv' := [(3, .int ((0 : Int32))), (2, .int ((0 : Int32))), (0, .ref (ad x0)), (1, .ref (ad x1))]) hx hb dX7_doubtfulWeight_3 rfl hl (by decide) rfl (fun ls hl => ?_)
  refine w_X7_doubtfulWeight_L4 X aw_FU hf  (fun x2_5 d_6 hf H locs ls hl G => ?_) (lv_sub hl [2, 3, 1, 0] rfl) G
  refine lv_iload_n hx hb dX7_doubtfulWeight_33 rfl (lv_at hl 0 rfl) ?_
  exact aw_reti X G hf dX7_doubtfulWeight_34
def rm_X7_placesWith : Room := { frames := 1, cells := 0, slots := 0, locals := 22 }
def f_X7_placesWith_J36 (σ : Sg) (kb6 : Int32 → Int32 → Dt → Option (Int32 × Dt)) (x0 : Nat) (x1 : Int32) (x2 : Int64) (x4 : Int32) (x5 : Int32) (d : Dt) : Option (Int32 × Dt) :=
  kb6 x4 (x5 + 1) d
def f_X7_placesWith_B6 (σ : Sg) (kb6 : Int32 → Int32 → Dt → Option (Int32 × Dt)) (k6 : Int32 → Dt → Option (Int32 × Dt)) (x0 : Nat) (x1 : Int32) (x2 : Int64) (x4 : Int32) (x5 : Int32) (d : Dt) : Option (Int32 × Dt) :=
  aw_chk (aw_O σ 7 3 x0) ((σ.2.2 x0 1).bind (fun q_2 => aw_chk (aw_I σ 20 q_2 x1) (if (d.1 q_2 x1.toNatClampNeg) ≤ x5 then k6 x4 d else (σ.2.2 x0 0).bind (fun q_5 => aw_chk (aw_I σ 23 q_5 x1) ((σ.2.2 q_5 x1.toNatClampNeg).bind (fun q_8 => aw_chk (aw_I σ 20 q_8 x5) ((f_X10_has σ x2 (d.1 q_8 x5.toNatClampNeg) d).bind (fun z_11 => if z_11.1 = 0 then f_X7_placesWith_J36 σ kb6 x0 x1 x2 x4 x5 z_11.2 else f_X7_placesWith_J36 σ kb6 x0 x1 x2 (x4 + 1) x5 z_11.2))))))))
def f_X7_placesWith_L6 (σ : Sg) (n : Nat) (k6 : Int32 → Dt → Option (Int32 × Dt)) (x0 : Nat) (x1 : Int32) (x2 : Int64) : Int32 → Int32 → Dt → Option (Int32 × Dt) := match n with
  | 0 => fun _ _ _ => none
  | n + 1 => fun x4 x5 d => f_X7_placesWith_B6 σ (f_X7_placesWith_L6 σ n k6 x0 x1 x2) k6 x0 x1 x2 x4 x5 d
def f_X7_placesWith (σ : Sg) (x0 : Nat) (x1 : Int32) (x2 : Int64) (d : Dt) : Option (Int32 × Dt) :=
  f_X7_placesWith_L6 σ aw_FU (fun x4_13 d_14 => some (x4_13, d_14)) x0 x1 x2 ((0 : Int32)) ((0 : Int32)) d
section W_X7_placesWith
variable {p : Program} {l : Launch} {e : Env} {s : State} {m : MethodId} {args : Array Value} {below : List Frame} {meth : Method} {c : Code}
variable {D : va_G} {cA : Nat → ClassId} {base : Nat} {ad : Nat → Nat} {σ : Sg}
set_option maxHeartbeats 4000000 in
set_option maxRecDepth 100000 in
theorem w_X7_placesWith_J36 {z : Int32 × Dt} (X : aw_X p c cX7_placesWith 6 s RX7 m meth (some .int)) {kb6 : Int32 → Int32 → Dt → Option (Int32 × Dt)} {x0 : Nat} {x1 : Int32} {x2 : Int64} {x4 : Int32} {x5 : Int32} {d : Dt} (hf : f_X7_placesWith_J36 σ kb6 x0 x1 x2 x4 x5 d = some z) (hkb6 : ∀ (y4 : Int32) (y5 : Int32) (d : Dt), kb6 y4 y5 d = some z → ∀ (H : Heap) (locs : List Loc) (ls : Array Slot), lv_has ls 6 [(0, .ref (ad x0)), (1, .int x1), (2, .long x2), (4, .int y4), (5, .int y5)] → aw_G D cA base ad σ d s H locs → W p l e rm_X7_placesWith s m args below meth c H locs 0 0 (aw_Ei D cA base ad σ below args s z) (F0 m 6 ls [])) {H : Heap} {locs : List Loc} {ls : Array Slot} (hl : lv_has ls 6 [(0, .ref (ad x0)), (1, .int x1), (2, .long x2), (4, .int x4), (5, .int x5)]) (G : aw_G D cA base ad σ d s H locs) : W p l e rm_X7_placesWith s m args below meth c H locs 0 0 (aw_Ei D cA base ad σ below args s z) (F0 m 36 ls []) := by
  have hx := X.1; have hb := X.2.1; have hml := X.2.2.1; have hown := X.2.2.2.1
  unfold f_X7_placesWith_J36 at hf
  refine lv_iinc (v := x5 + 1) (lv' := [(5, .int (x5 + 1)), (0, .ref (ad x0)), (1, .int x1), (2, .long x2), (4, .int x4)]) hx hb dX7_placesWith_36 hl (k := 4) rfl rfl (by decide) rfl (fun ls hl => ?_)
  refine lv_goto (tgt := 6) hx hb dX7_placesWith_39 (by decide) ?_
  exact hkb6 _ _ _ hf _ _ _ (lv_sub hl [1, 2, 3, 4, 0] rfl) G
set_option maxHeartbeats 4000000 in
set_option maxRecDepth 100000 in
theorem w_X7_placesWith_B6 {z : Int32 × Dt} (X : aw_X p c cX7_placesWith 6 s RX7 m meth (some .int)) {kb6 : Int32 → Int32 → Dt → Option (Int32 × Dt)} {k6 : Int32 → Dt → Option (Int32 × Dt)} {x0 : Nat} {x1 : Int32} {x2 : Int64} {x4 : Int32} {x5 : Int32} {d : Dt} (hf : f_X7_placesWith_B6 σ kb6 k6 x0 x1 x2 x4 x5 d = some z) (hkb6 : ∀ (y4 : Int32) (y5 : Int32) (d : Dt), kb6 y4 y5 d = some z → ∀ (H : Heap) (locs : List Loc) (ls : Array Slot), lv_has ls 6 [(0, .ref (ad x0)), (1, .int x1), (2, .long x2), (4, .int y4), (5, .int y5)] → aw_G D cA base ad σ d s H locs → W p l e rm_X7_placesWith s m args below meth c H locs 0 0 (aw_Ei D cA base ad σ below args s z) (F0 m 6 ls [])) (hk6 : ∀ (y4 : Int32) (d : Dt), k6 y4 d = some z → ∀ (H : Heap) (locs : List Loc) (ls : Array Slot), lv_has ls 6 [(4, .int y4)] → aw_G D cA base ad σ d s H locs → W p l e rm_X7_placesWith s m args below meth c H locs 0 0 (aw_Ei D cA base ad σ below args s z) (F0 m 42 ls [])) {H : Heap} {locs : List Loc} {ls : Array Slot} (hl : lv_has ls 6 [(0, .ref (ad x0)), (1, .int x1), (2, .long x2), (4, .int x4), (5, .int x5)]) (G : aw_G D cA base ad σ d s H locs) : W p l e rm_X7_placesWith s m args below meth c H locs 0 0 (aw_Ei D cA base ad σ below args s z) (F0 m 6 ls []) := by
  have hx := X.1; have hb := X.2.1; have hml := X.2.2.1; have hown := X.2.2.2.1
  unfold f_X7_placesWith_B6 at hf
  refine lv_iload hx hb dX7_placesWith_6 (lv_at hl 4 rfl) ?_
  refine lv_aload_n hx hb dX7_placesWith_8 rfl (lv_at hl 0 rfl) ?_
  obtain ⟨hc_1, hf⟩ := aw_chk_some hf
  obtain ⟨q_2, hq_3, hf⟩ := aw_bind_some hf
  refine gf_X7_16 hx hb G hown hc_1 hq_3 dX7_placesWith_9 ?_
  refine lv_iload_n hx hb dX7_placesWith_12 rfl (lv_at hl 1 rfl) ?_
  obtain ⟨hc_4, hf⟩ := aw_chk_some hf
  refine aw_ial hx hb G hc_4 dX7_placesWith_13 ?_
  refine lv_icmp_ge (tgt := 42) hx hb dX7_placesWith_14 (by decide) (fun hc => ?_) (fun hc => ?_)
  · have hf := aw_ite_t hc hf
    exact hk6 _ _ hf _ _ _ (lv_sub hl [3] rfl) G
  · have hf := aw_ite_f hc hf
    refine lv_lload_n hx hb dX7_placesWith_17 rfl (lv_at hl 2 rfl) ?_
    refine lv_aload_n hx hb dX7_placesWith_18 rfl (lv_at hl 0 rfl) ?_
    obtain ⟨q_5, hq_6, hf⟩ := aw_bind_some hf
    refine gf_X7_11 hx hb G hown hc_1 hq_6 dX7_placesWith_19 ?_
    refine lv_iload_n hx hb dX7_placesWith_22 rfl (lv_at hl 1 rfl) ?_
    obtain ⟨hc_7, hf⟩ := aw_chk_some hf
    obtain ⟨q_8, hq_9, hf⟩ := aw_bind_some hf
    refine aw_qal hx hb G 23 _ rfl rfl (by decide) hc_7 hq_9 dX7_placesWith_23 ?_
    refine lv_iload hx hb dX7_placesWith_24 (lv_at hl 4 rfl) ?_
    obtain ⟨hc_10, hf⟩ := aw_chk_some hf
    refine aw_ial hx hb G hc_10 dX7_placesWith_26 ?_
    obtain ⟨z_11, hz_12, hf⟩ := aw_bind_some hf
    refine aw_NI (As := [.long x2, .int (d.1 q_8 x5.toNatClampNeg)]) (rest := []) X G hl.1 cr_X7_53 (c_X10_has l hz_12) ⟨rfl, rfl⟩ rfl rfl rfl ⟨Nat.le_of_ble_eq_true rfl, Nat.le_of_ble_eq_true rfl⟩ (Nat.le_of_ble_eq_true rfl) dX7_placesWith_27 ⟨Nat.zero_le _, Nat.zero_le _⟩ (fun H locs G => ?_)
    refine lv_if_eq (tgt := 36) hx hb dX7_placesWith_30 (by decide) (fun hc => ?_) (fun hc => ?_)
    · have hf := aw_ite_t hc hf
      exact w_X7_placesWith_J36 X hf hkb6 (lv_sub hl [0, 1, 2, 3, 4] rfl) G
    · have hf := aw_ite_f hc hf
      refine lv_iinc (v := x4 + 1) (lv' := [(4, .int (x4 + 1)), (0, .ref (ad x0)), (1, .int x1), (2, .long x2), (5, .int x5)]) hx hb dX7_placesWith_33 hl (k := 3) rfl rfl (by decide) rfl (fun ls hl => ?_)
      exact w_X7_placesWith_J36 X hf hkb6 (lv_sub hl [1, 2, 3, 0, 4] rfl) G
theorem w_X7_placesWith_L6 {z : Int32 × Dt} (X : aw_X p c cX7_placesWith 6 s RX7 m meth (some .int)) {k6 : Int32 → Dt → Option (Int32 × Dt)} {x0 : Nat} {x1 : Int32} {x2 : Int64} (n : Nat) {x4 : Int32} {x5 : Int32} {d : Dt} (hf : f_X7_placesWith_L6 σ n k6 x0 x1 x2 x4 x5 d = some z) (hk6 : ∀ (y4 : Int32) (d : Dt), k6 y4 d = some z → ∀ (H : Heap) (locs : List Loc) (ls : Array Slot), lv_has ls 6 [(4, .int y4)] → aw_G D cA base ad σ d s H locs → W p l e rm_X7_placesWith s m args below meth c H locs 0 0 (aw_Ei D cA base ad σ below args s z) (F0 m 42 ls [])) {H : Heap} {locs : List Loc} {ls : Array Slot} (hl : lv_has ls 6 [(0, .ref (ad x0)), (1, .int x1), (2, .long x2), (4, .int x4), (5, .int x5)]) (G : aw_G D cA base ad σ d s H locs) : W p l e rm_X7_placesWith s m args below meth c H locs 0 0 (aw_Ei D cA base ad σ below args s z) (F0 m 6 ls []) := by
  induction n generalizing x4 x5 d H locs ls with
  | zero => exact absurd (show (none : Option (Int32 × Dt)) = some z from hf) (by simp)
  | succ n ih => exact w_X7_placesWith_B6 X (kb6 := f_X7_placesWith_L6 σ n k6 x0 x1 x2) hf  (fun x4 x5 d hf H locs ls hl G => ih hf hl G) hk6 hl G
end W_X7_placesWith
set_option maxHeartbeats 4000000 in
set_option maxRecDepth 100000 in
theorem c_X7_placesWith (l : Launch) {σ : Sg} {x0 : Nat} {x1 : Int32} {x2 : Int64} {d : Dt} {z : Int32 × Dt} (hf : f_X7_placesWith σ x0 x1 x2 d = some z) : aw_Mi l yX7_placesWith (Cond.code yX7_placesWith cX7_placesWith 6 (some .int)) rm_X7_placesWith (fun ad => [.ref (ad x0), .int x1, .long x2]) σ d z := by
  intro D cA base ad
  refine aw_ofW (own := RX7) (cc := cX7_placesWith) (nL := 6) (ret := some .int) (by decide) rfl rfl ?_
  intro p e s m below meth c X hnm G
  have hx := X.1; have hb := X.2.1; have hml := X.2.2.1; have hown := X.2.2.2.1
  refine aw_ls (lv := [(0, .ref (ad x0)), (1, .int x1), (2, .long x2)]) (Nat.le_of_ble_eq_true rfl) rfl (fun ls hl => ?_)
  unfold f_X7_placesWith at hf
  refine lv_iconst (v := (0 : Int32)) hx hb dX7_placesWith_0 (by decide) ?_
  refine lv_istore (lv' := [(4, .int ((0 : Int32))), (0, .ref (ad x0)), (1, .int x1), (2, .long x2)]) hx hb dX7_placesWith_1 hl (by decide) rfl (fun ls hl => ?_)
  refine lv_iconst (v := (0 : Int32)) hx hb dX7_placesWith_3 (by decide) ?_
  refine lv_istore (lv' := [(5, .int ((0 : Int32))), (4, .int ((0 : Int32))), (0, .ref (ad x0)), (1, .int x1), (2, .long x2)]) hx hb dX7_placesWith_4 hl (by decide) rfl (fun ls hl => ?_)
  refine w_X7_placesWith_L6 X aw_FU hf  (fun x4_13 d_14 hf H locs ls hl G => ?_) (lv_sub hl [2, 3, 4, 1, 0] rfl) G
  refine lv_iload hx hb dX7_placesWith_42 (lv_at hl 0 rfl) ?_
  exact aw_reti X G hf dX7_placesWith_44
def rm_X9_append : Room := { frames := 0, cells := 0, slots := 0, locals := 0 }
def f_X9_append (σ : Sg) (x0 : Nat) (x1 : Int32) (d : Dt) : Option (Int32 × Dt) :=
  aw_chk (aw_O σ 9 4 x0) ((σ.2.2 x0 0).bind (fun q_2 => aw_chk (aw_I σ 20 q_2 (d.1 x0 1)) (some ((aw_sI (aw_sI d q_2 (d.1 x0 1).toNatClampNeg x1) x0 1 (((aw_sI d q_2 (d.1 x0 1).toNatClampNeg x1).1 x0 1) + ((1 : Int32)))).1 x0 1, aw_sI (aw_sI d q_2 (d.1 x0 1).toNatClampNeg x1) x0 1 (((aw_sI d q_2 (d.1 x0 1).toNatClampNeg x1).1 x0 1) + ((1 : Int32)))))))
section W_X9_append
variable {p : Program} {l : Launch} {e : Env} {s : State} {m : MethodId} {args : Array Value} {below : List Frame} {meth : Method} {c : Code}
variable {D : va_G} {cA : Nat → ClassId} {base : Nat} {ad : Nat → Nat} {σ : Sg}
end W_X9_append
set_option maxHeartbeats 4000000 in
set_option maxRecDepth 100000 in
theorem c_X9_append (l : Launch) {σ : Sg} {x0 : Nat} {x1 : Int32} {d : Dt} {z : Int32 × Dt} (hf : f_X9_append σ x0 x1 d = some z) : aw_Mi l yX9_append (Cond.code yX9_append cX9_append 2 (some .int)) rm_X9_append (fun ad => [.ref (ad x0), .int x1]) σ d z := by
  intro D cA base ad
  refine aw_ofW (own := RX9) (cc := cX9_append) (nL := 2) (ret := some .int) (by decide) rfl rfl ?_
  intro p e s m below meth c X hnm G
  have hx := X.1; have hb := X.2.1; have hml := X.2.2.1; have hown := X.2.2.2.1
  refine aw_ls (lv := [(0, .ref (ad x0)), (1, .int x1)]) (Nat.le_of_ble_eq_true rfl) rfl (fun ls hl => ?_)
  unfold f_X9_append at hf
  refine lv_aload_n hx hb dX9_append_0 rfl (lv_at hl 0 rfl) ?_
  obtain ⟨hc_1, hf⟩ := aw_chk_some hf
  obtain ⟨q_2, hq_3, hf⟩ := aw_bind_some hf
  refine gf_X9_9 hx hb G hown hc_1 hq_3 dX9_append_1 ?_
  refine lv_aload_n hx hb dX9_append_4 rfl (lv_at hl 0 rfl) ?_
  refine gf_X9_15 hx hb G hown hc_1 dX9_append_5 ?_
  refine lv_iload_n hx hb dX9_append_8 rfl (lv_at hl 1 rfl) ?_
  obtain ⟨hc_4, hf⟩ := aw_chk_some hf
  refine aw_ias hx hb G hc_4 dX9_append_9 (fun H locs G => ?_)
  refine lv_aload_n hx hb dX9_append_10 rfl (lv_at hl 0 rfl) ?_
  refine lv_dup hx hb dX9_append_11 rfl ?_
  refine gf_X9_15 hx hb G hown hc_1 dX9_append_12 ?_
  refine lv_iconst (v := (1 : Int32)) hx hb dX9_append_15 (by decide) ?_
  refine lv_iadd hx hb dX9_append_16 ?_
  refine pf_X9_15 hx hb G hown hc_1 dX9_append_17 (fun H locs G => ?_)
  refine lv_aload_n hx hb dX9_append_20 rfl (lv_at hl 0 rfl) ?_
  refine gf_X9_15 hx hb G hown hc_1 dX9_append_21 ?_
  exact aw_reti X G hf dX9_append_24
def rm_X9_endDraft : Room := { frames := 0, cells := 0, slots := 0, locals := 0 }
def f_X9_endDraft (σ : Sg) (x0 : Nat) (x1 : Int32) (d : Dt) : Option (Int32 × Dt) :=
  aw_chk (aw_O σ 9 4 x0) ((σ.2.2 x0 2).bind (fun q_2 => aw_chk (aw_I σ 20 q_2 (d.1 x0 3)) (some (((aw_sI (aw_sI (aw_sI d q_2 (d.1 x0 3).toNatClampNeg x1) x0 1 ((0 : Int32))) x0 3 (((aw_sI (aw_sI d q_2 (d.1 x0 3).toNatClampNeg x1) x0 1 ((0 : Int32))).1 x0 3) + ((1 : Int32)))).1 x0 3) - ((1 : Int32)), aw_sI (aw_sI (aw_sI d q_2 (d.1 x0 3).toNatClampNeg x1) x0 1 ((0 : Int32))) x0 3 (((aw_sI (aw_sI d q_2 (d.1 x0 3).toNatClampNeg x1) x0 1 ((0 : Int32))).1 x0 3) + ((1 : Int32)))))))
section W_X9_endDraft
variable {p : Program} {l : Launch} {e : Env} {s : State} {m : MethodId} {args : Array Value} {below : List Frame} {meth : Method} {c : Code}
variable {D : va_G} {cA : Nat → ClassId} {base : Nat} {ad : Nat → Nat} {σ : Sg}
end W_X9_endDraft
set_option maxHeartbeats 4000000 in
set_option maxRecDepth 100000 in
theorem c_X9_endDraft (l : Launch) {σ : Sg} {x0 : Nat} {x1 : Int32} {d : Dt} {z : Int32 × Dt} (hf : f_X9_endDraft σ x0 x1 d = some z) : aw_Mi l yX9_endDraft (Cond.code yX9_endDraft cX9_endDraft 2 (some .int)) rm_X9_endDraft (fun ad => [.ref (ad x0), .int x1]) σ d z := by
  intro D cA base ad
  refine aw_ofW (own := RX9) (cc := cX9_endDraft) (nL := 2) (ret := some .int) (by decide) rfl rfl ?_
  intro p e s m below meth c X hnm G
  have hx := X.1; have hb := X.2.1; have hml := X.2.2.1; have hown := X.2.2.2.1
  refine aw_ls (lv := [(0, .ref (ad x0)), (1, .int x1)]) (Nat.le_of_ble_eq_true rfl) rfl (fun ls hl => ?_)
  unfold f_X9_endDraft at hf
  refine lv_aload_n hx hb dX9_endDraft_0 rfl (lv_at hl 0 rfl) ?_
  obtain ⟨hc_1, hf⟩ := aw_chk_some hf
  obtain ⟨q_2, hq_3, hf⟩ := aw_bind_some hf
  refine gf_X9_19 hx hb G hown hc_1 hq_3 dX9_endDraft_1 ?_
  refine lv_aload_n hx hb dX9_endDraft_4 rfl (lv_at hl 0 rfl) ?_
  refine gf_X9_22 hx hb G hown hc_1 dX9_endDraft_5 ?_
  refine lv_iload_n hx hb dX9_endDraft_8 rfl (lv_at hl 1 rfl) ?_
  obtain ⟨hc_4, hf⟩ := aw_chk_some hf
  refine aw_ias hx hb G hc_4 dX9_endDraft_9 (fun H locs G => ?_)
  refine lv_aload_n hx hb dX9_endDraft_10 rfl (lv_at hl 0 rfl) ?_
  refine lv_iconst (v := (0 : Int32)) hx hb dX9_endDraft_11 (by decide) ?_
  refine pf_X9_15 hx hb G hown hc_1 dX9_endDraft_12 (fun H locs G => ?_)
  refine lv_aload_n hx hb dX9_endDraft_15 rfl (lv_at hl 0 rfl) ?_
  refine lv_dup hx hb dX9_endDraft_16 rfl ?_
  refine gf_X9_22 hx hb G hown hc_1 dX9_endDraft_17 ?_
  refine lv_iconst (v := (1 : Int32)) hx hb dX9_endDraft_20 (by decide) ?_
  refine lv_iadd hx hb dX9_endDraft_21 ?_
  refine pf_X9_22 hx hb G hown hc_1 dX9_endDraft_22 (fun H locs G => ?_)
  refine lv_aload_n hx hb dX9_endDraft_25 rfl (lv_at hl 0 rfl) ?_
  refine gf_X9_22 hx hb G hown hc_1 dX9_endDraft_26 ?_
  refine lv_iconst (v := (1 : Int32)) hx hb dX9_endDraft_29 (by decide) ?_
  refine lv_isub hx hb dX9_endDraft_30 ?_
  exact aw_reti X G hf dX9_endDraft_31
def rm_X10_speaker : Room := { frames := 0, cells := 0, slots := 0, locals := 0 }
def f_X10_speaker_J18 (σ : Sg) (t0 : Nat) (d : Dt) : Option (Nat × Dt) :=
  some (t0, d)
def f_X10_speaker (σ : Sg) (x0 : Nat) (x1 : Int32) (d : Dt) : Option (Nat × Dt) :=
  if x1 = ((-1 : Int32)) then aw_chk (aw_O σ 10 13 x0) ((σ.2.2 x0 1).bind (fun q_8 => f_X10_speaker_J18 σ q_8 d)) else aw_chk (aw_O σ 10 13 x0) ((σ.2.2 x0 2).bind (fun q_2 => aw_chk (aw_I σ 25 q_2 x1) ((σ.2.2 q_2 x1.toNatClampNeg).bind (fun q_5 => f_X10_speaker_J18 σ q_5 d))))
section W_X10_speaker
variable {p : Program} {l : Launch} {e : Env} {s : State} {m : MethodId} {args : Array Value} {below : List Frame} {meth : Method} {c : Code}
variable {D : va_G} {cA : Nat → ClassId} {base : Nat} {ad : Nat → Nat} {σ : Sg}
set_option maxHeartbeats 4000000 in
set_option maxRecDepth 100000 in
theorem w_X10_speaker_J18 {z : Nat × Dt} (X : aw_X p c cX10_speaker 2 s RX10 m meth (some (.object "Letterforge$Dialect"))) {t0 : Nat} {d : Dt} (hf : f_X10_speaker_J18 σ t0 d = some z)  {H : Heap} {locs : List Loc} {ls : Array Slot} (hl : lv_has ls 2 []) (G : aw_G D cA base ad σ d s H locs) : W p l e rm_X10_speaker s m args below meth c H locs 0 0 (aw_Er D cA base ad σ below args s z) (F0 m 18 ls [.ref (ad t0)]) := by
  have hx := X.1; have hb := X.2.1; have hml := X.2.2.1; have hown := X.2.2.2.1
  unfold f_X10_speaker_J18 at hf
  exact aw_retr X G hf dX10_speaker_18
end W_X10_speaker
set_option maxHeartbeats 4000000 in
set_option maxRecDepth 100000 in
theorem c_X10_speaker (l : Launch) {σ : Sg} {x0 : Nat} {x1 : Int32} {d : Dt} {z : Nat × Dt} (hf : f_X10_speaker σ x0 x1 d = some z) : aw_Mr l yX10_speaker (Cond.code yX10_speaker cX10_speaker 2 (some (.object "Letterforge$Dialect"))) rm_X10_speaker (fun ad => [.ref (ad x0), .int x1]) σ d z := by
  intro D cA base ad
  refine aw_ofW (own := RX10) (cc := cX10_speaker) (nL := 2) (ret := some (.object "Letterforge$Dialect")) (by decide) rfl rfl ?_
  intro p e s m below meth c X hnm G
  have hx := X.1; have hb := X.2.1; have hml := X.2.2.1; have hown := X.2.2.2.1
  refine aw_ls (lv := [(0, .ref (ad x0)), (1, .int x1)]) (Nat.le_of_ble_eq_true rfl) rfl (fun ls hl => ?_)
  unfold f_X10_speaker at hf
  refine lv_iload_n hx hb dX10_speaker_0 rfl (lv_at hl 1 rfl) ?_
  refine lv_iconst (v := (-1 : Int32)) hx hb dX10_speaker_1 (by decide) ?_
  refine lv_icmp_ne (tgt := 12) hx hb dX10_speaker_2 (by decide) (fun hc => ?_) (fun hc => ?_)
  · have hf := aw_ite_f hc hf
    refine lv_aload_n hx hb dX10_speaker_12 rfl (lv_at hl 0 rfl) ?_
    obtain ⟨hc_1, hf⟩ := aw_chk_some hf
    obtain ⟨q_2, hq_3, hf⟩ := aw_bind_some hf
    refine gf_X10_23 hx hb G hown hc_1 hq_3 dX10_speaker_13 ?_
    refine lv_iload_n hx hb dX10_speaker_16 rfl (lv_at hl 1 rfl) ?_
    obtain ⟨hc_4, hf⟩ := aw_chk_some hf
    obtain ⟨q_5, hq_6, hf⟩ := aw_bind_some hf
    refine aw_qal hx hb G 25 _ rfl rfl (by decide) hc_4 hq_6 dX10_speaker_17 ?_
    exact w_X10_speaker_J18 X hf  (lv_sub hl [] rfl) G
  · have hf := aw_ite_t hc hf
    refine lv_aload_n hx hb dX10_speaker_5 rfl (lv_at hl 0 rfl) ?_
    obtain ⟨hc_7, hf⟩ := aw_chk_some hf
    obtain ⟨q_8, hq_9, hf⟩ := aw_bind_some hf
    refine gf_X10_19 hx hb G hown hc_7 hq_9 dX10_speaker_6 ?_
    refine lv_goto (tgt := 18) hx hb dX10_speaker_9 (by decide) ?_
    exact w_X10_speaker_J18 X hf  (lv_sub hl [] rfl) G
def rm_X10_spellAll : Room := { frames := 3, cells := 0, slots := 0, locals := 74 }
def f_X10_spellAll (σ : Sg) (x0 : Nat) (x1 : Nat) (d : Dt) : Option (Unit × Dt) :=
  aw_chk (aw_O σ 10 13 x0) ((σ.2.2 x0 7).bind (fun q_2 => aw_chk (aw_O σ 1 5 x1) ((f_X10_speaker σ x0 (d.1 x1 1) d).bind (fun z_5 => aw_chk (aw_O σ 7 3 q_2) ((f_X7_take σ q_2 x1 z_5.1 z_5.2).bind (fun z_7 => some ((), z_7.2)))))))
section W_X10_spellAll
variable {p : Program} {l : Launch} {e : Env} {s : State} {m : MethodId} {args : Array Value} {below : List Frame} {meth : Method} {c : Code}
variable {D : va_G} {cA : Nat → ClassId} {base : Nat} {ad : Nat → Nat} {σ : Sg}
end W_X10_spellAll
set_option maxHeartbeats 4000000 in
set_option maxRecDepth 100000 in
theorem c_X10_spellAll (l : Launch) {σ : Sg} {x0 : Nat} {x1 : Nat} {d : Dt} {z : Unit × Dt} (hf : f_X10_spellAll σ x0 x1 d = some z) : aw_Mv l yX10_spellAll (Cond.code yX10_spellAll cX10_spellAll 2 (none)) rm_X10_spellAll (fun ad => [.ref (ad x0), .ref (ad x1)]) σ d z := by
  intro D cA base ad
  refine aw_ofW (own := RX10) (cc := cX10_spellAll) (nL := 2) (ret := none) (by decide) rfl rfl ?_
  intro p e s m below meth c X hnm G
  have hx := X.1; have hb := X.2.1; have hml := X.2.2.1; have hown := X.2.2.2.1
  refine aw_ls (lv := [(0, .ref (ad x0)), (1, .ref (ad x1))]) (Nat.le_of_ble_eq_true rfl) rfl (fun ls hl => ?_)
  unfold f_X10_spellAll at hf
  refine lv_aload_n hx hb dX10_spellAll_0 rfl (lv_at hl 0 rfl) ?_
  obtain ⟨hc_1, hf⟩ := aw_chk_some hf
  obtain ⟨q_2, hq_3, hf⟩ := aw_bind_some hf
  refine gf_X10_54 hx hb G hown hc_1 hq_3 dX10_spellAll_1 ?_
  refine lv_aload_n hx hb dX10_spellAll_4 rfl (lv_at hl 1 rfl) ?_
  refine lv_aload_n hx hb dX10_spellAll_5 rfl (lv_at hl 0 rfl) ?_
  refine lv_aload_n hx hb dX10_spellAll_6 rfl (lv_at hl 1 rfl) ?_
  obtain ⟨hc_4, hf⟩ := aw_chk_some hf
  refine gf_X10_376 hx hb G hown hc_4 dX10_spellAll_7 ?_
  obtain ⟨z_5, hz_6, hf⟩ := aw_bind_some hf
  refine aw_VR (As := [.int (d.1 x1 1)]) (rest := [.ref (ad x1), .ref (ad q_2)]) X G hl.1 cr_X10_156 (c_X10_speaker l hz_6) ⟨rfl, rfl⟩ rfl rfl rfl (by decide) hc_1 rfl ⟨Nat.le_of_ble_eq_true rfl, Nat.le_of_ble_eq_true rfl⟩ (Nat.le_of_ble_eq_true rfl) dX10_spellAll_10 ⟨Nat.zero_le _, Nat.zero_le _⟩ (fun H locs G => ?_)
  obtain ⟨hc_9, hf⟩ := aw_chk_some hf
  obtain ⟨z_7, hz_8, hf⟩ := aw_bind_some hf
  refine aw_VV (As := [.ref (ad x1), .ref (ad z_5.1)]) (rest := []) X G hl.1 cr_X10_379 (c_X7_take l hz_8) ⟨rfl, rfl⟩ rfl rfl rfl (by decide) hc_9 rfl ⟨Nat.le_of_ble_eq_true rfl, Nat.le_of_ble_eq_true rfl⟩ (Nat.le_of_ble_eq_true rfl) dX10_spellAll_13 ⟨Nat.zero_le _, Nat.zero_le _⟩ (fun H locs G => ?_)
  exact aw_retv X G hf dX10_spellAll_16
def rm_X10_spellBoth : Room := { frames := 4, cells := 0, slots := 0, locals := 95 }
def f_X10_spellBoth (σ : Sg) (x0 : Nat) (x1 : Int32) (x2 : Int32) (d : Dt) : Option (Unit × Dt) :=
  aw_chk (aw_O σ 10 13 x0) ((σ.2.2 x0 3).bind (fun q_2 => aw_chk (aw_I σ 26 q_2 x1) ((σ.2.2 q_2 x1.toNatClampNeg).bind (fun q_5 => (f_X10_spellAll σ x0 q_5 d).bind (fun z_7 => (σ.2.2 x0 8).bind (fun q_9 => aw_chk (aw_I σ 26 q_2 x2) ((σ.2.2 q_2 x2.toNatClampNeg).bind (fun q_12 => aw_chk (aw_O σ 1 5 q_12) ((f_X10_speaker σ x0 (z_7.2.1 q_12 1) z_7.2).bind (fun z_15 => aw_chk (aw_O σ 7 3 q_9) ((f_X7_take σ q_9 q_12 z_15.1 z_15.2).bind (fun z_17 => some ((), z_17.2)))))))))))))
section W_X10_spellBoth
variable {p : Program} {l : Launch} {e : Env} {s : State} {m : MethodId} {args : Array Value} {below : List Frame} {meth : Method} {c : Code}
variable {D : va_G} {cA : Nat → ClassId} {base : Nat} {ad : Nat → Nat} {σ : Sg}
end W_X10_spellBoth
set_option maxHeartbeats 4000000 in
set_option maxRecDepth 100000 in
theorem c_X10_spellBoth (l : Launch) {σ : Sg} {x0 : Nat} {x1 : Int32} {x2 : Int32} {d : Dt} {z : Unit × Dt} (hf : f_X10_spellBoth σ x0 x1 x2 d = some z) : aw_Mv l yX10_spellBoth (Cond.code yX10_spellBoth cX10_spellBoth 3 (none)) rm_X10_spellBoth (fun ad => [.ref (ad x0), .int x1, .int x2]) σ d z := by
  intro D cA base ad
  refine aw_ofW (own := RX10) (cc := cX10_spellBoth) (nL := 3) (ret := none) (by decide) rfl rfl ?_
  intro p e s m below meth c X hnm G
  have hx := X.1; have hb := X.2.1; have hml := X.2.2.1; have hown := X.2.2.2.1
  refine aw_ls (lv := [(0, .ref (ad x0)), (1, .int x1), (2, .int x2)]) (Nat.le_of_ble_eq_true rfl) rfl (fun ls hl => ?_)
  unfold f_X10_spellBoth at hf
  refine lv_aload_n hx hb dX10_spellBoth_0 rfl (lv_at hl 0 rfl) ?_
  refine lv_aload_n hx hb dX10_spellBoth_1 rfl (lv_at hl 0 rfl) ?_
  obtain ⟨hc_1, hf⟩ := aw_chk_some hf
  obtain ⟨q_2, hq_3, hf⟩ := aw_bind_some hf
  refine gf_X10_29 hx hb G hown hc_1 hq_3 dX10_spellBoth_2 ?_
  refine lv_iload_n hx hb dX10_spellBoth_5 rfl (lv_at hl 1 rfl) ?_
  obtain ⟨hc_4, hf⟩ := aw_chk_some hf
  obtain ⟨q_5, hq_6, hf⟩ := aw_bind_some hf
  refine aw_qal hx hb G 26 _ rfl rfl (by decide) hc_4 hq_6 dX10_spellBoth_6 ?_
  obtain ⟨z_7, hz_8, hf⟩ := aw_bind_some hf
  refine aw_VV (As := [.ref (ad q_5)]) (rest := []) X G hl.1 cr_X10_203 (c_X10_spellAll l hz_8) ⟨rfl, rfl⟩ rfl rfl rfl (by decide) hc_1 rfl ⟨Nat.le_of_ble_eq_true rfl, Nat.le_of_ble_eq_true rfl⟩ (Nat.le_of_ble_eq_true rfl) dX10_spellBoth_7 ⟨Nat.zero_le _, Nat.zero_le _⟩ (fun H locs G => ?_)
  refine lv_aload_n hx hb dX10_spellBoth_10 rfl (lv_at hl 0 rfl) ?_
  obtain ⟨q_9, hq_10, hf⟩ := aw_bind_some hf
  refine gf_X10_58 hx hb G hown hc_1 hq_10 dX10_spellBoth_11 ?_
  refine lv_aload_n hx hb dX10_spellBoth_14 rfl (lv_at hl 0 rfl) ?_
  refine gf_X10_29 hx hb G hown hc_1 hq_3 dX10_spellBoth_15 ?_
  refine lv_iload_n hx hb dX10_spellBoth_18 rfl (lv_at hl 2 rfl) ?_
  obtain ⟨hc_11, hf⟩ := aw_chk_some hf
  obtain ⟨q_12, hq_13, hf⟩ := aw_bind_some hf
  refine aw_qal hx hb G 26 _ rfl rfl (by decide) hc_11 hq_13 dX10_spellBoth_19 ?_
  refine lv_aload_n hx hb dX10_spellBoth_20 rfl (lv_at hl 0 rfl) ?_
  refine lv_aload_n hx hb dX10_spellBoth_21 rfl (lv_at hl 0 rfl) ?_
  refine gf_X10_29 hx hb G hown hc_1 hq_3 dX10_spellBoth_22 ?_
  refine lv_iload_n hx hb dX10_spellBoth_25 rfl (lv_at hl 2 rfl) ?_
  refine aw_qal hx hb G 26 _ rfl rfl (by decide) hc_11 hq_13 dX10_spellBoth_26 ?_
  obtain ⟨hc_14, hf⟩ := aw_chk_some hf
  refine gf_X10_376 hx hb G hown hc_14 dX10_spellBoth_27 ?_
  obtain ⟨z_15, hz_16, hf⟩ := aw_bind_some hf
  refine aw_VR (As := [.int (z_7.2.1 q_12 1)]) (rest := [.ref (ad q_12), .ref (ad q_9)]) X G hl.1 cr_X10_156 (c_X10_speaker l hz_16) ⟨rfl, rfl⟩ rfl rfl rfl (by decide) hc_1 rfl ⟨Nat.le_of_ble_eq_true rfl, Nat.le_of_ble_eq_true rfl⟩ (Nat.le_of_ble_eq_true rfl) dX10_spellBoth_30 ⟨Nat.zero_le _, Nat.zero_le _⟩ (fun H locs G => ?_)
  obtain ⟨hc_19, hf⟩ := aw_chk_some hf
  obtain ⟨z_17, hz_18, hf⟩ := aw_bind_some hf
  refine aw_VV (As := [.ref (ad q_12), .ref (ad z_15.1)]) (rest := []) X G hl.1 cr_X10_379 (c_X7_take l hz_18) ⟨rfl, rfl⟩ rfl rfl rfl (by decide) hc_19 rfl ⟨Nat.le_of_ble_eq_true rfl, Nat.le_of_ble_eq_true rfl⟩ (Nat.le_of_ble_eq_true rfl) dX10_spellBoth_33 ⟨Nat.zero_le _, Nat.zero_le _⟩ (fun H locs G => ?_)
  exact aw_retv X G hf dX10_spellBoth_36
